def trI (o : Nat → Nat) (G : ab_G) (z_ : Nat) (nd : Int) (ns : Int) (lv : Int) (dn : Int) (dh : Int) (re : Int) (fr : List Fr) (rp : Int) (ls : Int) (dz : Int) (SV : Int → Int → Prop) (FS : List Fs) (ro : Sn) (vv : Sn) (dv : Sn) (RL : Int → Int) (RH : Int → Int) (rg : Int) (nu9 : Int) (fo9 : Int) : Prop := ∃ K : Int → Int, ∃ O : Int → Int, ∃ Fi : Int → Int, ∃ Be : Int → Int, ∃ Le : Int → Int, ∃ Mo : Int → Int, ∃ Z : Int → Int, ∃ LZ : Int → Int, ∃ SM : Int → Int, ∃ SA : Int → Int, ∃ QF : Int → Int, ∃ QL : Int → Int, ∃ AF : Int → Int, ∃ AL : Int → Int, ∃ SD : Int → Int, ∃ OA : Int → Int, ∃ OF : Int → Int, ∃ ON : Int → Int, cc o G 94 294 (za 4200 K) ∧ cc o G 95 295 (za 4200 O) ∧ cc o G 96 296 (za 4200 Fi) ∧ cc o G 97 297 (za 4200 Be) ∧ cc o G 98 298 (za 4200 Le) ∧ cc o G 99 299 (za 4200 Mo) ∧ cc o G 100 300 (zl 4200 Z) ∧ cc o G 101 301 (zb 4200 LZ) ∧ cc o G 90 290 (za 2100 SM) ∧ cc o G 89 289 (za 2100 SA) ∧ cc o G 105 305 (za 32 QF) ∧ cc o G 106 306 (za 32 QL) ∧ cc o G 107 307 (za 32 AF) ∧ cc o G 108 308 (za 32 AL) ∧ cc o G 109 309 (za 32 SD) ∧ cc o G 102 302 (za 32 OA) ∧ cc o G 103 303 (za 32 OF) ∧ cc o G 104 304 (za 32 ON) ∧ (rgs K 4200 0 7) ∧ (rgs O 4200 (-1) 3000) ∧ (rgs Fi 4200 (-1) 4199) ∧ (rgs Be 4200 (-1) 4199) ∧ (rgs Le 4200 0 1000) ∧ (rgs Mo 4200 (-1) 1000) ∧ (rgs Z 4200 (-1) 1000000000000) ∧ (rgs LZ 4200 0 1) ∧ (rgs SM 2100 0 24000) ∧ (rgs SA 2100 0 24000) ∧ (rgs QF 32 (-1) 4199) ∧ (rgs QL 32 0 4199) ∧ (rgs AF 32 (-1) 4199) ∧ (rgs AL 32 0 4199) ∧ (rgs SD 32 0 2) ∧ (rgs OA 32 (-1) 2100) ∧ (rgs OF 32 (-2147483648) 2147483647) ∧ (rgs ON 32 0 9) ∧ (rtK K O Fi Be Le Mo Z SM QF QL AF AL SD OA OF ON LZ SV nd ns lv dn dh fr rp ls dz FS ro vv dv) ∧ (0 ≤ nd ∧ nd ≤ 4200 ∧ 0 ≤ ns ∧ ns ≤ 2100) ∧ (re = 1 → QF (lv - 1) < 0 ∧ 0 ≤ AF (lv - 1)) ∧ (re = 2 → SD (lv - 1) = 1) ∧ (re = 3 → Z dn ≤ 400) ∧ (re = 5 → K dn = 5) ∧ (re = 6 → ¬ K dn = 4 ∧ ¬ K dn = 5) ∧ (re = 5 → ON lv = nu9 ∧ (lv = 0 ∨ OF lv = fo9)) ∧ (sas SA SM ns) ∧ (svR SA SM RL RH SV ns rg)
set_option maxRecDepth 100000 in
theorem trI.fr {o o2 : Nat → Nat} {S : List Nat} {G G2 : ab_G} {z_ : Nat} {nd : Int} {ns : Int} {lv : Int} {dn : Int} {dh : Int} {re : Int} {fr : List Fr} {rp : Int} {ls : Int} {dz : Int} {SV : Int → Int → Prop} {FS : List Fs} {ro : Sn} {vv : Sn} {dv : Sn} {RL : Int → Int} {RH : Int → Int} {rg : Int} {nu9 : Int} {fo9 : Int} (hf : fx o o2 S G G2) (h : trI o G z_ nd ns lv dn dh re fr rp ls dz SV FS ro vv dv RL RH rg nu9 fo9) (n0 : ¬ 294 ∈ S) (n1 : ¬ 295 ∈ S) (n2 : ¬ 296 ∈ S) (n3 : ¬ 297 ∈ S) (n4 : ¬ 298 ∈ S) (n5 : ¬ 299 ∈ S) (n6 : ¬ 300 ∈ S) (n7 : ¬ 301 ∈ S) (n8 : ¬ 290 ∈ S) (n9 : ¬ 289 ∈ S) (n10 : ¬ 305 ∈ S) (n11 : ¬ 306 ∈ S) (n12 : ¬ 307 ∈ S) (n13 : ¬ 308 ∈ S) (n14 : ¬ 309 ∈ S) (n15 : ¬ 302 ∈ S) (n16 : ¬ 303 ∈ S) (n17 : ¬ 304 ∈ S) : trI o2 G2 z_ nd ns lv dn dh re fr rp ls dz SV FS ro vv dv RL RH rg nu9 fo9 := by
  obtain ⟨K, O, Fi, Be, Le, Mo, Z, LZ, SM, SA, QF, QL, AF, AL, SD, OA, OF, ON, c_94, c_95, c_96, c_97, c_98, c_99, c_100, c_101, c_90, c_89, c_105, c_106, c_107, c_108, c_109, c_102, c_103, c_104, k_jk, k_jo, k_jfi, k_jbe, k_jle, k_jmo, k_jz, k_jlz, k_jsm, k_jsa, k_jqf, k_jql, k_jaf, k_jal, k_jsd, k_joa, k_jof, k_jon, k_jt, k_cnd, k_cre, k_crs, k_crz, k_ck5, k_ck6, k_ck7, k_jss, k_jsv⟩ := h
  exact ⟨K, O, Fi, Be, Le, Mo, Z, LZ, SM, SA, QF, QL, AF, AL, SD, OA, OF, ON, hf.get c_94 n0, hf.get c_95 n1, hf.get c_96 n2, hf.get c_97 n3, hf.get c_98 n4, hf.get c_99 n5, hf.get c_100 n6, hf.get c_101 n7, hf.get c_90 n8, hf.get c_89 n9, hf.get c_105 n10, hf.get c_106 n11, hf.get c_107 n12, hf.get c_108 n13, hf.get c_109 n14, hf.get c_102 n15, hf.get c_103 n16, hf.get c_104 n17, k_jk, k_jo, k_jfi, k_jbe, k_jle, k_jmo, k_jz, k_jlz, k_jsm, k_jsa, k_jqf, k_jql, k_jaf, k_jal, k_jsd, k_joa, k_jof, k_jon, k_jt, k_cnd, k_cre, k_crs, k_crz, k_ck5, k_ck6, k_ck7, k_jss, k_jsv⟩
set_option maxRecDepth 100000 in
set_option maxHeartbeats 4000000 in
theorem z_MO_atMost {X : ab_X} {d : Nat} {o : Nat → Nat} {G : ab_G} {x : Int} (cx : -1000000000000000 ≤ x ∧ x ≤ 1000000000000000) : ab_F X d y_MO_atMost (.code y_MO_atMost b_MO_atMost 2 (some (.long))) [vj x] G (fun oc G2 => (oc = .returned (some (vj x)) ∧ G2 = G ∧ (x ≤ 1000000000000)) ∨ (oc = .returned (some (vj 1000000000000)) ∧ G2 = G ∧ (1000000000000 ≤ x))) := by
  refine ab_F_of (by decide +kernel) (Nat.le_of_ble_eq_true rfl) ?_
  obtain ⟨Q, hQ⟩ : ∃ z : Outcome → ab_G → Prop, z = (fun oc G2 => (oc = .returned (some (vj x)) ∧ G2 = G ∧ (x ≤ 1000000000000)) ∨ (oc = .returned (some (vj 1000000000000)) ∧ G2 = G ∧ (1000000000000 ≤ x))) := ⟨_, rfl⟩
  rw [← hQ]
  change ab_W X (ab_pl y_MO_atMost b_MO_atMost 2 (some (.long))) d G 0 [some (vj x), none] [] Q
  have hfr : fx o o [] G G := fx.rf
  have hlen : G.length = G.length := rfl
  have hsl : ab_slots G = ab_slots G := rfl
  refine ab_lload_n d_MO_atMost_0 rfl ?_
  refine zz_ldc2 1000000000000 d_MO_atMost_1 cn_MO_267 ?_
  refine zz_lcmp d_MO_atMost_4 (by omega) (by omega) (fun c1a => ?_) (fun c1a c1b => ?_) (fun c1a => ?_)
  · refine zz_if_le (tgt := 14) d_MO_atMost_5 (by decide) (by decide) (fun c2 => ?_) (fun c2 => absurd c2 (by decide))
    refine ab_lload_n d_MO_atMost_14 rfl ?_
    refine ab_lret rfl d_MO_atMost_15 ?_
    rw [hQ]; exact (Or.inl ⟨rfl, rfl, (by omega)⟩)
  · refine zz_if_le (tgt := 14) d_MO_atMost_5 (by decide) (by decide) (fun c3 => ?_) (fun c3 => absurd c3 (by decide))
    refine ab_lload_n d_MO_atMost_14 rfl ?_
    refine ab_lret rfl d_MO_atMost_15 ?_
    rw [hQ]; exact (Or.inl ⟨rfl, rfl, (by omega)⟩)
  · refine zz_if_le (tgt := 14) d_MO_atMost_5 (by decide) (by decide) (fun c4 => absurd c4 (by decide)) (fun c4 => ?_)
    refine zz_ldc2 1000000000000 d_MO_atMost_8 cn_MO_267 ?_
    refine ab_goto (tgt := 15) d_MO_atMost_11 (by decide) ?_
    refine ab_lret rfl d_MO_atMost_15 ?_
    rw [hQ]; exact (Or.inr ⟨rfl, rfl, (by omega)⟩)
set_option maxRecDepth 100000 in
set_option maxHeartbeats 4000000 in
theorem z_MO_node {X : ab_X} {d : Nat} {o : Nat → Nat} {G : ab_G} {m_thrown : Int} {m_taped : Int} {m_length : Int} {m_out : Int} {m_wide : Int} {m_gathered : Int} {m_sets : Int} {m_ranges : Int} {m_nodes : Int} {m_at : Int} {m_flags : Int} {m_fault : Int} {m_place : Int} {m_numbered : Int} {m_depth : Int} {m_value : Int} {m_isNot : Int} {m_least0 : Int} {m_most0 : Int} {m_slot : Int} {m_work : Int} {m_got : Int} {m_rowMany : Int} {m_charAt : Int} {m_charWide : Int} {m_trail : Int} {m_isMatch : Int} {m_matchGroups : Int} {m_allFrom : Int} {m_allBefore : Int} {m_founds : Int} {m_pieces : Int} {m_writtenMany : Int} {m_templateWide : Int} {m_tooMuch : Int} {K : Int → Int} {O : Int → Int} {Fi : Int → Int} {Be : Int → Int} {Z : Int → Int} {k : Int} {w : Int} {zs : Int} (h80 : cc o G 80 280 (ab_ob 12 (mof m_thrown m_taped m_length m_out m_wide m_gathered m_sets m_ranges m_nodes m_at m_flags m_fault m_place m_numbered m_depth m_value m_isNot m_least0 m_most0 m_slot m_work m_got m_rowMany m_charAt m_charWide m_trail m_isMatch m_matchGroups m_allFrom m_allBefore m_founds m_pieces m_writtenMany m_templateWide m_tooMuch))) (h94 : cc o G 94 294 (za 4200 K)) (h95 : cc o G 95 295 (za 4200 O)) (h96 : cc o G 96 296 (za 4200 Fi)) (h97 : cc o G 97 297 (za 4200 Be)) (h100 : cc o G 100 300 (zl 4200 Z)) (n18 : ab_n0 = 18) (cn : 0 ≤ m_nodes ∧ m_nodes < 4200) : ab_F X d y_MO_node (.code y_MO_node b_MO_node 5 (some (.int))) [vR 80, vz k, vz w, vj zs] G (fun oc G2 => oc = .returned (some (vz m_nodes)) ∧ fx o o [280, 294, 295, 296, 297, 300] G G2 ∧ G2.length = G.length ∧ ab_slots G2 = ab_slots G ∧ cc o G2 80 280 (ab_ob 12 (mof m_thrown m_taped m_length m_out m_wide m_gathered m_sets m_ranges (m_nodes + 1) m_at m_flags m_fault m_place m_numbered m_depth m_value m_isNot m_least0 m_most0 m_slot m_work m_got m_rowMany m_charAt m_charWide m_trail m_isMatch m_matchGroups m_allFrom m_allBefore m_founds m_pieces m_writtenMany m_templateWide m_tooMuch)) ∧ cc o G2 94 294 (za 4200 (zu K m_nodes k)) ∧ cc o G2 95 295 (za 4200 (zu O m_nodes w)) ∧ cc o G2 96 296 (za 4200 (zu Fi m_nodes (-1))) ∧ cc o G2 97 297 (za 4200 (zu Be m_nodes (-1))) ∧ cc o G2 100 300 (zl 4200 (zu Z m_nodes zs))) := by
  refine ab_F_of (by decide +kernel) (Nat.le_of_ble_eq_true rfl) ?_
  obtain ⟨Q, hQ⟩ : ∃ z : Outcome → ab_G → Prop, z = (fun oc G2 => oc = .returned (some (vz m_nodes)) ∧ fx o o [280, 294, 295, 296, 297, 300] G G2 ∧ G2.length = G.length ∧ ab_slots G2 = ab_slots G ∧ cc o G2 80 280 (ab_ob 12 (mof m_thrown m_taped m_length m_out m_wide m_gathered m_sets m_ranges (m_nodes + 1) m_at m_flags m_fault m_place m_numbered m_depth m_value m_isNot m_least0 m_most0 m_slot m_work m_got m_rowMany m_charAt m_charWide m_trail m_isMatch m_matchGroups m_allFrom m_allBefore m_founds m_pieces m_writtenMany m_templateWide m_tooMuch)) ∧ cc o G2 94 294 (za 4200 (zu K m_nodes k)) ∧ cc o G2 95 295 (za 4200 (zu O m_nodes w)) ∧ cc o G2 96 296 (za 4200 (zu Fi m_nodes (-1))) ∧ cc o G2 97 297 (za 4200 (zu Be m_nodes (-1))) ∧ cc o G2 100 300 (zl 4200 (zu Z m_nodes zs))) := ⟨_, rfl⟩
  rw [← hQ]
  change ab_W X (ab_pl y_MO_node b_MO_node 5 (some (.int))) d G 0 [some (vR 80), some (vz k), some (vz w), some (vj zs), none] [] Q
  have hfr : fx o o [280, 294, 295, 296, 297, 300] G G := fx.rf
  have hlen : G.length = G.length := rfl
  have hsl : ab_slots G = ab_slots G := rfl
  refine ab_aload_n d_MO_node_0 rfl ?_
  refine ab_getf (fs := mof m_thrown m_taped m_length m_out m_wide m_gathered m_sets m_ranges m_nodes m_at m_flags m_fault m_place m_numbered m_depth m_value m_isNot m_least0 m_most0 m_slot m_work m_got m_rowMany m_charAt m_charWide m_trail m_isMatch m_matchGroups m_allFrom m_allBefore m_founds m_pieces m_writtenMany m_templateWide m_tooMuch) f_MO_50 d_MO_node_1 h80.2.2 rfl ?_
  refine ab_aload_n d_MO_node_4 rfl ?_
  refine ab_getf (fs := mof m_thrown m_taped m_length m_out m_wide m_gathered m_sets m_ranges m_nodes m_at m_flags m_fault m_place m_numbered m_depth m_value m_isNot m_least0 m_most0 m_slot m_work m_got m_rowMany m_charAt m_charWide m_trail m_isMatch m_matchGroups m_allFrom m_allBefore m_founds m_pieces m_writtenMany m_templateWide m_tooMuch) f_MO_264 d_MO_node_5 h80.2.2 rfl ?_
  refine ab_iload_n d_MO_node_8 rfl ?_
  refine zz_iast d_MO_node_9 h94 (by omega) (h94.2.1 (by decide)) ?_
  obtain ⟨G1, eG1⟩ : ∃ z : ab_G, z = List.set G 94 (za 4200 (zu K m_nodes k)) := ⟨_, rfl⟩
  have h80 := h80.keep h94 eG1 (by decide)
  have h95 := h95.keep h94 eG1 (by decide)
  have h96 := h96.keep h94 eG1 (by decide)
  have h97 := h97.keep h94 eG1 (by decide)
  have h100 := h100.keep h94 eG1 (by decide)
  have hlen := (z_len eG1).trans hlen
  have hsl := (z_sl h94 eG1 rfl).trans hsl
  have hfr := hfr.wr h94 eG1 (by decide)
  have h94 := h94.kept eG1
  change ab_W _ _ _ (List.set G 94 (za 4200 (zu K m_nodes k))) 10 [some (vR 80), some (vz k), some (vz w), some (vj zs), none] [] _
  rw [← eG1]
  refine ab_aload_n d_MO_node_10 rfl ?_
  refine ab_getf (fs := mof m_thrown m_taped m_length m_out m_wide m_gathered m_sets m_ranges m_nodes m_at m_flags m_fault m_place m_numbered m_depth m_value m_isNot m_least0 m_most0 m_slot m_work m_got m_rowMany m_charAt m_charWide m_trail m_isMatch m_matchGroups m_allFrom m_allBefore m_founds m_pieces m_writtenMany m_templateWide m_tooMuch) f_MO_53 d_MO_node_11 h80.2.2 rfl ?_
  refine ab_aload_n d_MO_node_14 rfl ?_
  refine ab_getf (fs := mof m_thrown m_taped m_length m_out m_wide m_gathered m_sets m_ranges m_nodes m_at m_flags m_fault m_place m_numbered m_depth m_value m_isNot m_least0 m_most0 m_slot m_work m_got m_rowMany m_charAt m_charWide m_trail m_isMatch m_matchGroups m_allFrom m_allBefore m_founds m_pieces m_writtenMany m_templateWide m_tooMuch) f_MO_264 d_MO_node_15 h80.2.2 rfl ?_
  refine ab_iload_n d_MO_node_18 rfl ?_
  refine zz_iast d_MO_node_19 h95 (by omega) (h95.2.1 (by decide)) ?_
  obtain ⟨G2, eG2⟩ : ∃ z : ab_G, z = List.set G1 95 (za 4200 (zu O m_nodes w)) := ⟨_, rfl⟩
  have h80 := h80.keep h95 eG2 (by decide)
  have h94 := h94.keep h95 eG2 (by decide)
  have h96 := h96.keep h95 eG2 (by decide)
  have h97 := h97.keep h95 eG2 (by decide)
  have h100 := h100.keep h95 eG2 (by decide)
  have hlen := (z_len eG2).trans hlen
  have hsl := (z_sl h95 eG2 rfl).trans hsl
  have hfr := hfr.wr h95 eG2 (by decide)
  have h95 := h95.kept eG2
  change ab_W _ _ _ (List.set G1 95 (za 4200 (zu O m_nodes w))) 20 [some (vR 80), some (vz k), some (vz w), some (vj zs), none] [] _
  rw [← eG2]
  refine ab_aload_n d_MO_node_20 rfl ?_
  refine ab_getf (fs := mof m_thrown m_taped m_length m_out m_wide m_gathered m_sets m_ranges m_nodes m_at m_flags m_fault m_place m_numbered m_depth m_value m_isNot m_least0 m_most0 m_slot m_work m_got m_rowMany m_charAt m_charWide m_trail m_isMatch m_matchGroups m_allFrom m_allBefore m_founds m_pieces m_writtenMany m_templateWide m_tooMuch) f_MO_56 d_MO_node_21 h80.2.2 rfl ?_
  refine ab_aload_n d_MO_node_24 rfl ?_
  refine ab_getf (fs := mof m_thrown m_taped m_length m_out m_wide m_gathered m_sets m_ranges m_nodes m_at m_flags m_fault m_place m_numbered m_depth m_value m_isNot m_least0 m_most0 m_slot m_work m_got m_rowMany m_charAt m_charWide m_trail m_isMatch m_matchGroups m_allFrom m_allBefore m_founds m_pieces m_writtenMany m_templateWide m_tooMuch) f_MO_264 d_MO_node_25 h80.2.2 rfl ?_
  refine zz_iconst d_MO_node_28 ?_
  refine zz_iast d_MO_node_29 h96 (by omega) (h96.2.1 (by decide)) ?_
  obtain ⟨G3, eG3⟩ : ∃ z : ab_G, z = List.set G2 96 (za 4200 (zu Fi m_nodes (-1))) := ⟨_, rfl⟩
  have h80 := h80.keep h96 eG3 (by decide)
  have h94 := h94.keep h96 eG3 (by decide)
  have h95 := h95.keep h96 eG3 (by decide)
  have h97 := h97.keep h96 eG3 (by decide)
  have h100 := h100.keep h96 eG3 (by decide)
  have hlen := (z_len eG3).trans hlen
  have hsl := (z_sl h96 eG3 rfl).trans hsl
  have hfr := hfr.wr h96 eG3 (by decide)
  have h96 := h96.kept eG3
  change ab_W _ _ _ (List.set G2 96 (za 4200 (zu Fi m_nodes (-1)))) 30 [some (vR 80), some (vz k), some (vz w), some (vj zs), none] [] _
  rw [← eG3]
  refine ab_aload_n d_MO_node_30 rfl ?_
  refine ab_getf (fs := mof m_thrown m_taped m_length m_out m_wide m_gathered m_sets m_ranges m_nodes m_at m_flags m_fault m_place m_numbered m_depth m_value m_isNot m_least0 m_most0 m_slot m_work m_got m_rowMany m_charAt m_charWide m_trail m_isMatch m_matchGroups m_allFrom m_allBefore m_founds m_pieces m_writtenMany m_templateWide m_tooMuch) f_MO_59 d_MO_node_31 h80.2.2 rfl ?_
  refine ab_aload_n d_MO_node_34 rfl ?_
  refine ab_getf (fs := mof m_thrown m_taped m_length m_out m_wide m_gathered m_sets m_ranges m_nodes m_at m_flags m_fault m_place m_numbered m_depth m_value m_isNot m_least0 m_most0 m_slot m_work m_got m_rowMany m_charAt m_charWide m_trail m_isMatch m_matchGroups m_allFrom m_allBefore m_founds m_pieces m_writtenMany m_templateWide m_tooMuch) f_MO_264 d_MO_node_35 h80.2.2 rfl ?_
  refine zz_iconst d_MO_node_38 ?_
  refine zz_iast d_MO_node_39 h97 (by omega) (h97.2.1 (by decide)) ?_
  obtain ⟨G4, eG4⟩ : ∃ z : ab_G, z = List.set G3 97 (za 4200 (zu Be m_nodes (-1))) := ⟨_, rfl⟩
  have h80 := h80.keep h97 eG4 (by decide)
  have h94 := h94.keep h97 eG4 (by decide)
  have h95 := h95.keep h97 eG4 (by decide)
  have h96 := h96.keep h97 eG4 (by decide)
  have h100 := h100.keep h97 eG4 (by decide)
  have hlen := (z_len eG4).trans hlen
  have hsl := (z_sl h97 eG4 rfl).trans hsl
  have hfr := hfr.wr h97 eG4 (by decide)
  have h97 := h97.kept eG4
  change ab_W _ _ _ (List.set G3 97 (za 4200 (zu Be m_nodes (-1)))) 40 [some (vR 80), some (vz k), some (vz w), some (vj zs), none] [] _
  rw [← eG4]
  refine ab_aload_n d_MO_node_40 rfl ?_
  refine ab_getf (fs := mof m_thrown m_taped m_length m_out m_wide m_gathered m_sets m_ranges m_nodes m_at m_flags m_fault m_place m_numbered m_depth m_value m_isNot m_least0 m_most0 m_slot m_work m_got m_rowMany m_charAt m_charWide m_trail m_isMatch m_matchGroups m_allFrom m_allBefore m_founds m_pieces m_writtenMany m_templateWide m_tooMuch) f_MO_68 d_MO_node_41 h80.2.2 rfl ?_
  refine ab_aload_n d_MO_node_44 rfl ?_
  refine ab_getf (fs := mof m_thrown m_taped m_length m_out m_wide m_gathered m_sets m_ranges m_nodes m_at m_flags m_fault m_place m_numbered m_depth m_value m_isNot m_least0 m_most0 m_slot m_work m_got m_rowMany m_charAt m_charWide m_trail m_isMatch m_matchGroups m_allFrom m_allBefore m_founds m_pieces m_writtenMany m_templateWide m_tooMuch) f_MO_264 d_MO_node_45 h80.2.2 rfl ?_
  refine ab_lload_n d_MO_node_48 rfl ?_
  refine zz_last d_MO_node_49 h100 (by omega) (h100.2.1 (by decide)) ?_
  obtain ⟨G5, eG5⟩ : ∃ z : ab_G, z = List.set G4 100 (zl 4200 (zu Z m_nodes zs)) := ⟨_, rfl⟩
  have h80 := h80.keep h100 eG5 (by decide)
  have h94 := h94.keep h100 eG5 (by decide)
  have h95 := h95.keep h100 eG5 (by decide)
  have h96 := h96.keep h100 eG5 (by decide)
  have h97 := h97.keep h100 eG5 (by decide)
  have hlen := (z_len eG5).trans hlen
  have hsl := (z_sl h100 eG5 rfl).trans hsl
  have hfr := hfr.wr h100 eG5 (by decide)
  have h100 := h100.kept eG5
  change ab_W _ _ _ (List.set G4 100 (zl 4200 (zu Z m_nodes zs))) 50 [some (vR 80), some (vz k), some (vz w), some (vj zs), none] [] _
  rw [← eG5]
  refine ab_aload_n d_MO_node_50 rfl ?_
  refine ab_dup d_MO_node_51 rfl ?_
  refine ab_getf (fs := mof m_thrown m_taped m_length m_out m_wide m_gathered m_sets m_ranges m_nodes m_at m_flags m_fault m_place m_numbered m_depth m_value m_isNot m_least0 m_most0 m_slot m_work m_got m_rowMany m_charAt m_charWide m_trail m_isMatch m_matchGroups m_allFrom m_allBefore m_founds m_pieces m_writtenMany m_templateWide m_tooMuch) f_MO_264 d_MO_node_52 h80.2.2 rfl ?_
  refine zz_iconst d_MO_node_55 ?_
  refine zz_iadd d_MO_node_56 ?_
  refine ab_putf (fs := mof m_thrown m_taped m_length m_out m_wide m_gathered m_sets m_ranges m_nodes m_at m_flags m_fault m_place m_numbered m_depth m_value m_isNot m_least0 m_most0 m_slot m_work m_got m_rowMany m_charAt m_charWide m_trail m_isMatch m_matchGroups m_allFrom m_allBefore m_founds m_pieces m_writtenMany m_templateWide m_tooMuch) f_MO_264 (Or.inl rfl) d_MO_node_57 h80.2.2 (Nat.le_of_ble_eq_true rfl) (fun _ => ⟨rfl, rfl⟩) (h80.2.1 (by decide)) ?_
  obtain ⟨G6, eG6⟩ : ∃ z : ab_G, z = List.set G5 80 (ab_ob 12 (mof m_thrown m_taped m_length m_out m_wide m_gathered m_sets m_ranges (m_nodes + 1) m_at m_flags m_fault m_place m_numbered m_depth m_value m_isNot m_least0 m_most0 m_slot m_work m_got m_rowMany m_charAt m_charWide m_trail m_isMatch m_matchGroups m_allFrom m_allBefore m_founds m_pieces m_writtenMany m_templateWide m_tooMuch)) := ⟨_, rfl⟩
  have h94 := h94.keep h80 eG6 (by decide)
  have h95 := h95.keep h80 eG6 (by decide)
  have h96 := h96.keep h80 eG6 (by decide)
  have h97 := h97.keep h80 eG6 (by decide)
  have h100 := h100.keep h80 eG6 (by decide)
  have hlen := (z_len eG6).trans hlen
  have hsl := (z_sl h80 eG6 rfl).trans hsl
  have hfr := hfr.wr h80 eG6 (by decide)
  have h80 := h80.kept eG6
  change ab_W _ _ _ (List.set G5 80 (ab_ob 12 (mof m_thrown m_taped m_length m_out m_wide m_gathered m_sets m_ranges (m_nodes + 1) m_at m_flags m_fault m_place m_numbered m_depth m_value m_isNot m_least0 m_most0 m_slot m_work m_got m_rowMany m_charAt m_charWide m_trail m_isMatch m_matchGroups m_allFrom m_allBefore m_founds m_pieces m_writtenMany m_templateWide m_tooMuch))) 60 [some (vR 80), some (vz k), some (vz w), some (vj zs), none] [] _
  rw [← eG6]
  refine ab_aload_n d_MO_node_60 rfl ?_
  refine ab_getf (fs := mof m_thrown m_taped m_length m_out m_wide m_gathered m_sets m_ranges (m_nodes + 1) m_at m_flags m_fault m_place m_numbered m_depth m_value m_isNot m_least0 m_most0 m_slot m_work m_got m_rowMany m_charAt m_charWide m_trail m_isMatch m_matchGroups m_allFrom m_allBefore m_founds m_pieces m_writtenMany m_templateWide m_tooMuch) f_MO_264 d_MO_node_61 h80.2.2 rfl ?_
  refine zz_iconst d_MO_node_64 ?_
  refine zz_isub d_MO_node_65 ?_
  refine zz_top (y := m_nodes) (by omega) ?_
  change ab_W _ _ _ G6 66 [some (vR 80), some (vz k), some (vz w), some (vj zs), none] [vz m_nodes] _
  refine zz_iret rfl d_MO_node_66 ?_
  rw [hQ]; exact ⟨rfl, hfr, hlen, hsl, h80, h94, h95, h96, h97, h100⟩
set_option maxRecDepth 100000 in
set_option maxHeartbeats 4000000 in
theorem z_MO_setNode {X : ab_X} {d : Nat} {o : Nat → Nat} {G : ab_G} {m_thrown : Int} {m_taped : Int} {m_length : Int} {m_out : Int} {m_wide : Int} {m_gathered : Int} {m_sets : Int} {m_ranges : Int} {m_nodes : Int} {m_at : Int} {m_flags : Int} {m_fault : Int} {m_place : Int} {m_numbered : Int} {m_depth : Int} {m_value : Int} {m_isNot : Int} {m_least0 : Int} {m_most0 : Int} {m_slot : Int} {m_work : Int} {m_got : Int} {m_rowMany : Int} {m_charAt : Int} {m_charWide : Int} {m_trail : Int} {m_isMatch : Int} {m_matchGroups : Int} {m_allFrom : Int} {m_allBefore : Int} {m_founds : Int} {m_pieces : Int} {m_writtenMany : Int} {m_templateWide : Int} {m_tooMuch : Int} {K : Int → Int} {O : Int → Int} {Fi : Int → Int} {Be : Int → Int} {Z : Int → Int} {SM : Int → Int} {s : Int} {on : Int} (h80 : cc o G 80 280 (ab_ob 12 (mof m_thrown m_taped m_length m_out m_wide m_gathered m_sets m_ranges m_nodes m_at m_flags m_fault m_place m_numbered m_depth m_value m_isNot m_least0 m_most0 m_slot m_work m_got m_rowMany m_charAt m_charWide m_trail m_isMatch m_matchGroups m_allFrom m_allBefore m_founds m_pieces m_writtenMany m_templateWide m_tooMuch))) (h90 : cc o G 90 290 (za 2100 SM)) (h94 : cc o G 94 294 (za 4200 K)) (h95 : cc o G 95 295 (za 4200 O)) (h96 : cc o G 96 296 (za 4200 Fi)) (h97 : cc o G 97 297 (za 4200 Be)) (h100 : cc o G 100 300 (zl 4200 Z)) (n18 : ab_n0 = 18) (cn : 0 ≤ m_nodes ∧ m_nodes < 4200 ∧ 0 ≤ s ∧ s < 2100 ∧ 0 ≤ on ∧ on ≤ 1) (jsm : rgs SM 2100 0 24000) (hd : 1 ≤ d) : ab_F X d y_MO_setNode (.code y_MO_setNode b_MO_setNode 3 (some (.int))) [vR 80, vz s, vz on] G (fun oc G2 => ∃ z2 : Int, oc = .returned (some (vz m_nodes)) ∧ fx o o [280, 294, 295, 296, 297, 300] G G2 ∧ G2.length = G.length ∧ ab_slots G2 = ab_slots G ∧ cc o G2 80 280 (ab_ob 12 (mof m_thrown m_taped m_length m_out m_wide m_gathered m_sets m_ranges (m_nodes + 1) m_at m_flags m_fault m_place m_numbered m_depth m_value m_isNot m_least0 m_most0 m_slot m_work m_got m_rowMany m_charAt m_charWide m_trail m_isMatch m_matchGroups m_allFrom m_allBefore m_founds m_pieces m_writtenMany m_templateWide m_tooMuch)) ∧ cc o G2 94 294 (za 4200 (zu K m_nodes 1)) ∧ cc o G2 95 295 (za 4200 (zu O m_nodes s)) ∧ cc o G2 96 296 (za 4200 (zu Fi m_nodes (-1))) ∧ cc o G2 97 297 (za 4200 (zu Be m_nodes (-1))) ∧ cc o G2 100 300 (zl 4200 (zu Z m_nodes z2)) ∧ ((on = 1 ∧ z2 = 1) ∨ (on = 0 ∧ z2 = 2 + 4 * SM s))) := by
  refine ab_F_of (by decide +kernel) (Nat.le_of_ble_eq_true rfl) ?_
  obtain ⟨Q, hQ⟩ : ∃ z : Outcome → ab_G → Prop, z = (fun oc G2 => ∃ z2 : Int, oc = .returned (some (vz m_nodes)) ∧ fx o o [280, 294, 295, 296, 297, 300] G G2 ∧ G2.length = G.length ∧ ab_slots G2 = ab_slots G ∧ cc o G2 80 280 (ab_ob 12 (mof m_thrown m_taped m_length m_out m_wide m_gathered m_sets m_ranges (m_nodes + 1) m_at m_flags m_fault m_place m_numbered m_depth m_value m_isNot m_least0 m_most0 m_slot m_work m_got m_rowMany m_charAt m_charWide m_trail m_isMatch m_matchGroups m_allFrom m_allBefore m_founds m_pieces m_writtenMany m_templateWide m_tooMuch)) ∧ cc o G2 94 294 (za 4200 (zu K m_nodes 1)) ∧ cc o G2 95 295 (za 4200 (zu O m_nodes s)) ∧ cc o G2 96 296 (za 4200 (zu Fi m_nodes (-1))) ∧ cc o G2 97 297 (za 4200 (zu Be m_nodes (-1))) ∧ cc o G2 100 300 (zl 4200 (zu Z m_nodes z2)) ∧ ((on = 1 ∧ z2 = 1) ∨ (on = 0 ∧ z2 = 2 + 4 * SM s))) := ⟨_, rfl⟩
  rw [← hQ]
  change ab_W X (ab_pl y_MO_setNode b_MO_setNode 3 (some (.int))) d G 0 [some (vR 80), some (vz s), some (vz on)] [] Q
  have hfr : fx o o [280, 294, 295, 296, 297, 300] G G := fx.rf
  have hlen : G.length = G.length := rfl
  have hsl : ab_slots G = ab_slots G := rfl
  refine ab_aload_n d_MO_setNode_0 rfl ?_
  refine zz_iconst d_MO_setNode_1 ?_
  refine ab_iload_n d_MO_setNode_2 rfl ?_
  refine ab_iload_n d_MO_setNode_3 rfl ?_
  refine zz_if_eq (tgt := 11) d_MO_setNode_4 (by decide) (by omega) (fun c1 => ?_) (fun c1 => ?_)
  · refine zz_iconst d_MO_setNode_11 ?_
    refine zz_iconst d_MO_setNode_12 ?_
    refine ab_aload_n d_MO_setNode_13 rfl ?_
    refine ab_getf (fs := mof m_thrown m_taped m_length m_out m_wide m_gathered m_sets m_ranges m_nodes m_at m_flags m_fault m_place m_numbered m_depth m_value m_isNot m_least0 m_most0 m_slot m_work m_got m_rowMany m_charAt m_charWide m_trail m_isMatch m_matchGroups m_allFrom m_allBefore m_founds m_pieces m_writtenMany m_templateWide m_tooMuch) f_MO_37 d_MO_setNode_14 h80.2.2 rfl ?_
    refine ab_iload_n d_MO_setNode_17 rfl ?_
    refine zz_iald d_MO_setNode_18 h90 (by omega) ?_
    have hq2 := jsm s (by omega) (by omega)
    refine zz_imul d_MO_setNode_19 ?_
    refine zz_iadd d_MO_setNode_20 ?_
    refine zz_i2l d_MO_setNode_21 (by omega) ?_
    refine ab_callV (d' := d - 1) (as := [vz 1, vz s, vj (2 + (4 * (SM s)))]) (st := []) (r := _) (z_MO_node (o := o) (m_thrown := m_thrown) (m_taped := m_taped) (m_length := m_length) (m_out := m_out) (m_wide := m_wide) (m_gathered := m_gathered) (m_sets := m_sets) (m_ranges := m_ranges) (m_nodes := m_nodes) (m_at := m_at) (m_flags := m_flags) (m_fault := m_fault) (m_place := m_place) (m_numbered := m_numbered) (m_depth := m_depth) (m_value := m_value) (m_isNot := m_isNot) (m_least0 := m_least0) (m_most0 := m_most0) (m_slot := m_slot) (m_work := m_work) (m_got := m_got) (m_rowMany := m_rowMany) (m_charAt := m_charAt) (m_charWide := m_charWide) (m_trail := m_trail) (m_isMatch := m_isMatch) (m_matchGroups := m_matchGroups) (m_allFrom := m_allFrom) (m_allBefore := m_allBefore) (m_founds := m_founds) (m_pieces := m_pieces) (m_writtenMany := m_writtenMany) (m_templateWide := m_templateWide) (m_tooMuch := m_tooMuch) (K := K) (O := O) (Fi := Fi) (Be := Be) (Z := Z) (k := 1) (w := s) (zs := (2 + (4 * (SM s)))) h80 h94 h95 h96 h97 h100 (by omega) (by omega)) (fun oc G2 h => by rcases h with ⟨h, _⟩ <;> exact ⟨_, h⟩) (by omega) m_MO_node ml_MO_269 im_MO_node se_MO_node c_MO h80.2.2 (Nat.le_of_ble_eq_true rfl) d_MO_setNode_22 rfl ?_
    intro v G3 hq
    rcases hq with ⟨hv, hfk, hlk, hsk, hN80, hN94, hN95, hN96, hN97, hN100⟩
    cases hv
    have h90 := hfk.get h90 (by decide)
    have hfr := hfr.tr hfk (by decide)
    have hlen := hlk.trans hlen
    have hsl := hsk.trans hsl
    have h80 := hN80
    have h94 := hN94
    have h95 := hN95
    have h96 := hN96
    have h97 := hN97
    have h100 := hN100
    change ab_W _ _ _ G3 25 [some (vR 80), some (vz s), some (vz on)] [vz m_nodes] _
    refine zz_iret rfl d_MO_setNode_25 ?_
    rw [hQ]; exact ⟨_, rfl, hfr, hlen, hsl, h80, h94, h95, h96, h97, h100, (by omega)⟩
  · refine zz_lconst d_MO_setNode_7 ?_
    change ab_W _ _ _ G 8 [some (vR 80), some (vz s), some (vz on)] [vj 1, vz s, vz 1, vR 80] _
    refine ab_goto (tgt := 22) d_MO_setNode_8 (by decide) ?_
    refine ab_callV (d' := d - 1) (as := [vz 1, vz s, vj 1]) (st := []) (r := _) (z_MO_node (o := o) (m_thrown := m_thrown) (m_taped := m_taped) (m_length := m_length) (m_out := m_out) (m_wide := m_wide) (m_gathered := m_gathered) (m_sets := m_sets) (m_ranges := m_ranges) (m_nodes := m_nodes) (m_at := m_at) (m_flags := m_flags) (m_fault := m_fault) (m_place := m_place) (m_numbered := m_numbered) (m_depth := m_depth) (m_value := m_value) (m_isNot := m_isNot) (m_least0 := m_least0) (m_most0 := m_most0) (m_slot := m_slot) (m_work := m_work) (m_got := m_got) (m_rowMany := m_rowMany) (m_charAt := m_charAt) (m_charWide := m_charWide) (m_trail := m_trail) (m_isMatch := m_isMatch) (m_matchGroups := m_matchGroups) (m_allFrom := m_allFrom) (m_allBefore := m_allBefore) (m_founds := m_founds) (m_pieces := m_pieces) (m_writtenMany := m_writtenMany) (m_templateWide := m_templateWide) (m_tooMuch := m_tooMuch) (K := K) (O := O) (Fi := Fi) (Be := Be) (Z := Z) (k := 1) (w := s) (zs := 1) h80 h94 h95 h96 h97 h100 (by omega) (by omega)) (fun oc G2 h => by rcases h with ⟨h, _⟩ <;> exact ⟨_, h⟩) (by omega) m_MO_node ml_MO_269 im_MO_node se_MO_node c_MO h80.2.2 (Nat.le_of_ble_eq_true rfl) d_MO_setNode_22 rfl ?_
    intro v G4 hq
    rcases hq with ⟨hv, hfk, hlk, hsk, hN80, hN94, hN95, hN96, hN97, hN100⟩
    cases hv
    have h90 := hfk.get h90 (by decide)
    have hfr := hfr.tr hfk (by decide)
    have hlen := hlk.trans hlen
    have hsl := hsk.trans hsl
    have h80 := hN80
    have h94 := hN94
    have h95 := hN95
    have h96 := hN96
    have h97 := hN97
    have h100 := hN100
    change ab_W _ _ _ G4 25 [some (vR 80), some (vz s), some (vz on)] [vz m_nodes] _
    refine zz_iret rfl d_MO_setNode_25 ?_
    rw [hQ]; exact ⟨_, rfl, hfr, hlen, hsl, h80, h94, h95, h96, h97, h100, (by omega)⟩
set_option maxRecDepth 100000 in
set_option maxHeartbeats 4000000 in
theorem z_MO_openRow {X : ab_X} {d : Nat} {o : Nat → Nat} {G : ab_G} {m_thrown : Int} {m_taped : Int} {m_length : Int} {m_out : Int} {m_wide : Int} {m_gathered : Int} {m_sets : Int} {m_ranges : Int} {m_nodes : Int} {m_at : Int} {m_flags : Int} {m_fault : Int} {m_place : Int} {m_numbered : Int} {m_depth : Int} {m_value : Int} {m_isNot : Int} {m_least0 : Int} {m_most0 : Int} {m_slot : Int} {m_work : Int} {m_got : Int} {m_rowMany : Int} {m_charAt : Int} {m_charWide : Int} {m_trail : Int} {m_isMatch : Int} {m_matchGroups : Int} {m_allFrom : Int} {m_allBefore : Int} {m_founds : Int} {m_pieces : Int} {m_writtenMany : Int} {m_templateWide : Int} {m_tooMuch : Int} {QF : Int → Int} {SD : Int → Int} (h80 : cc o G 80 280 (ab_ob 12 (mof m_thrown m_taped m_length m_out m_wide m_gathered m_sets m_ranges m_nodes m_at m_flags m_fault m_place m_numbered m_depth m_value m_isNot m_least0 m_most0 m_slot m_work m_got m_rowMany m_charAt m_charWide m_trail m_isMatch m_matchGroups m_allFrom m_allBefore m_founds m_pieces m_writtenMany m_templateWide m_tooMuch))) (h105 : cc o G 105 305 (za 32 QF)) (h109 : cc o G 109 309 (za 32 SD)) (n18 : ab_n0 = 18) (cdp : 0 ≤ m_depth ∧ m_depth ≤ 31) : ab_F X d y_MO_openRow (.code y_MO_openRow b_MO_openRow 1 none) [vR 80] G (fun oc G2 => oc = .returned none ∧ fx o o [305, 309] G G2 ∧ G2.length = G.length ∧ ab_slots G2 = ab_slots G ∧ cc o G2 105 305 (za 32 (zu QF m_depth (-1))) ∧ cc o G2 109 309 (za 32 (zu SD m_depth 0))) := by
  refine ab_F_of (by decide +kernel) (Nat.le_of_ble_eq_true rfl) ?_
  obtain ⟨Q, hQ⟩ : ∃ z : Outcome → ab_G → Prop, z = (fun oc G2 => oc = .returned none ∧ fx o o [305, 309] G G2 ∧ G2.length = G.length ∧ ab_slots G2 = ab_slots G ∧ cc o G2 105 305 (za 32 (zu QF m_depth (-1))) ∧ cc o G2 109 309 (za 32 (zu SD m_depth 0))) := ⟨_, rfl⟩
  rw [← hQ]
  change ab_W X (ab_pl y_MO_openRow b_MO_openRow 1 none) d G 0 [some (vR 80)] [] Q
  have hfr : fx o o [305, 309] G G := fx.rf
  have hlen : G.length = G.length := rfl
  have hsl : ab_slots G = ab_slots G := rfl
  refine ab_aload_n d_MO_openRow_0 rfl ?_
  refine ab_getf (fs := mof m_thrown m_taped m_length m_out m_wide m_gathered m_sets m_ranges m_nodes m_at m_flags m_fault m_place m_numbered m_depth m_value m_isNot m_least0 m_most0 m_slot m_work m_got m_rowMany m_charAt m_charWide m_trail m_isMatch m_matchGroups m_allFrom m_allBefore m_founds m_pieces m_writtenMany m_templateWide m_tooMuch) f_MO_88 d_MO_openRow_1 h80.2.2 rfl ?_
  refine ab_aload_n d_MO_openRow_4 rfl ?_
  refine ab_getf (fs := mof m_thrown m_taped m_length m_out m_wide m_gathered m_sets m_ranges m_nodes m_at m_flags m_fault m_place m_numbered m_depth m_value m_isNot m_least0 m_most0 m_slot m_work m_got m_rowMany m_charAt m_charWide m_trail m_isMatch m_matchGroups m_allFrom m_allBefore m_founds m_pieces m_writtenMany m_templateWide m_tooMuch) f_MO_282 d_MO_openRow_5 h80.2.2 rfl ?_
  refine zz_iconst d_MO_openRow_8 ?_
  refine zz_iast d_MO_openRow_9 h105 (by omega) (h105.2.1 (by decide)) ?_
  obtain ⟨G1, eG1⟩ : ∃ z : ab_G, z = List.set G 105 (za 32 (zu QF m_depth (-1))) := ⟨_, rfl⟩
  have h80 := h80.keep h105 eG1 (by decide)
  have h109 := h109.keep h105 eG1 (by decide)
  have hlen := (z_len eG1).trans hlen
  have hsl := (z_sl h105 eG1 rfl).trans hsl
  have hfr := hfr.wr h105 eG1 (by decide)
  have h105 := h105.kept eG1
  change ab_W _ _ _ (List.set G 105 (za 32 (zu QF m_depth (-1)))) 10 [some (vR 80)] [] _
  rw [← eG1]
  refine ab_aload_n d_MO_openRow_10 rfl ?_
  refine ab_getf (fs := mof m_thrown m_taped m_length m_out m_wide m_gathered m_sets m_ranges m_nodes m_at m_flags m_fault m_place m_numbered m_depth m_value m_isNot m_least0 m_most0 m_slot m_work m_got m_rowMany m_charAt m_charWide m_trail m_isMatch m_matchGroups m_allFrom m_allBefore m_founds m_pieces m_writtenMany m_templateWide m_tooMuch) f_MO_100 d_MO_openRow_11 h80.2.2 rfl ?_
  refine ab_aload_n d_MO_openRow_14 rfl ?_
  refine ab_getf (fs := mof m_thrown m_taped m_length m_out m_wide m_gathered m_sets m_ranges m_nodes m_at m_flags m_fault m_place m_numbered m_depth m_value m_isNot m_least0 m_most0 m_slot m_work m_got m_rowMany m_charAt m_charWide m_trail m_isMatch m_matchGroups m_allFrom m_allBefore m_founds m_pieces m_writtenMany m_templateWide m_tooMuch) f_MO_282 d_MO_openRow_15 h80.2.2 rfl ?_
  refine zz_iconst d_MO_openRow_18 ?_
  refine zz_iast d_MO_openRow_19 h109 (by omega) (h109.2.1 (by decide)) ?_
  obtain ⟨G2, eG2⟩ : ∃ z : ab_G, z = List.set G1 109 (za 32 (zu SD m_depth 0)) := ⟨_, rfl⟩
  have h80 := h80.keep h109 eG2 (by decide)
  have h105 := h105.keep h109 eG2 (by decide)
  have hlen := (z_len eG2).trans hlen
  have hsl := (z_sl h109 eG2 rfl).trans hsl
  have hfr := hfr.wr h109 eG2 (by decide)
  have h109 := h109.kept eG2
  change ab_W _ _ _ (List.set G1 109 (za 32 (zu SD m_depth 0))) 20 [some (vR 80)] [] _
  rw [← eG2]
  refine ab_vret rfl d_MO_openRow_20 ?_
  rw [hQ]; exact ⟨rfl, hfr, hlen, hsl, h105, h109⟩
set_option maxRecDepth 100000 in
set_option maxHeartbeats 4000000 in
theorem z_MO_openGroup {X : ab_X} {d : Nat} {o : Nat → Nat} {G : ab_G} {m_thrown : Int} {m_taped : Int} {m_length : Int} {m_out : Int} {m_wide : Int} {m_gathered : Int} {m_sets : Int} {m_ranges : Int} {m_nodes : Int} {m_at : Int} {m_flags : Int} {m_fault : Int} {m_place : Int} {m_numbered : Int} {m_depth : Int} {m_value : Int} {m_isNot : Int} {m_least0 : Int} {m_most0 : Int} {m_slot : Int} {m_work : Int} {m_got : Int} {m_rowMany : Int} {m_charAt : Int} {m_charWide : Int} {m_trail : Int} {m_isMatch : Int} {m_matchGroups : Int} {m_allFrom : Int} {m_allBefore : Int} {m_founds : Int} {m_pieces : Int} {m_writtenMany : Int} {m_templateWide : Int} {m_tooMuch : Int} {x : Int} {y : Int} {w : Int} {dn : Int} {dh : Int} {re_ : Int} {fr : List Fr} {rp : Int} {ls : Int} {dz : Int} {SV : Int → Int → Prop} {FS : List Fs} {ro : Sn} {vv : Sn} {dv : Sn} {b2_ : Int} {nu9 : Int} {fo9 : Int} {RL : Int → Int} {RH : Int → Int} (h80 : cc o G 80 280 (ab_ob 12 (mof m_thrown m_taped m_length m_out m_wide m_gathered m_sets m_ranges m_nodes m_at m_flags m_fault m_place m_numbered m_depth m_value m_isNot m_least0 m_most0 m_slot m_work m_got m_rowMany m_charAt m_charWide m_trail m_isMatch m_matchGroups m_allFrom m_allBefore m_founds m_pieces m_writtenMany m_templateWide m_tooMuch))) (ptrI_0 : trI o G 0 m_nodes m_sets m_depth dn dh re_ fr rp ls dz SV FS ro vv dv RL RH m_ranges nu9 fo9) (n18 : ab_n0 = 18) (cdp : 0 ≤ m_depth ∧ m_depth ≤ 30) (cx : -1 ≤ x ∧ x ≤ 2100 ∧ -2147483648 ≤ y ∧ y ≤ 2147483647 ∧ 0 ≤ w ∧ w ≤ 9) (hb2 : fr = [] ∨ y = b2_) (hd : 1 ≤ d) : ab_F X d y_MO_openGroup (.code y_MO_openGroup b_MO_openGroup 4 none) [vR 80, vz x, vz y, vz w] G (fun oc G2 => oc = .returned none ∧ fx o o [294, 295, 296, 297, 298, 299, 300, 301, 290, 289, 305, 306, 307, 308, 309, 302, 303, 304] G G2 ∧ G2.length = G.length ∧ ab_slots G2 = ab_slots G ∧ trI o G2 0 m_nodes m_sets (m_depth + 1) dn dh 0 ((x, b2_, w, 0, 0) :: fr) 0 0 dz SV ((none, mnI) :: FS) mnI mnI dv RL RH m_ranges 0 0) := by
  refine ab_F_of (by decide +kernel) (Nat.le_of_ble_eq_true rfl) ?_
  obtain ⟨Q, hQ⟩ : ∃ z : Outcome → ab_G → Prop, z = (fun oc G2 => oc = .returned none ∧ fx o o [294, 295, 296, 297, 298, 299, 300, 301, 290, 289, 305, 306, 307, 308, 309, 302, 303, 304] G G2 ∧ G2.length = G.length ∧ ab_slots G2 = ab_slots G ∧ trI o G2 0 m_nodes m_sets (m_depth + 1) dn dh 0 ((x, b2_, w, 0, 0) :: fr) 0 0 dz SV ((none, mnI) :: FS) mnI mnI dv RL RH m_ranges 0 0) := ⟨_, rfl⟩
  rw [← hQ]
  change ab_W X (ab_pl y_MO_openGroup b_MO_openGroup 4 none) d G 0 [some (vR 80), some (vz x), some (vz y), some (vz w)] [] Q
  have hfr : fx o o [294, 295, 296, 297, 298, 299, 300, 301, 290, 289, 305, 306, 307, 308, 309, 302, 303, 304] G G := fx.rf
  have hlen : G.length = G.length := rfl
  have hsl : ab_slots G = ab_slots G := rfl
  obtain ⟨K, O, Fi, Be, Le, Mo, Z, LZ, SM, SA, QF, QL, AF, AL, SD, OA, OF, ON, h94, h95, h96, h97, h98, h99, h100, h101, h90, h89, h105, h106, h107, h108, h109, h102, h103, h104, jk, jo, jfi, jbe, jle, jmo, jz, jlz, jsm, jsa, jqf, jql, jaf, jal, jsd, joa, jof, jon, jt, cnd, cre, crs, crz, ck5, ck6, ck7, jss, jsv⟩ := ptrI_0
  refine ab_aload_n d_MO_openGroup_0 rfl ?_
  refine ab_getf (fs := mof m_thrown m_taped m_length m_out m_wide m_gathered m_sets m_ranges m_nodes m_at m_flags m_fault m_place m_numbered m_depth m_value m_isNot m_least0 m_most0 m_slot m_work m_got m_rowMany m_charAt m_charWide m_trail m_isMatch m_matchGroups m_allFrom m_allBefore m_founds m_pieces m_writtenMany m_templateWide m_tooMuch) f_MO_79 d_MO_openGroup_1 h80.2.2 rfl ?_
  refine ab_aload_n d_MO_openGroup_4 rfl ?_
  refine ab_getf (fs := mof m_thrown m_taped m_length m_out m_wide m_gathered m_sets m_ranges m_nodes m_at m_flags m_fault m_place m_numbered m_depth m_value m_isNot m_least0 m_most0 m_slot m_work m_got m_rowMany m_charAt m_charWide m_trail m_isMatch m_matchGroups m_allFrom m_allBefore m_founds m_pieces m_writtenMany m_templateWide m_tooMuch) f_MO_282 d_MO_openGroup_5 h80.2.2 rfl ?_
  refine ab_iload_n d_MO_openGroup_8 rfl ?_
  refine zz_iast d_MO_openGroup_9 h102 (by omega) (h102.2.1 (by decide)) ?_
  obtain ⟨G1, eG1⟩ : ∃ z : ab_G, z = List.set G 102 (za 32 (zu OA m_depth x)) := ⟨_, rfl⟩
  have h80 := h80.keep h102 eG1 (by decide)
  have h94 := h94.keep h102 eG1 (by decide)
  have h95 := h95.keep h102 eG1 (by decide)
  have h96 := h96.keep h102 eG1 (by decide)
  have h97 := h97.keep h102 eG1 (by decide)
  have h98 := h98.keep h102 eG1 (by decide)
  have h99 := h99.keep h102 eG1 (by decide)
  have h100 := h100.keep h102 eG1 (by decide)
  have h101 := h101.keep h102 eG1 (by decide)
  have h90 := h90.keep h102 eG1 (by decide)
  have h89 := h89.keep h102 eG1 (by decide)
  have h105 := h105.keep h102 eG1 (by decide)
  have h106 := h106.keep h102 eG1 (by decide)
  have h107 := h107.keep h102 eG1 (by decide)
  have h108 := h108.keep h102 eG1 (by decide)
  have h109 := h109.keep h102 eG1 (by decide)
  have h103 := h103.keep h102 eG1 (by decide)
  have h104 := h104.keep h102 eG1 (by decide)
  have hlen := (z_len eG1).trans hlen
  have hsl := (z_sl h102 eG1 rfl).trans hsl
  have hfr := hfr.wr h102 eG1 (by decide)
  have h102 := h102.kept eG1
  change ab_W _ _ _ (List.set G 102 (za 32 (zu OA m_depth x))) 10 [some (vR 80), some (vz x), some (vz y), some (vz w)] [] _
  rw [← eG1]
  refine ab_aload_n d_MO_openGroup_10 rfl ?_
  refine ab_getf (fs := mof m_thrown m_taped m_length m_out m_wide m_gathered m_sets m_ranges m_nodes m_at m_flags m_fault m_place m_numbered m_depth m_value m_isNot m_least0 m_most0 m_slot m_work m_got m_rowMany m_charAt m_charWide m_trail m_isMatch m_matchGroups m_allFrom m_allBefore m_founds m_pieces m_writtenMany m_templateWide m_tooMuch) f_MO_82 d_MO_openGroup_11 h80.2.2 rfl ?_
  refine ab_aload_n d_MO_openGroup_14 rfl ?_
  refine ab_getf (fs := mof m_thrown m_taped m_length m_out m_wide m_gathered m_sets m_ranges m_nodes m_at m_flags m_fault m_place m_numbered m_depth m_value m_isNot m_least0 m_most0 m_slot m_work m_got m_rowMany m_charAt m_charWide m_trail m_isMatch m_matchGroups m_allFrom m_allBefore m_founds m_pieces m_writtenMany m_templateWide m_tooMuch) f_MO_282 d_MO_openGroup_15 h80.2.2 rfl ?_
  refine ab_iload_n d_MO_openGroup_18 rfl ?_
  refine zz_iast d_MO_openGroup_19 h103 (by omega) (h103.2.1 (by decide)) ?_
  obtain ⟨G2, eG2⟩ : ∃ z : ab_G, z = List.set G1 103 (za 32 (zu OF m_depth y)) := ⟨_, rfl⟩
  have h80 := h80.keep h103 eG2 (by decide)
  have h94 := h94.keep h103 eG2 (by decide)
  have h95 := h95.keep h103 eG2 (by decide)
  have h96 := h96.keep h103 eG2 (by decide)
  have h97 := h97.keep h103 eG2 (by decide)
  have h98 := h98.keep h103 eG2 (by decide)
  have h99 := h99.keep h103 eG2 (by decide)
  have h100 := h100.keep h103 eG2 (by decide)
  have h101 := h101.keep h103 eG2 (by decide)
  have h90 := h90.keep h103 eG2 (by decide)
  have h89 := h89.keep h103 eG2 (by decide)
  have h105 := h105.keep h103 eG2 (by decide)
  have h106 := h106.keep h103 eG2 (by decide)
  have h107 := h107.keep h103 eG2 (by decide)
  have h108 := h108.keep h103 eG2 (by decide)
  have h109 := h109.keep h103 eG2 (by decide)
  have h102 := h102.keep h103 eG2 (by decide)
  have h104 := h104.keep h103 eG2 (by decide)
  have hlen := (z_len eG2).trans hlen
  have hsl := (z_sl h103 eG2 rfl).trans hsl
  have hfr := hfr.wr h103 eG2 (by decide)
  have h103 := h103.kept eG2
  change ab_W _ _ _ (List.set G1 103 (za 32 (zu OF m_depth y))) 20 [some (vR 80), some (vz x), some (vz y), some (vz w)] [] _
  rw [← eG2]
  refine ab_aload_n d_MO_openGroup_20 rfl ?_
  refine ab_getf (fs := mof m_thrown m_taped m_length m_out m_wide m_gathered m_sets m_ranges m_nodes m_at m_flags m_fault m_place m_numbered m_depth m_value m_isNot m_least0 m_most0 m_slot m_work m_got m_rowMany m_charAt m_charWide m_trail m_isMatch m_matchGroups m_allFrom m_allBefore m_founds m_pieces m_writtenMany m_templateWide m_tooMuch) f_MO_85 d_MO_openGroup_21 h80.2.2 rfl ?_
  refine ab_aload_n d_MO_openGroup_24 rfl ?_
  refine ab_getf (fs := mof m_thrown m_taped m_length m_out m_wide m_gathered m_sets m_ranges m_nodes m_at m_flags m_fault m_place m_numbered m_depth m_value m_isNot m_least0 m_most0 m_slot m_work m_got m_rowMany m_charAt m_charWide m_trail m_isMatch m_matchGroups m_allFrom m_allBefore m_founds m_pieces m_writtenMany m_templateWide m_tooMuch) f_MO_282 d_MO_openGroup_25 h80.2.2 rfl ?_
  refine ab_iload_n d_MO_openGroup_28 rfl ?_
  refine zz_iast d_MO_openGroup_29 h104 (by omega) (h104.2.1 (by decide)) ?_
  obtain ⟨G3, eG3⟩ : ∃ z : ab_G, z = List.set G2 104 (za 32 (zu ON m_depth w)) := ⟨_, rfl⟩
  have h80 := h80.keep h104 eG3 (by decide)
  have h94 := h94.keep h104 eG3 (by decide)
  have h95 := h95.keep h104 eG3 (by decide)
  have h96 := h96.keep h104 eG3 (by decide)
  have h97 := h97.keep h104 eG3 (by decide)
  have h98 := h98.keep h104 eG3 (by decide)
  have h99 := h99.keep h104 eG3 (by decide)
  have h100 := h100.keep h104 eG3 (by decide)
  have h101 := h101.keep h104 eG3 (by decide)
  have h90 := h90.keep h104 eG3 (by decide)
  have h89 := h89.keep h104 eG3 (by decide)
  have h105 := h105.keep h104 eG3 (by decide)
  have h106 := h106.keep h104 eG3 (by decide)
  have h107 := h107.keep h104 eG3 (by decide)
  have h108 := h108.keep h104 eG3 (by decide)
  have h109 := h109.keep h104 eG3 (by decide)
  have h102 := h102.keep h104 eG3 (by decide)
  have h103 := h103.keep h104 eG3 (by decide)
  have hlen := (z_len eG3).trans hlen
  have hsl := (z_sl h104 eG3 rfl).trans hsl
  have hfr := hfr.wr h104 eG3 (by decide)
  have h104 := h104.kept eG3
  change ab_W _ _ _ (List.set G2 104 (za 32 (zu ON m_depth w))) 30 [some (vR 80), some (vz x), some (vz y), some (vz w)] [] _
  rw [← eG3]
  refine ab_aload_n d_MO_openGroup_30 rfl ?_
  refine ab_getf (fs := mof m_thrown m_taped m_length m_out m_wide m_gathered m_sets m_ranges m_nodes m_at m_flags m_fault m_place m_numbered m_depth m_value m_isNot m_least0 m_most0 m_slot m_work m_got m_rowMany m_charAt m_charWide m_trail m_isMatch m_matchGroups m_allFrom m_allBefore m_founds m_pieces m_writtenMany m_templateWide m_tooMuch) f_MO_94 d_MO_openGroup_31 h80.2.2 rfl ?_
  refine ab_aload_n d_MO_openGroup_34 rfl ?_
  refine ab_getf (fs := mof m_thrown m_taped m_length m_out m_wide m_gathered m_sets m_ranges m_nodes m_at m_flags m_fault m_place m_numbered m_depth m_value m_isNot m_least0 m_most0 m_slot m_work m_got m_rowMany m_charAt m_charWide m_trail m_isMatch m_matchGroups m_allFrom m_allBefore m_founds m_pieces m_writtenMany m_templateWide m_tooMuch) f_MO_282 d_MO_openGroup_35 h80.2.2 rfl ?_
  refine zz_iconst d_MO_openGroup_38 ?_
  refine zz_iast d_MO_openGroup_39 h107 (by omega) (h107.2.1 (by decide)) ?_
  obtain ⟨G4, eG4⟩ : ∃ z : ab_G, z = List.set G3 107 (za 32 (zu AF m_depth (-1))) := ⟨_, rfl⟩
  have h80 := h80.keep h107 eG4 (by decide)
  have h94 := h94.keep h107 eG4 (by decide)
  have h95 := h95.keep h107 eG4 (by decide)
  have h96 := h96.keep h107 eG4 (by decide)
  have h97 := h97.keep h107 eG4 (by decide)
  have h98 := h98.keep h107 eG4 (by decide)
  have h99 := h99.keep h107 eG4 (by decide)
  have h100 := h100.keep h107 eG4 (by decide)
  have h101 := h101.keep h107 eG4 (by decide)
  have h90 := h90.keep h107 eG4 (by decide)
  have h89 := h89.keep h107 eG4 (by decide)
  have h105 := h105.keep h107 eG4 (by decide)
  have h106 := h106.keep h107 eG4 (by decide)
  have h108 := h108.keep h107 eG4 (by decide)
  have h109 := h109.keep h107 eG4 (by decide)
  have h102 := h102.keep h107 eG4 (by decide)
  have h103 := h103.keep h107 eG4 (by decide)
  have h104 := h104.keep h107 eG4 (by decide)
  have hlen := (z_len eG4).trans hlen
  have hsl := (z_sl h107 eG4 rfl).trans hsl
  have hfr := hfr.wr h107 eG4 (by decide)
  have h107 := h107.kept eG4
  change ab_W _ _ _ (List.set G3 107 (za 32 (zu AF m_depth (-1)))) 40 [some (vR 80), some (vz x), some (vz y), some (vz w)] [] _
  rw [← eG4]
  refine ab_aload_n d_MO_openGroup_40 rfl ?_
  refine ab_callV (d' := d - 1) (as := []) (st := []) (r := _) (z_MO_openRow (o := o) (m_thrown := m_thrown) (m_taped := m_taped) (m_length := m_length) (m_out := m_out) (m_wide := m_wide) (m_gathered := m_gathered) (m_sets := m_sets) (m_ranges := m_ranges) (m_nodes := m_nodes) (m_at := m_at) (m_flags := m_flags) (m_fault := m_fault) (m_place := m_place) (m_numbered := m_numbered) (m_depth := m_depth) (m_value := m_value) (m_isNot := m_isNot) (m_least0 := m_least0) (m_most0 := m_most0) (m_slot := m_slot) (m_work := m_work) (m_got := m_got) (m_rowMany := m_rowMany) (m_charAt := m_charAt) (m_charWide := m_charWide) (m_trail := m_trail) (m_isMatch := m_isMatch) (m_matchGroups := m_matchGroups) (m_allFrom := m_allFrom) (m_allBefore := m_allBefore) (m_founds := m_founds) (m_pieces := m_pieces) (m_writtenMany := m_writtenMany) (m_templateWide := m_templateWide) (m_tooMuch := m_tooMuch) (QF := QF) (SD := SD) h80 h105 h109 (by omega) (by omega)) (fun oc G2 h => by rcases h with ⟨h, _⟩ <;> exact ⟨_, h⟩) (by omega) m_MO_openRow ml_MO_285 im_MO_openRow se_MO_openRow c_MO h80.2.2 (Nat.le_of_ble_eq_true rfl) d_MO_openGroup_41 rfl ?_
  intro v G5 hq
  rcases hq with ⟨hv, hfk, hlk, hsk, hN105, hN109⟩
  cases hv
  have h80 := hfk.get h80 (by decide)
  have h94 := hfk.get h94 (by decide)
  have h95 := hfk.get h95 (by decide)
  have h96 := hfk.get h96 (by decide)
  have h97 := hfk.get h97 (by decide)
  have h98 := hfk.get h98 (by decide)
  have h99 := hfk.get h99 (by decide)
  have h100 := hfk.get h100 (by decide)
  have h101 := hfk.get h101 (by decide)
  have h90 := hfk.get h90 (by decide)
  have h89 := hfk.get h89 (by decide)
  have h106 := hfk.get h106 (by decide)
  have h107 := hfk.get h107 (by decide)
  have h108 := hfk.get h108 (by decide)
  have h102 := hfk.get h102 (by decide)
  have h103 := hfk.get h103 (by decide)
  have h104 := hfk.get h104 (by decide)
  have hfr := hfr.tr hfk (by decide)
  have hlen := hlk.trans hlen
  have hsl := hsk.trans hsl
  have h105 := hN105
  have h109 := hN109
  change ab_W _ _ _ G5 44 [some (vR 80), some (vz x), some (vz y), some (vz w)] [] _
  have ptrI_0 : trI o G5 0 m_nodes m_sets (m_depth + 1) dn dh 0 ((x, b2_, w, 0, 0) :: fr) 0 0 dz SV ((none, mnI) :: FS) mnI mnI dv RL RH m_ranges 0 0 := ⟨K, O, Fi, Be, Le, Mo, Z, LZ, SM, SA, (zu QF m_depth (-1)), QL, (zu AF m_depth (-1)), AL, (zu SD m_depth 0), (zu OA m_depth x), (zu OF m_depth y), (zu ON m_depth w), h94, h95, h96, h97, h98, h99, h100, h101, h90, h89, h105, h106, h107, h108, h109, h102, h103, h104, jk, jo, jfi, jbe, jle, jmo, jz, jlz, jsm, jsa, (rgs_zu jqf (by omega)), jql, (rgs_zu jaf (by omega)), jal, (rgs_zu jsd (by omega)), (rgs_zu joa (by omega)), (rgs_zu jof (by omega)), (rgs_zu jon (by omega)), (rtk_open jt (by omega) hb2), (by omega), (fun h => absurd h (by decide)), (fun h => absurd h (by decide)), (fun h => absurd h (by decide)), (fun h => absurd h (by decide)), (fun h => absurd h (by decide)), (fun h => absurd h (by decide)), jss, jsv⟩
  refine ab_vret rfl d_MO_openGroup_44 ?_
  rw [hQ]; exact ⟨rfl, hfr, hlen, hsl, ptrI_0⟩
set_option maxRecDepth 100000 in
set_option maxHeartbeats 4000000 in
theorem z1_MO_part {X : ab_X} {d : Nat} {o : Nat → Nat} {G : ab_G} {m_thrown : Int} {m_taped : Int} {m_length : Int} {m_out : Int} {m_wide : Int} {m_gathered : Int} {m_sets : Int} {m_ranges : Int} {m_nodes : Int} {m_at : Int} {m_flags : Int} {m_fault : Int} {m_place : Int} {m_numbered : Int} {m_depth : Int} {m_value : Int} {m_isNot : Int} {m_least0 : Int} {m_most0 : Int} {m_slot : Int} {m_work : Int} {m_got : Int} {m_rowMany : Int} {m_charAt : Int} {m_charWide : Int} {m_trail : Int} {m_isMatch : Int} {m_matchGroups : Int} {m_allFrom : Int} {m_allBefore : Int} {m_founds : Int} {m_pieces : Int} {m_writtenMany : Int} {m_templateWide : Int} {m_tooMuch : Int} {x : Int} {dh : Int} {rp : Int} {ls : Int} {dz : Int} {SV : Int → Int → Prop} {ro : Sn} {vv : Sn} {dv : Sn} {a1_ : Int} {b1_ : Int} {c1_ : Int} {d1_ : Int} {e1_ : Int} {nu9 : Int} {fo9 : Int} {t1_ : List Fr} {ao1_ : Option Sn} {ro1_ : Sn} {ts1_ : List Fs} {RL : Int → Int} {RH : Int → Int} (h80 : cc o G 80 280 (ab_ob 12 (mof m_thrown m_taped m_length m_out m_wide m_gathered m_sets m_ranges m_nodes m_at m_flags m_fault m_place m_numbered m_depth m_value m_isNot m_least0 m_most0 m_slot m_work m_got m_rowMany m_charAt m_charWide m_trail m_isMatch m_matchGroups m_allFrom m_allBefore m_founds m_pieces m_writtenMany m_templateWide m_tooMuch))) (ptrI_0 : trI o G 0 m_nodes m_sets (m_depth + 1) x dh 6 ((a1_, b1_, c1_, d1_, e1_) :: t1_) rp ls dz SV ((ao1_, ro1_) :: ts1_) ro vv dv RL RH m_ranges nu9 fo9) (n18 : ab_n0 = 18) (cdp : 0 ≤ m_depth ∧ m_depth ≤ 30) (cx : 0 ≤ x ∧ dh ≤ 30 - m_depth) (hd : 1 ≤ d) : ab_F X d y_MO_part (.code y_MO_part b_MO_part 3 none) [vR 80, vz x, vz 1] G (fun oc G2 => oc = .returned none ∧ fx o o [294, 295, 296, 297, 298, 299, 300, 301, 290, 289, 305, 306, 307, 308, 309, 302, 303, 304] G G2 ∧ G2.length = G.length ∧ ab_slots G2 = ab_slots G ∧ trI o G2 0 m_nodes m_sets (m_depth + 1) (-1) 0 0 ((a1_, b1_, c1_, d1_, (e1_ + dz)) :: t1_) 1 dz 0 SV ((ao1_, (mnC ro1_ dv)) :: ts1_) ro1_ dv mnI RL RH m_ranges 0 0) := by
  refine ab_F_of (by decide +kernel) (Nat.le_of_ble_eq_true rfl) ?_
  obtain ⟨Q, hQ⟩ : ∃ z : Outcome → ab_G → Prop, z = (fun oc G2 => oc = .returned none ∧ fx o o [294, 295, 296, 297, 298, 299, 300, 301, 290, 289, 305, 306, 307, 308, 309, 302, 303, 304] G G2 ∧ G2.length = G.length ∧ ab_slots G2 = ab_slots G ∧ trI o G2 0 m_nodes m_sets (m_depth + 1) (-1) 0 0 ((a1_, b1_, c1_, d1_, (e1_ + dz)) :: t1_) 1 dz 0 SV ((ao1_, (mnC ro1_ dv)) :: ts1_) ro1_ dv mnI RL RH m_ranges 0 0) := ⟨_, rfl⟩
  rw [← hQ]
  change ab_W X (ab_pl y_MO_part b_MO_part 3 none) d G 0 [some (vR 80), some (vz x), some (vz 1)] [] Q
  have hfr : fx o o [294, 295, 296, 297, 298, 299, 300, 301, 290, 289, 305, 306, 307, 308, 309, 302, 303, 304] G G := fx.rf
  have hlen : G.length = G.length := rfl
  have hsl : ab_slots G = ab_slots G := rfl
  obtain ⟨K, O, Fi, Be, Le, Mo, Z, LZ, SM, SA, QF, QL, AF, AL, SD, OA, OF, ON, h94, h95, h96, h97, h98, h99, h100, h101, h90, h89, h105, h106, h107, h108, h109, h102, h103, h104, jk, jo, jfi, jbe, jle, jmo, jz, jlz, jsm, jsa, jqf, jql, jaf, jal, jsd, joa, jof, jon, jt, cnd, cre, crs, crz, ck5, ck6, ck7, jss, jsv⟩ := ptrI_0
  have hlv_ := (rtr_lv jt.j.r (d := m_depth) (by omega)).1
  have hin_ := (rtr_in jt.j.r).1 (by omega)
  refine ab_aload_n d_MO_part_0 rfl ?_
  refine ab_getf (fs := mof m_thrown m_taped m_length m_out m_wide m_gathered m_sets m_ranges m_nodes m_at m_flags m_fault m_place m_numbered m_depth m_value m_isNot m_least0 m_most0 m_slot m_work m_got m_rowMany m_charAt m_charWide m_trail m_isMatch m_matchGroups m_allFrom m_allBefore m_founds m_pieces m_writtenMany m_templateWide m_tooMuch) f_MO_88 d_MO_part_1 h80.2.2 rfl ?_
  refine ab_aload_n d_MO_part_4 rfl ?_
  refine ab_getf (fs := mof m_thrown m_taped m_length m_out m_wide m_gathered m_sets m_ranges m_nodes m_at m_flags m_fault m_place m_numbered m_depth m_value m_isNot m_least0 m_most0 m_slot m_work m_got m_rowMany m_charAt m_charWide m_trail m_isMatch m_matchGroups m_allFrom m_allBefore m_founds m_pieces m_writtenMany m_templateWide m_tooMuch) f_MO_282 d_MO_part_5 h80.2.2 rfl ?_
  refine zz_iald d_MO_part_8 h105 (by omega) ?_
  have hq1 := jqf m_depth (by omega) (by omega)
  refine zz_if_ge (tgt := 25) d_MO_part_9 (by decide) (by omega) (fun c2 => ?_) (fun c2 => ?_)
  · refine ab_aload_n d_MO_part_25 rfl ?_
    refine ab_getf (fs := mof m_thrown m_taped m_length m_out m_wide m_gathered m_sets m_ranges m_nodes m_at m_flags m_fault m_place m_numbered m_depth m_value m_isNot m_least0 m_most0 m_slot m_work m_got m_rowMany m_charAt m_charWide m_trail m_isMatch m_matchGroups m_allFrom m_allBefore m_founds m_pieces m_writtenMany m_templateWide m_tooMuch) f_MO_59 d_MO_part_26 h80.2.2 rfl ?_
    refine ab_aload_n d_MO_part_29 rfl ?_
    refine ab_getf (fs := mof m_thrown m_taped m_length m_out m_wide m_gathered m_sets m_ranges m_nodes m_at m_flags m_fault m_place m_numbered m_depth m_value m_isNot m_least0 m_most0 m_slot m_work m_got m_rowMany m_charAt m_charWide m_trail m_isMatch m_matchGroups m_allFrom m_allBefore m_founds m_pieces m_writtenMany m_templateWide m_tooMuch) f_MO_91 d_MO_part_30 h80.2.2 rfl ?_
    refine ab_aload_n d_MO_part_33 rfl ?_
    refine ab_getf (fs := mof m_thrown m_taped m_length m_out m_wide m_gathered m_sets m_ranges m_nodes m_at m_flags m_fault m_place m_numbered m_depth m_value m_isNot m_least0 m_most0 m_slot m_work m_got m_rowMany m_charAt m_charWide m_trail m_isMatch m_matchGroups m_allFrom m_allBefore m_founds m_pieces m_writtenMany m_templateWide m_tooMuch) f_MO_282 d_MO_part_34 h80.2.2 rfl ?_
    refine zz_iald d_MO_part_37 h106 (by omega) ?_
    have hq3 := jql m_depth (by omega) (by omega)
    refine ab_iload_n d_MO_part_38 rfl ?_
    refine zz_iast d_MO_part_39 h97 (by omega) (h97.2.1 (by decide)) ?_
    obtain ⟨G4, eG4⟩ : ∃ z : ab_G, z = List.set G 97 (za 4200 (zu Be (QL m_depth) x)) := ⟨_, rfl⟩
    have h80 := h80.keep h97 eG4 (by decide)
    have h94 := h94.keep h97 eG4 (by decide)
    have h95 := h95.keep h97 eG4 (by decide)
    have h96 := h96.keep h97 eG4 (by decide)
    have h98 := h98.keep h97 eG4 (by decide)
    have h99 := h99.keep h97 eG4 (by decide)
    have h100 := h100.keep h97 eG4 (by decide)
    have h101 := h101.keep h97 eG4 (by decide)
    have h90 := h90.keep h97 eG4 (by decide)
    have h89 := h89.keep h97 eG4 (by decide)
    have h105 := h105.keep h97 eG4 (by decide)
    have h106 := h106.keep h97 eG4 (by decide)
    have h107 := h107.keep h97 eG4 (by decide)
    have h108 := h108.keep h97 eG4 (by decide)
    have h109 := h109.keep h97 eG4 (by decide)
    have h102 := h102.keep h97 eG4 (by decide)
    have h103 := h103.keep h97 eG4 (by decide)
    have h104 := h104.keep h97 eG4 (by decide)
    have hlen := (z_len eG4).trans hlen
    have hsl := (z_sl h97 eG4 rfl).trans hsl
    have hfr := hfr.wr h97 eG4 (by decide)
    have h97 := h97.kept eG4
    change ab_W _ _ _ (List.set G 97 (za 4200 (zu Be (QL m_depth) x))) 40 [some (vR 80), some (vz x), some (vz 1)] [] _
    rw [← eG4]
    refine ab_aload_n d_MO_part_40 rfl ?_
    refine ab_getf (fs := mof m_thrown m_taped m_length m_out m_wide m_gathered m_sets m_ranges m_nodes m_at m_flags m_fault m_place m_numbered m_depth m_value m_isNot m_least0 m_most0 m_slot m_work m_got m_rowMany m_charAt m_charWide m_trail m_isMatch m_matchGroups m_allFrom m_allBefore m_founds m_pieces m_writtenMany m_templateWide m_tooMuch) f_MO_91 d_MO_part_41 h80.2.2 rfl ?_
    refine ab_aload_n d_MO_part_44 rfl ?_
    refine ab_getf (fs := mof m_thrown m_taped m_length m_out m_wide m_gathered m_sets m_ranges m_nodes m_at m_flags m_fault m_place m_numbered m_depth m_value m_isNot m_least0 m_most0 m_slot m_work m_got m_rowMany m_charAt m_charWide m_trail m_isMatch m_matchGroups m_allFrom m_allBefore m_founds m_pieces m_writtenMany m_templateWide m_tooMuch) f_MO_282 d_MO_part_45 h80.2.2 rfl ?_
    refine ab_iload_n d_MO_part_48 rfl ?_
    refine zz_iast d_MO_part_49 h106 (by omega) (h106.2.1 (by decide)) ?_
    obtain ⟨G5, eG5⟩ : ∃ z : ab_G, z = List.set G4 106 (za 32 (zu QL m_depth x)) := ⟨_, rfl⟩
    have h80 := h80.keep h106 eG5 (by decide)
    have h94 := h94.keep h106 eG5 (by decide)
    have h95 := h95.keep h106 eG5 (by decide)
    have h96 := h96.keep h106 eG5 (by decide)
    have h97 := h97.keep h106 eG5 (by decide)
    have h98 := h98.keep h106 eG5 (by decide)
    have h99 := h99.keep h106 eG5 (by decide)
    have h100 := h100.keep h106 eG5 (by decide)
    have h101 := h101.keep h106 eG5 (by decide)
    have h90 := h90.keep h106 eG5 (by decide)
    have h89 := h89.keep h106 eG5 (by decide)
    have h105 := h105.keep h106 eG5 (by decide)
    have h107 := h107.keep h106 eG5 (by decide)
    have h108 := h108.keep h106 eG5 (by decide)
    have h109 := h109.keep h106 eG5 (by decide)
    have h102 := h102.keep h106 eG5 (by decide)
    have h103 := h103.keep h106 eG5 (by decide)
    have h104 := h104.keep h106 eG5 (by decide)
    have hlen := (z_len eG5).trans hlen
    have hsl := (z_sl h106 eG5 rfl).trans hsl
    have hfr := hfr.wr h106 eG5 (by decide)
    have h106 := h106.kept eG5
    change ab_W _ _ _ (List.set G4 106 (za 32 (zu QL m_depth x))) 50 [some (vR 80), some (vz x), some (vz 1)] [] _
    rw [← eG5]
    refine ab_aload_n d_MO_part_50 rfl ?_
    refine ab_getf (fs := mof m_thrown m_taped m_length m_out m_wide m_gathered m_sets m_ranges m_nodes m_at m_flags m_fault m_place m_numbered m_depth m_value m_isNot m_least0 m_most0 m_slot m_work m_got m_rowMany m_charAt m_charWide m_trail m_isMatch m_matchGroups m_allFrom m_allBefore m_founds m_pieces m_writtenMany m_templateWide m_tooMuch) f_MO_100 d_MO_part_51 h80.2.2 rfl ?_
    refine ab_aload_n d_MO_part_54 rfl ?_
    refine ab_getf (fs := mof m_thrown m_taped m_length m_out m_wide m_gathered m_sets m_ranges m_nodes m_at m_flags m_fault m_place m_numbered m_depth m_value m_isNot m_least0 m_most0 m_slot m_work m_got m_rowMany m_charAt m_charWide m_trail m_isMatch m_matchGroups m_allFrom m_allBefore m_founds m_pieces m_writtenMany m_templateWide m_tooMuch) f_MO_282 d_MO_part_55 h80.2.2 rfl ?_
    refine ab_iload_n d_MO_part_58 rfl ?_
    refine zz_iast d_MO_part_59 h109 (by omega) (h109.2.1 (by decide)) ?_
    obtain ⟨G6, eG6⟩ : ∃ z : ab_G, z = List.set G5 109 (za 32 (zu SD m_depth 1)) := ⟨_, rfl⟩
    have h80 := h80.keep h109 eG6 (by decide)
    have h94 := h94.keep h109 eG6 (by decide)
    have h95 := h95.keep h109 eG6 (by decide)
    have h96 := h96.keep h109 eG6 (by decide)
    have h97 := h97.keep h109 eG6 (by decide)
    have h98 := h98.keep h109 eG6 (by decide)
    have h99 := h99.keep h109 eG6 (by decide)
    have h100 := h100.keep h109 eG6 (by decide)
    have h101 := h101.keep h109 eG6 (by decide)
    have h90 := h90.keep h109 eG6 (by decide)
    have h89 := h89.keep h109 eG6 (by decide)
    have h105 := h105.keep h109 eG6 (by decide)
    have h106 := h106.keep h109 eG6 (by decide)
    have h107 := h107.keep h109 eG6 (by decide)
    have h108 := h108.keep h109 eG6 (by decide)
    have h102 := h102.keep h109 eG6 (by decide)
    have h103 := h103.keep h109 eG6 (by decide)
    have h104 := h104.keep h109 eG6 (by decide)
    have hlen := (z_len eG6).trans hlen
    have hsl := (z_sl h109 eG6 rfl).trans hsl
    have hfr := hfr.wr h109 eG6 (by decide)
    have h109 := h109.kept eG6
    change ab_W _ _ _ (List.set G5 109 (za 32 (zu SD m_depth 1))) 60 [some (vR 80), some (vz x), some (vz 1)] [] _
    rw [← eG6]
    have ptrI_0 : trI o G6 0 m_nodes m_sets (m_depth + 1) (-1) 0 0 ((a1_, b1_, c1_, d1_, (e1_ + dz)) :: t1_) 1 dz 0 SV ((ao1_, (mnC ro1_ dv)) :: ts1_) ro1_ dv mnI RL RH m_ranges 0 0 := ⟨K, O, Fi, (zu Be (QL m_depth) x), Le, Mo, Z, LZ, SM, SA, QF, (zu QL m_depth x), AF, AL, (zu SD m_depth 1), OA, OF, ON, h94, h95, h96, h97, h98, h99, h100, h101, h90, h89, h105, h106, h107, h108, h109, h102, h103, h104, jk, jo, jfi, (rgs_zu jbe (by omega)), jle, jmo, jz, jlz, jsm, jsa, jqf, (rgs_zu jql (by omega)), jaf, jal, (rgs_zu jsd (by omega)), joa, jof, jon, (rtk_part jt (by omega) (by omega) (Or.inr ⟨by omega, rfl, rfl⟩) (ck6 rfl) (by omega) (Or.inl ⟨rfl, rfl, rfl⟩)), (by omega), (fun h => absurd h (by decide)), (fun h => absurd h (by decide)), (fun h => absurd h (by decide)), (fun h => absurd h (by decide)), (fun h => absurd h (by decide)), (fun h => absurd h (by decide)), jss, jsv⟩
    refine ab_vret rfl d_MO_part_60 ?_
    rw [hQ]; exact ⟨rfl, hfr, hlen, hsl, ptrI_0⟩
  · refine ab_aload_n d_MO_part_12 rfl ?_
    refine ab_getf (fs := mof m_thrown m_taped m_length m_out m_wide m_gathered m_sets m_ranges m_nodes m_at m_flags m_fault m_place m_numbered m_depth m_value m_isNot m_least0 m_most0 m_slot m_work m_got m_rowMany m_charAt m_charWide m_trail m_isMatch m_matchGroups m_allFrom m_allBefore m_founds m_pieces m_writtenMany m_templateWide m_tooMuch) f_MO_88 d_MO_part_13 h80.2.2 rfl ?_
    refine ab_aload_n d_MO_part_16 rfl ?_
    refine ab_getf (fs := mof m_thrown m_taped m_length m_out m_wide m_gathered m_sets m_ranges m_nodes m_at m_flags m_fault m_place m_numbered m_depth m_value m_isNot m_least0 m_most0 m_slot m_work m_got m_rowMany m_charAt m_charWide m_trail m_isMatch m_matchGroups m_allFrom m_allBefore m_founds m_pieces m_writtenMany m_templateWide m_tooMuch) f_MO_282 d_MO_part_17 h80.2.2 rfl ?_
    refine ab_iload_n d_MO_part_20 rfl ?_
    refine zz_iast d_MO_part_21 h105 (by omega) (h105.2.1 (by decide)) ?_
    obtain ⟨G7, eG7⟩ : ∃ z : ab_G, z = List.set G 105 (za 32 (zu QF m_depth x)) := ⟨_, rfl⟩
    have h80 := h80.keep h105 eG7 (by decide)
    have h94 := h94.keep h105 eG7 (by decide)
    have h95 := h95.keep h105 eG7 (by decide)
    have h96 := h96.keep h105 eG7 (by decide)
    have h97 := h97.keep h105 eG7 (by decide)
    have h98 := h98.keep h105 eG7 (by decide)
    have h99 := h99.keep h105 eG7 (by decide)
    have h100 := h100.keep h105 eG7 (by decide)
    have h101 := h101.keep h105 eG7 (by decide)
    have h90 := h90.keep h105 eG7 (by decide)
    have h89 := h89.keep h105 eG7 (by decide)
    have h106 := h106.keep h105 eG7 (by decide)
    have h107 := h107.keep h105 eG7 (by decide)
    have h108 := h108.keep h105 eG7 (by decide)
    have h109 := h109.keep h105 eG7 (by decide)
    have h102 := h102.keep h105 eG7 (by decide)
    have h103 := h103.keep h105 eG7 (by decide)
    have h104 := h104.keep h105 eG7 (by decide)
    have hlen := (z_len eG7).trans hlen
    have hsl := (z_sl h105 eG7 rfl).trans hsl
    have hfr := hfr.wr h105 eG7 (by decide)
    have h105 := h105.kept eG7
    change ab_W _ _ _ (List.set G 105 (za 32 (zu QF m_depth x))) 22 [some (vR 80), some (vz x), some (vz 1)] [] _
    rw [← eG7]
    refine ab_goto (tgt := 40) d_MO_part_22 (by decide) ?_
    refine ab_aload_n d_MO_part_40 rfl ?_
    refine ab_getf (fs := mof m_thrown m_taped m_length m_out m_wide m_gathered m_sets m_ranges m_nodes m_at m_flags m_fault m_place m_numbered m_depth m_value m_isNot m_least0 m_most0 m_slot m_work m_got m_rowMany m_charAt m_charWide m_trail m_isMatch m_matchGroups m_allFrom m_allBefore m_founds m_pieces m_writtenMany m_templateWide m_tooMuch) f_MO_91 d_MO_part_41 h80.2.2 rfl ?_
    refine ab_aload_n d_MO_part_44 rfl ?_
    refine ab_getf (fs := mof m_thrown m_taped m_length m_out m_wide m_gathered m_sets m_ranges m_nodes m_at m_flags m_fault m_place m_numbered m_depth m_value m_isNot m_least0 m_most0 m_slot m_work m_got m_rowMany m_charAt m_charWide m_trail m_isMatch m_matchGroups m_allFrom m_allBefore m_founds m_pieces m_writtenMany m_templateWide m_tooMuch) f_MO_282 d_MO_part_45 h80.2.2 rfl ?_
    refine ab_iload_n d_MO_part_48 rfl ?_
    refine zz_iast d_MO_part_49 h106 (by omega) (h106.2.1 (by decide)) ?_
    obtain ⟨G8, eG8⟩ : ∃ z : ab_G, z = List.set G7 106 (za 32 (zu QL m_depth x)) := ⟨_, rfl⟩
    have h80 := h80.keep h106 eG8 (by decide)
    have h94 := h94.keep h106 eG8 (by decide)
    have h95 := h95.keep h106 eG8 (by decide)
    have h96 := h96.keep h106 eG8 (by decide)
    have h97 := h97.keep h106 eG8 (by decide)
    have h98 := h98.keep h106 eG8 (by decide)
    have h99 := h99.keep h106 eG8 (by decide)
    have h100 := h100.keep h106 eG8 (by decide)
    have h101 := h101.keep h106 eG8 (by decide)
    have h90 := h90.keep h106 eG8 (by decide)
    have h89 := h89.keep h106 eG8 (by decide)
    have h105 := h105.keep h106 eG8 (by decide)
    have h107 := h107.keep h106 eG8 (by decide)
    have h108 := h108.keep h106 eG8 (by decide)
    have h109 := h109.keep h106 eG8 (by decide)
    have h102 := h102.keep h106 eG8 (by decide)
    have h103 := h103.keep h106 eG8 (by decide)
    have h104 := h104.keep h106 eG8 (by decide)
    have hlen := (z_len eG8).trans hlen
    have hsl := (z_sl h106 eG8 rfl).trans hsl
    have hfr := hfr.wr h106 eG8 (by decide)
    have h106 := h106.kept eG8
    change ab_W _ _ _ (List.set G7 106 (za 32 (zu QL m_depth x))) 50 [some (vR 80), some (vz x), some (vz 1)] [] _
    rw [← eG8]
    refine ab_aload_n d_MO_part_50 rfl ?_
    refine ab_getf (fs := mof m_thrown m_taped m_length m_out m_wide m_gathered m_sets m_ranges m_nodes m_at m_flags m_fault m_place m_numbered m_depth m_value m_isNot m_least0 m_most0 m_slot m_work m_got m_rowMany m_charAt m_charWide m_trail m_isMatch m_matchGroups m_allFrom m_allBefore m_founds m_pieces m_writtenMany m_templateWide m_tooMuch) f_MO_100 d_MO_part_51 h80.2.2 rfl ?_
    refine ab_aload_n d_MO_part_54 rfl ?_
    refine ab_getf (fs := mof m_thrown m_taped m_length m_out m_wide m_gathered m_sets m_ranges m_nodes m_at m_flags m_fault m_place m_numbered m_depth m_value m_isNot m_least0 m_most0 m_slot m_work m_got m_rowMany m_charAt m_charWide m_trail m_isMatch m_matchGroups m_allFrom m_allBefore m_founds m_pieces m_writtenMany m_templateWide m_tooMuch) f_MO_282 d_MO_part_55 h80.2.2 rfl ?_
    refine ab_iload_n d_MO_part_58 rfl ?_
    refine zz_iast d_MO_part_59 h109 (by omega) (h109.2.1 (by decide)) ?_
    obtain ⟨G9, eG9⟩ : ∃ z : ab_G, z = List.set G8 109 (za 32 (zu SD m_depth 1)) := ⟨_, rfl⟩
    have h80 := h80.keep h109 eG9 (by decide)
    have h94 := h94.keep h109 eG9 (by decide)
    have h95 := h95.keep h109 eG9 (by decide)
    have h96 := h96.keep h109 eG9 (by decide)
    have h97 := h97.keep h109 eG9 (by decide)
    have h98 := h98.keep h109 eG9 (by decide)
    have h99 := h99.keep h109 eG9 (by decide)
    have h100 := h100.keep h109 eG9 (by decide)
    have h101 := h101.keep h109 eG9 (by decide)
    have h90 := h90.keep h109 eG9 (by decide)
    have h89 := h89.keep h109 eG9 (by decide)
    have h105 := h105.keep h109 eG9 (by decide)
    have h106 := h106.keep h109 eG9 (by decide)
    have h107 := h107.keep h109 eG9 (by decide)
    have h108 := h108.keep h109 eG9 (by decide)
    have h102 := h102.keep h109 eG9 (by decide)
    have h103 := h103.keep h109 eG9 (by decide)
    have h104 := h104.keep h109 eG9 (by decide)
    have hlen := (z_len eG9).trans hlen
    have hsl := (z_sl h109 eG9 rfl).trans hsl
    have hfr := hfr.wr h109 eG9 (by decide)
    have h109 := h109.kept eG9
    change ab_W _ _ _ (List.set G8 109 (za 32 (zu SD m_depth 1))) 60 [some (vR 80), some (vz x), some (vz 1)] [] _
    rw [← eG9]
    have ptrI_0 : trI o G9 0 m_nodes m_sets (m_depth + 1) (-1) 0 0 ((a1_, b1_, c1_, d1_, (e1_ + dz)) :: t1_) 1 dz 0 SV ((ao1_, (mnC ro1_ dv)) :: ts1_) ro1_ dv mnI RL RH m_ranges 0 0 := ⟨K, O, Fi, Be, Le, Mo, Z, LZ, SM, SA, (zu QF m_depth x), (zu QL m_depth x), AF, AL, (zu SD m_depth 1), OA, OF, ON, h94, h95, h96, h97, h98, h99, h100, h101, h90, h89, h105, h106, h107, h108, h109, h102, h103, h104, jk, jo, jfi, jbe, jle, jmo, jz, jlz, jsm, jsa, (rgs_zu jqf (by omega)), (rgs_zu jql (by omega)), jaf, jal, (rgs_zu jsd (by omega)), joa, jof, jon, (rtk_part jt (by omega) (by omega) (Or.inl ⟨by omega, rfl, rfl⟩) (ck6 rfl) (by omega) (Or.inl ⟨rfl, rfl, rfl⟩)), (by omega), (fun h => absurd h (by decide)), (fun h => absurd h (by decide)), (fun h => absurd h (by decide)), (fun h => absurd h (by decide)), (fun h => absurd h (by decide)), (fun h => absurd h (by decide)), jss, jsv⟩
    refine ab_vret rfl d_MO_part_60 ?_
    rw [hQ]; exact ⟨rfl, hfr, hlen, hsl, ptrI_0⟩
set_option maxRecDepth 100000 in
set_option maxHeartbeats 4000000 in
theorem z2_MO_part {X : ab_X} {d : Nat} {o : Nat → Nat} {G : ab_G} {m_thrown : Int} {m_taped : Int} {m_length : Int} {m_out : Int} {m_wide : Int} {m_gathered : Int} {m_sets : Int} {m_ranges : Int} {m_nodes : Int} {m_at : Int} {m_flags : Int} {m_fault : Int} {m_place : Int} {m_numbered : Int} {m_depth : Int} {m_value : Int} {m_isNot : Int} {m_least0 : Int} {m_most0 : Int} {m_slot : Int} {m_work : Int} {m_got : Int} {m_rowMany : Int} {m_charAt : Int} {m_charWide : Int} {m_trail : Int} {m_isMatch : Int} {m_matchGroups : Int} {m_allFrom : Int} {m_allBefore : Int} {m_founds : Int} {m_pieces : Int} {m_writtenMany : Int} {m_templateWide : Int} {m_tooMuch : Int} {x : Int} {dh : Int} {rp : Int} {ls : Int} {dz : Int} {SV : Int → Int → Prop} {ro : Sn} {vv : Sn} {dv : Sn} {a1_ : Int} {b1_ : Int} {c1_ : Int} {d1_ : Int} {e1_ : Int} {nu9 : Int} {fo9 : Int} {t1_ : List Fr} {ao1_ : Option Sn} {ro1_ : Sn} {ts1_ : List Fs} {RL : Int → Int} {RH : Int → Int} (h80 : cc o G 80 280 (ab_ob 12 (mof m_thrown m_taped m_length m_out m_wide m_gathered m_sets m_ranges m_nodes m_at m_flags m_fault m_place m_numbered m_depth m_value m_isNot m_least0 m_most0 m_slot m_work m_got m_rowMany m_charAt m_charWide m_trail m_isMatch m_matchGroups m_allFrom m_allBefore m_founds m_pieces m_writtenMany m_templateWide m_tooMuch))) (ptrI_0 : trI o G 0 m_nodes m_sets (m_depth + 1) x dh 6 ((a1_, b1_, c1_, d1_, e1_) :: t1_) rp ls dz SV ((ao1_, ro1_) :: ts1_) ro vv dv RL RH m_ranges nu9 fo9) (n18 : ab_n0 = 18) (cdp : 0 ≤ m_depth ∧ m_depth ≤ 30) (cx : 0 ≤ x ∧ dh ≤ 30 - m_depth) (hd : 1 ≤ d) : ab_F X d y_MO_part (.code y_MO_part b_MO_part 3 none) [vR 80, vz x, vz 2] G (fun oc G2 => oc = .returned none ∧ fx o o [294, 295, 296, 297, 298, 299, 300, 301, 290, 289, 305, 306, 307, 308, 309, 302, 303, 304] G G2 ∧ G2.length = G.length ∧ ab_slots G2 = ab_slots G ∧ trI o G2 0 m_nodes m_sets (m_depth + 1) (-1) 0 0 ((a1_, b1_, c1_, d1_, (e1_ + dz)) :: t1_) 0 0 0 SV ((ao1_, (mnC ro1_ dv)) :: ts1_) mnI mnI mnI RL RH m_ranges 0 0) := by
  refine ab_F_of (by decide +kernel) (Nat.le_of_ble_eq_true rfl) ?_
  obtain ⟨Q, hQ⟩ : ∃ z : Outcome → ab_G → Prop, z = (fun oc G2 => oc = .returned none ∧ fx o o [294, 295, 296, 297, 298, 299, 300, 301, 290, 289, 305, 306, 307, 308, 309, 302, 303, 304] G G2 ∧ G2.length = G.length ∧ ab_slots G2 = ab_slots G ∧ trI o G2 0 m_nodes m_sets (m_depth + 1) (-1) 0 0 ((a1_, b1_, c1_, d1_, (e1_ + dz)) :: t1_) 0 0 0 SV ((ao1_, (mnC ro1_ dv)) :: ts1_) mnI mnI mnI RL RH m_ranges 0 0) := ⟨_, rfl⟩
  rw [← hQ]
  change ab_W X (ab_pl y_MO_part b_MO_part 3 none) d G 0 [some (vR 80), some (vz x), some (vz 2)] [] Q
  have hfr : fx o o [294, 295, 296, 297, 298, 299, 300, 301, 290, 289, 305, 306, 307, 308, 309, 302, 303, 304] G G := fx.rf
  have hlen : G.length = G.length := rfl
  have hsl : ab_slots G = ab_slots G := rfl
  obtain ⟨K, O, Fi, Be, Le, Mo, Z, LZ, SM, SA, QF, QL, AF, AL, SD, OA, OF, ON, h94, h95, h96, h97, h98, h99, h100, h101, h90, h89, h105, h106, h107, h108, h109, h102, h103, h104, jk, jo, jfi, jbe, jle, jmo, jz, jlz, jsm, jsa, jqf, jql, jaf, jal, jsd, joa, jof, jon, jt, cnd, cre, crs, crz, ck5, ck6, ck7, jss, jsv⟩ := ptrI_0
  have hlv_ := (rtr_lv jt.j.r (d := m_depth) (by omega)).1
  have hin_ := (rtr_in jt.j.r).1 (by omega)
  refine ab_aload_n d_MO_part_0 rfl ?_
  refine ab_getf (fs := mof m_thrown m_taped m_length m_out m_wide m_gathered m_sets m_ranges m_nodes m_at m_flags m_fault m_place m_numbered m_depth m_value m_isNot m_least0 m_most0 m_slot m_work m_got m_rowMany m_charAt m_charWide m_trail m_isMatch m_matchGroups m_allFrom m_allBefore m_founds m_pieces m_writtenMany m_templateWide m_tooMuch) f_MO_88 d_MO_part_1 h80.2.2 rfl ?_
  refine ab_aload_n d_MO_part_4 rfl ?_
  refine ab_getf (fs := mof m_thrown m_taped m_length m_out m_wide m_gathered m_sets m_ranges m_nodes m_at m_flags m_fault m_place m_numbered m_depth m_value m_isNot m_least0 m_most0 m_slot m_work m_got m_rowMany m_charAt m_charWide m_trail m_isMatch m_matchGroups m_allFrom m_allBefore m_founds m_pieces m_writtenMany m_templateWide m_tooMuch) f_MO_282 d_MO_part_5 h80.2.2 rfl ?_
  refine zz_iald d_MO_part_8 h105 (by omega) ?_
  have hq1 := jqf m_depth (by omega) (by omega)
  refine zz_if_ge (tgt := 25) d_MO_part_9 (by decide) (by omega) (fun c2 => ?_) (fun c2 => ?_)
  · refine ab_aload_n d_MO_part_25 rfl ?_
    refine ab_getf (fs := mof m_thrown m_taped m_length m_out m_wide m_gathered m_sets m_ranges m_nodes m_at m_flags m_fault m_place m_numbered m_depth m_value m_isNot m_least0 m_most0 m_slot m_work m_got m_rowMany m_charAt m_charWide m_trail m_isMatch m_matchGroups m_allFrom m_allBefore m_founds m_pieces m_writtenMany m_templateWide m_tooMuch) f_MO_59 d_MO_part_26 h80.2.2 rfl ?_
    refine ab_aload_n d_MO_part_29 rfl ?_
    refine ab_getf (fs := mof m_thrown m_taped m_length m_out m_wide m_gathered m_sets m_ranges m_nodes m_at m_flags m_fault m_place m_numbered m_depth m_value m_isNot m_least0 m_most0 m_slot m_work m_got m_rowMany m_charAt m_charWide m_trail m_isMatch m_matchGroups m_allFrom m_allBefore m_founds m_pieces m_writtenMany m_templateWide m_tooMuch) f_MO_91 d_MO_part_30 h80.2.2 rfl ?_
    refine ab_aload_n d_MO_part_33 rfl ?_
    refine ab_getf (fs := mof m_thrown m_taped m_length m_out m_wide m_gathered m_sets m_ranges m_nodes m_at m_flags m_fault m_place m_numbered m_depth m_value m_isNot m_least0 m_most0 m_slot m_work m_got m_rowMany m_charAt m_charWide m_trail m_isMatch m_matchGroups m_allFrom m_allBefore m_founds m_pieces m_writtenMany m_templateWide m_tooMuch) f_MO_282 d_MO_part_34 h80.2.2 rfl ?_
    refine zz_iald d_MO_part_37 h106 (by omega) ?_
    have hq3 := jql m_depth (by omega) (by omega)
    refine ab_iload_n d_MO_part_38 rfl ?_
    refine zz_iast d_MO_part_39 h97 (by omega) (h97.2.1 (by decide)) ?_
    obtain ⟨G4, eG4⟩ : ∃ z : ab_G, z = List.set G 97 (za 4200 (zu Be (QL m_depth) x)) := ⟨_, rfl⟩
    have h80 := h80.keep h97 eG4 (by decide)
    have h94 := h94.keep h97 eG4 (by decide)
    have h95 := h95.keep h97 eG4 (by decide)
    have h96 := h96.keep h97 eG4 (by decide)
    have h98 := h98.keep h97 eG4 (by decide)
    have h99 := h99.keep h97 eG4 (by decide)
    have h100 := h100.keep h97 eG4 (by decide)
    have h101 := h101.keep h97 eG4 (by decide)
    have h90 := h90.keep h97 eG4 (by decide)
    have h89 := h89.keep h97 eG4 (by decide)
    have h105 := h105.keep h97 eG4 (by decide)
    have h106 := h106.keep h97 eG4 (by decide)
    have h107 := h107.keep h97 eG4 (by decide)
    have h108 := h108.keep h97 eG4 (by decide)
    have h109 := h109.keep h97 eG4 (by decide)
    have h102 := h102.keep h97 eG4 (by decide)
    have h103 := h103.keep h97 eG4 (by decide)
    have h104 := h104.keep h97 eG4 (by decide)
    have hlen := (z_len eG4).trans hlen
    have hsl := (z_sl h97 eG4 rfl).trans hsl
    have hfr := hfr.wr h97 eG4 (by decide)
    have h97 := h97.kept eG4
    change ab_W _ _ _ (List.set G 97 (za 4200 (zu Be (QL m_depth) x))) 40 [some (vR 80), some (vz x), some (vz 2)] [] _
    rw [← eG4]
    refine ab_aload_n d_MO_part_40 rfl ?_
    refine ab_getf (fs := mof m_thrown m_taped m_length m_out m_wide m_gathered m_sets m_ranges m_nodes m_at m_flags m_fault m_place m_numbered m_depth m_value m_isNot m_least0 m_most0 m_slot m_work m_got m_rowMany m_charAt m_charWide m_trail m_isMatch m_matchGroups m_allFrom m_allBefore m_founds m_pieces m_writtenMany m_templateWide m_tooMuch) f_MO_91 d_MO_part_41 h80.2.2 rfl ?_
    refine ab_aload_n d_MO_part_44 rfl ?_
    refine ab_getf (fs := mof m_thrown m_taped m_length m_out m_wide m_gathered m_sets m_ranges m_nodes m_at m_flags m_fault m_place m_numbered m_depth m_value m_isNot m_least0 m_most0 m_slot m_work m_got m_rowMany m_charAt m_charWide m_trail m_isMatch m_matchGroups m_allFrom m_allBefore m_founds m_pieces m_writtenMany m_templateWide m_tooMuch) f_MO_282 d_MO_part_45 h80.2.2 rfl ?_
    refine ab_iload_n d_MO_part_48 rfl ?_
    refine zz_iast d_MO_part_49 h106 (by omega) (h106.2.1 (by decide)) ?_
    obtain ⟨G5, eG5⟩ : ∃ z : ab_G, z = List.set G4 106 (za 32 (zu QL m_depth x)) := ⟨_, rfl⟩
    have h80 := h80.keep h106 eG5 (by decide)
    have h94 := h94.keep h106 eG5 (by decide)
    have h95 := h95.keep h106 eG5 (by decide)
    have h96 := h96.keep h106 eG5 (by decide)
    have h97 := h97.keep h106 eG5 (by decide)
    have h98 := h98.keep h106 eG5 (by decide)
    have h99 := h99.keep h106 eG5 (by decide)
    have h100 := h100.keep h106 eG5 (by decide)
    have h101 := h101.keep h106 eG5 (by decide)
    have h90 := h90.keep h106 eG5 (by decide)
    have h89 := h89.keep h106 eG5 (by decide)
    have h105 := h105.keep h106 eG5 (by decide)
    have h107 := h107.keep h106 eG5 (by decide)
    have h108 := h108.keep h106 eG5 (by decide)
    have h109 := h109.keep h106 eG5 (by decide)
    have h102 := h102.keep h106 eG5 (by decide)
    have h103 := h103.keep h106 eG5 (by decide)
    have h104 := h104.keep h106 eG5 (by decide)
    have hlen := (z_len eG5).trans hlen
    have hsl := (z_sl h106 eG5 rfl).trans hsl
    have hfr := hfr.wr h106 eG5 (by decide)
    have h106 := h106.kept eG5
    change ab_W _ _ _ (List.set G4 106 (za 32 (zu QL m_depth x))) 50 [some (vR 80), some (vz x), some (vz 2)] [] _
    rw [← eG5]
    refine ab_aload_n d_MO_part_50 rfl ?_
    refine ab_getf (fs := mof m_thrown m_taped m_length m_out m_wide m_gathered m_sets m_ranges m_nodes m_at m_flags m_fault m_place m_numbered m_depth m_value m_isNot m_least0 m_most0 m_slot m_work m_got m_rowMany m_charAt m_charWide m_trail m_isMatch m_matchGroups m_allFrom m_allBefore m_founds m_pieces m_writtenMany m_templateWide m_tooMuch) f_MO_100 d_MO_part_51 h80.2.2 rfl ?_
    refine ab_aload_n d_MO_part_54 rfl ?_
    refine ab_getf (fs := mof m_thrown m_taped m_length m_out m_wide m_gathered m_sets m_ranges m_nodes m_at m_flags m_fault m_place m_numbered m_depth m_value m_isNot m_least0 m_most0 m_slot m_work m_got m_rowMany m_charAt m_charWide m_trail m_isMatch m_matchGroups m_allFrom m_allBefore m_founds m_pieces m_writtenMany m_templateWide m_tooMuch) f_MO_282 d_MO_part_55 h80.2.2 rfl ?_
    refine ab_iload_n d_MO_part_58 rfl ?_
    refine zz_iast d_MO_part_59 h109 (by omega) (h109.2.1 (by decide)) ?_
    obtain ⟨G6, eG6⟩ : ∃ z : ab_G, z = List.set G5 109 (za 32 (zu SD m_depth 2)) := ⟨_, rfl⟩
    have h80 := h80.keep h109 eG6 (by decide)
    have h94 := h94.keep h109 eG6 (by decide)
    have h95 := h95.keep h109 eG6 (by decide)
    have h96 := h96.keep h109 eG6 (by decide)
    have h97 := h97.keep h109 eG6 (by decide)
    have h98 := h98.keep h109 eG6 (by decide)
    have h99 := h99.keep h109 eG6 (by decide)
    have h100 := h100.keep h109 eG6 (by decide)
    have h101 := h101.keep h109 eG6 (by decide)
    have h90 := h90.keep h109 eG6 (by decide)
    have h89 := h89.keep h109 eG6 (by decide)
    have h105 := h105.keep h109 eG6 (by decide)
    have h106 := h106.keep h109 eG6 (by decide)
    have h107 := h107.keep h109 eG6 (by decide)
    have h108 := h108.keep h109 eG6 (by decide)
    have h102 := h102.keep h109 eG6 (by decide)
    have h103 := h103.keep h109 eG6 (by decide)
    have h104 := h104.keep h109 eG6 (by decide)
    have hlen := (z_len eG6).trans hlen
    have hsl := (z_sl h109 eG6 rfl).trans hsl
    have hfr := hfr.wr h109 eG6 (by decide)
    have h109 := h109.kept eG6
    change ab_W _ _ _ (List.set G5 109 (za 32 (zu SD m_depth 2))) 60 [some (vR 80), some (vz x), some (vz 2)] [] _
    rw [← eG6]
    have ptrI_0 : trI o G6 0 m_nodes m_sets (m_depth + 1) (-1) 0 0 ((a1_, b1_, c1_, d1_, (e1_ + dz)) :: t1_) 0 0 0 SV ((ao1_, (mnC ro1_ dv)) :: ts1_) mnI mnI mnI RL RH m_ranges 0 0 := ⟨K, O, Fi, (zu Be (QL m_depth) x), Le, Mo, Z, LZ, SM, SA, QF, (zu QL m_depth x), AF, AL, (zu SD m_depth 2), OA, OF, ON, h94, h95, h96, h97, h98, h99, h100, h101, h90, h89, h105, h106, h107, h108, h109, h102, h103, h104, jk, jo, jfi, (rgs_zu jbe (by omega)), jle, jmo, jz, jlz, jsm, jsa, jqf, (rgs_zu jql (by omega)), jaf, jal, (rgs_zu jsd (by omega)), joa, jof, jon, (rtk_0 (rtk_part jt (by omega) (by omega) (Or.inr ⟨by omega, rfl, rfl⟩) (ck6 rfl) (by omega) (Or.inr ⟨by decide, rfl⟩)) (by decide)), (by omega), (fun h => absurd h (by decide)), (fun h => absurd h (by decide)), (fun h => absurd h (by decide)), (fun h => absurd h (by decide)), (fun h => absurd h (by decide)), (fun h => absurd h (by decide)), jss, jsv⟩
    refine ab_vret rfl d_MO_part_60 ?_
    rw [hQ]; exact ⟨rfl, hfr, hlen, hsl, ptrI_0⟩
  · refine ab_aload_n d_MO_part_12 rfl ?_
    refine ab_getf (fs := mof m_thrown m_taped m_length m_out m_wide m_gathered m_sets m_ranges m_nodes m_at m_flags m_fault m_place m_numbered m_depth m_value m_isNot m_least0 m_most0 m_slot m_work m_got m_rowMany m_charAt m_charWide m_trail m_isMatch m_matchGroups m_allFrom m_allBefore m_founds m_pieces m_writtenMany m_templateWide m_tooMuch) f_MO_88 d_MO_part_13 h80.2.2 rfl ?_
    refine ab_aload_n d_MO_part_16 rfl ?_
    refine ab_getf (fs := mof m_thrown m_taped m_length m_out m_wide m_gathered m_sets m_ranges m_nodes m_at m_flags m_fault m_place m_numbered m_depth m_value m_isNot m_least0 m_most0 m_slot m_work m_got m_rowMany m_charAt m_charWide m_trail m_isMatch m_matchGroups m_allFrom m_allBefore m_founds m_pieces m_writtenMany m_templateWide m_tooMuch) f_MO_282 d_MO_part_17 h80.2.2 rfl ?_
    refine ab_iload_n d_MO_part_20 rfl ?_
    refine zz_iast d_MO_part_21 h105 (by omega) (h105.2.1 (by decide)) ?_
    obtain ⟨G7, eG7⟩ : ∃ z : ab_G, z = List.set G 105 (za 32 (zu QF m_depth x)) := ⟨_, rfl⟩
    have h80 := h80.keep h105 eG7 (by decide)
    have h94 := h94.keep h105 eG7 (by decide)
    have h95 := h95.keep h105 eG7 (by decide)
    have h96 := h96.keep h105 eG7 (by decide)
    have h97 := h97.keep h105 eG7 (by decide)
    have h98 := h98.keep h105 eG7 (by decide)
    have h99 := h99.keep h105 eG7 (by decide)
    have h100 := h100.keep h105 eG7 (by decide)
    have h101 := h101.keep h105 eG7 (by decide)
    have h90 := h90.keep h105 eG7 (by decide)
    have h89 := h89.keep h105 eG7 (by decide)
    have h106 := h106.keep h105 eG7 (by decide)
    have h107 := h107.keep h105 eG7 (by decide)
    have h108 := h108.keep h105 eG7 (by decide)
    have h109 := h109.keep h105 eG7 (by decide)
    have h102 := h102.keep h105 eG7 (by decide)
    have h103 := h103.keep h105 eG7 (by decide)
    have h104 := h104.keep h105 eG7 (by decide)
    have hlen := (z_len eG7).trans hlen
    have hsl := (z_sl h105 eG7 rfl).trans hsl
    have hfr := hfr.wr h105 eG7 (by decide)
    have h105 := h105.kept eG7
    change ab_W _ _ _ (List.set G 105 (za 32 (zu QF m_depth x))) 22 [some (vR 80), some (vz x), some (vz 2)] [] _
    rw [← eG7]
    refine ab_goto (tgt := 40) d_MO_part_22 (by decide) ?_
    refine ab_aload_n d_MO_part_40 rfl ?_
    refine ab_getf (fs := mof m_thrown m_taped m_length m_out m_wide m_gathered m_sets m_ranges m_nodes m_at m_flags m_fault m_place m_numbered m_depth m_value m_isNot m_least0 m_most0 m_slot m_work m_got m_rowMany m_charAt m_charWide m_trail m_isMatch m_matchGroups m_allFrom m_allBefore m_founds m_pieces m_writtenMany m_templateWide m_tooMuch) f_MO_91 d_MO_part_41 h80.2.2 rfl ?_
    refine ab_aload_n d_MO_part_44 rfl ?_
    refine ab_getf (fs := mof m_thrown m_taped m_length m_out m_wide m_gathered m_sets m_ranges m_nodes m_at m_flags m_fault m_place m_numbered m_depth m_value m_isNot m_least0 m_most0 m_slot m_work m_got m_rowMany m_charAt m_charWide m_trail m_isMatch m_matchGroups m_allFrom m_allBefore m_founds m_pieces m_writtenMany m_templateWide m_tooMuch) f_MO_282 d_MO_part_45 h80.2.2 rfl ?_
    refine ab_iload_n d_MO_part_48 rfl ?_
    refine zz_iast d_MO_part_49 h106 (by omega) (h106.2.1 (by decide)) ?_
    obtain ⟨G8, eG8⟩ : ∃ z : ab_G, z = List.set G7 106 (za 32 (zu QL m_depth x)) := ⟨_, rfl⟩
    have h80 := h80.keep h106 eG8 (by decide)
    have h94 := h94.keep h106 eG8 (by decide)
    have h95 := h95.keep h106 eG8 (by decide)
    have h96 := h96.keep h106 eG8 (by decide)
    have h97 := h97.keep h106 eG8 (by decide)
    have h98 := h98.keep h106 eG8 (by decide)
    have h99 := h99.keep h106 eG8 (by decide)
    have h100 := h100.keep h106 eG8 (by decide)
    have h101 := h101.keep h106 eG8 (by decide)
    have h90 := h90.keep h106 eG8 (by decide)
    have h89 := h89.keep h106 eG8 (by decide)
    have h105 := h105.keep h106 eG8 (by decide)
    have h107 := h107.keep h106 eG8 (by decide)
    have h108 := h108.keep h106 eG8 (by decide)
    have h109 := h109.keep h106 eG8 (by decide)
    have h102 := h102.keep h106 eG8 (by decide)
    have h103 := h103.keep h106 eG8 (by decide)
    have h104 := h104.keep h106 eG8 (by decide)
    have hlen := (z_len eG8).trans hlen
    have hsl := (z_sl h106 eG8 rfl).trans hsl
    have hfr := hfr.wr h106 eG8 (by decide)
    have h106 := h106.kept eG8
    change ab_W _ _ _ (List.set G7 106 (za 32 (zu QL m_depth x))) 50 [some (vR 80), some (vz x), some (vz 2)] [] _
    rw [← eG8]
    refine ab_aload_n d_MO_part_50 rfl ?_
    refine ab_getf (fs := mof m_thrown m_taped m_length m_out m_wide m_gathered m_sets m_ranges m_nodes m_at m_flags m_fault m_place m_numbered m_depth m_value m_isNot m_least0 m_most0 m_slot m_work m_got m_rowMany m_charAt m_charWide m_trail m_isMatch m_matchGroups m_allFrom m_allBefore m_founds m_pieces m_writtenMany m_templateWide m_tooMuch) f_MO_100 d_MO_part_51 h80.2.2 rfl ?_
    refine ab_aload_n d_MO_part_54 rfl ?_
    refine ab_getf (fs := mof m_thrown m_taped m_length m_out m_wide m_gathered m_sets m_ranges m_nodes m_at m_flags m_fault m_place m_numbered m_depth m_value m_isNot m_least0 m_most0 m_slot m_work m_got m_rowMany m_charAt m_charWide m_trail m_isMatch m_matchGroups m_allFrom m_allBefore m_founds m_pieces m_writtenMany m_templateWide m_tooMuch) f_MO_282 d_MO_part_55 h80.2.2 rfl ?_
    refine ab_iload_n d_MO_part_58 rfl ?_
    refine zz_iast d_MO_part_59 h109 (by omega) (h109.2.1 (by decide)) ?_
    obtain ⟨G9, eG9⟩ : ∃ z : ab_G, z = List.set G8 109 (za 32 (zu SD m_depth 2)) := ⟨_, rfl⟩
    have h80 := h80.keep h109 eG9 (by decide)
    have h94 := h94.keep h109 eG9 (by decide)
    have h95 := h95.keep h109 eG9 (by decide)
    have h96 := h96.keep h109 eG9 (by decide)
    have h97 := h97.keep h109 eG9 (by decide)
    have h98 := h98.keep h109 eG9 (by decide)
    have h99 := h99.keep h109 eG9 (by decide)
    have h100 := h100.keep h109 eG9 (by decide)
    have h101 := h101.keep h109 eG9 (by decide)
    have h90 := h90.keep h109 eG9 (by decide)
    have h89 := h89.keep h109 eG9 (by decide)
    have h105 := h105.keep h109 eG9 (by decide)
    have h106 := h106.keep h109 eG9 (by decide)
    have h107 := h107.keep h109 eG9 (by decide)
    have h108 := h108.keep h109 eG9 (by decide)
    have h102 := h102.keep h109 eG9 (by decide)
    have h103 := h103.keep h109 eG9 (by decide)
    have h104 := h104.keep h109 eG9 (by decide)
    have hlen := (z_len eG9).trans hlen
    have hsl := (z_sl h109 eG9 rfl).trans hsl
    have hfr := hfr.wr h109 eG9 (by decide)
    have h109 := h109.kept eG9
    change ab_W _ _ _ (List.set G8 109 (za 32 (zu SD m_depth 2))) 60 [some (vR 80), some (vz x), some (vz 2)] [] _
    rw [← eG9]
    have ptrI_0 : trI o G9 0 m_nodes m_sets (m_depth + 1) (-1) 0 0 ((a1_, b1_, c1_, d1_, (e1_ + dz)) :: t1_) 0 0 0 SV ((ao1_, (mnC ro1_ dv)) :: ts1_) mnI mnI mnI RL RH m_ranges 0 0 := ⟨K, O, Fi, Be, Le, Mo, Z, LZ, SM, SA, (zu QF m_depth x), (zu QL m_depth x), AF, AL, (zu SD m_depth 2), OA, OF, ON, h94, h95, h96, h97, h98, h99, h100, h101, h90, h89, h105, h106, h107, h108, h109, h102, h103, h104, jk, jo, jfi, jbe, jle, jmo, jz, jlz, jsm, jsa, (rgs_zu jqf (by omega)), (rgs_zu jql (by omega)), jaf, jal, (rgs_zu jsd (by omega)), joa, jof, jon, (rtk_0 (rtk_part jt (by omega) (by omega) (Or.inl ⟨by omega, rfl, rfl⟩) (ck6 rfl) (by omega) (Or.inr ⟨by decide, rfl⟩)) (by decide)), (by omega), (fun h => absurd h (by decide)), (fun h => absurd h (by decide)), (fun h => absurd h (by decide)), (fun h => absurd h (by decide)), (fun h => absurd h (by decide)), (fun h => absurd h (by decide)), jss, jsv⟩
    refine ab_vret rfl d_MO_part_60 ?_
    rw [hQ]; exact ⟨rfl, hfr, hlen, hsl, ptrI_0⟩
set_option maxRecDepth 100000 in
set_option maxHeartbeats 4000000 in
theorem y_MO_closeRow_12 {X : ab_X} {d : Nat} {Q : Outcome → ab_G → Prop} {o : Nat → Nat} {G0 : ab_G} {m_thrown : Int} {m_taped : Int} {m_length : Int} {m_out : Int} {m_wide : Int} {m_gathered : Int} {m_sets : Int} {m_ranges : Int} {m_nodes : Int} {m_at : Int} {m_flags : Int} {m_fault : Int} {m_place : Int} {m_numbered : Int} {m_depth : Int} {m_value : Int} {m_isNot : Int} {m_least0 : Int} {m_most0 : Int} {m_slot : Int} {m_work : Int} {m_got : Int} {m_rowMany : Int} {m_charAt : Int} {m_charWide : Int} {m_trail : Int} {m_isMatch : Int} {m_matchGroups : Int} {m_allFrom : Int} {m_allBefore : Int} {m_founds : Int} {m_pieces : Int} {m_writtenMany : Int} {m_templateWide : Int} {m_tooMuch : Int} {K : Int → Int} {O : Int → Int} {Fi : Int → Int} {Be : Int → Int} {Le : Int → Int} {Mo : Int → Int} {Z : Int → Int} {SM : Int → Int} {QF : Int → Int} {QL : Int → Int} {AF : Int → Int} {AL : Int → Int} {SD : Int → Int} {pa : Int → Int} {po : Int → Int} {MN : Int → Int} {dl : Int → Int} {st : Int → Int} {ht : Int → Int} {hh : Int → Int} {PS : Int → Int → Int} {T_ : Int} (n18 : ab_n0 = 18) (cdp : 0 ≤ m_depth ∧ m_depth ≤ 30) (cnn : m_nodes ≤ 4200) (jG : rtG K O Fi Be Le Mo Z SM QF QL AF AL SD m_nodes m_sets (m_depth + 1) pa po MN dl st ht hh PS T_) (jdl : dl (-2 - 2 * m_depth) = 0) (hd : 1 ≤ d) : ∀ (mz : Nat) {G : ab_G} {k : Int} {q : Int} {sz : Int}, (cc o G 80 280 (ab_ob 12 (mof m_thrown m_taped m_length m_out m_wide m_gathered m_sets m_ranges m_nodes m_at m_flags m_fault m_place m_numbered m_depth m_value m_isNot m_least0 m_most0 m_slot m_work m_got m_rowMany m_charAt m_charWide m_trail m_isMatch m_matchGroups m_allFrom m_allBefore m_founds m_pieces m_writtenMany m_templateWide m_tooMuch))) → (cc o G 100 300 (zl 4200 Z)) → (cc o G 97 297 (za 4200 Be)) → (-1 ≤ k ∧ k < 4200 ∧ sz ≤ 1000000000000 ∧ 0 ≤ sz ∧ 0 ≤ q ∧ q ≤ MN (-2 - 2 * m_depth)) → (rtq m_nodes pa po MN (-2 - 2 * m_depth) k q) → (sz = PS (-2 - 2 * m_depth) q ∨ (sz = 1000000000000 ∧ 1000000000000 ≤ PS (-2 - 2 * m_depth) q)) → (fx o o [] G0 G) → (G.length = G0.length) → (ab_slots G = ab_slots G0) → (Int.toNat (MN (-2 - 2 * m_depth) - q) < mz) → (∀ (G2 : ab_G) (s2 : Int), (0 ≤ s2 ∧ s2 ≤ 1000000000000) → (s2 = PS (-2 - 2 * m_depth) (MN (-2 - 2 * m_depth)) ∨ (s2 = 1000000000000 ∧ 1000000000000 ≤ PS (-2 - 2 * m_depth) (MN (-2 - 2 * m_depth)))) → (fx o o [] G0 G2) → (G2.length = G0.length) → (ab_slots G2 = ab_slots G0) → ab_W X (ab_pl y_MO_closeRow b_MO_closeRow 4 none) d G2 38 [some (vR 80), some (vj s2), none, none] [] Q) → ab_W X (ab_pl y_MO_closeRow b_MO_closeRow 4 none) d G 12 [some (vR 80), some (vj sz), none, some (vz k)] [] Q := by
  intro mz
  induction mz with
  | zero => intro G k q sz h80 h100 h97 ci jq js hfr hlen hsl hm hk0; exact absurd hm (Nat.not_lt_zero _)
  | succ mz ih =>
    intro G k q sz h80 h100 h97 ci jq js hfr hlen hsl hm hk0
    refine ab_iload_n d_MO_closeRow_12 rfl ?_
    refine zz_if_lt (tgt := 38) d_MO_closeRow_13 (by decide) (by omega) (fun c1 => ?_) (fun c1 => ?_)
    · refine ab_less (L' := [some (vR 80), some (vj sz), none, none]) (fun i v h => by rcases i with _ | _ | _ | _ | i <;> first | exact h | (simp at h)) ?_
      exact hk0 _ _ (by omega) (by have t_ := rtq_e jq (by omega); rw [← t_]; exact js) hfr hlen hsl
    · obtain ⟨hq1_, hq2_, hq3_, hq4_, hq5_, hq6_, hq7_⟩ := rtq_s jG jq (by omega) (by omega)
      refine ab_lload_n d_MO_closeRow_16 rfl ?_
      refine ab_aload_n d_MO_closeRow_17 rfl ?_
      refine ab_getf (fs := mof m_thrown m_taped m_length m_out m_wide m_gathered m_sets m_ranges m_nodes m_at m_flags m_fault m_place m_numbered m_depth m_value m_isNot m_least0 m_most0 m_slot m_work m_got m_rowMany m_charAt m_charWide m_trail m_isMatch m_matchGroups m_allFrom m_allBefore m_founds m_pieces m_writtenMany m_templateWide m_tooMuch) f_MO_68 d_MO_closeRow_18 h80.2.2 rfl ?_
      refine ab_iload_n d_MO_closeRow_21 rfl ?_
      refine zz_lald d_MO_closeRow_22 h100 (by omega) ?_
      refine zz_ladd d_MO_closeRow_23 ?_
      refine ab_callS (d' := d - 1) (as := [vj (sz + (Z k))]) (st := []) (z_MO_atMost (o := o) (x := (sz + (Z k))) (by omega)) (fun oc G2 h => by rcases h with ⟨h, _⟩ | ⟨h, _⟩ <;> exact ⟨_, h⟩) (by omega) m_MO_atMost ml_MO_288 st_MO_atMost (Nat.le_of_ble_eq_true rfl) d_MO_closeRow_24 rfl ?_
      intro v G2 hq
      rcases hq with ⟨hv, hGe, hq3⟩ | ⟨hv, hGe, hq4⟩
      · cases hv
        rw [hGe]
        change ab_W _ _ _ G 27 [some (vR 80), some (vj sz), none, some (vz k)] [vj (sz + (Z k))] _
        refine ab_lstore_n d_MO_closeRow_27 (Nat.le_of_ble_eq_true rfl) (Nat.le_of_ble_eq_true rfl) rfl ?_
        change ab_W _ _ _ G 28 [some (vR 80), some (vj (sz + (Z k))), none, some (vz k)] [] _
        refine ab_aload_n d_MO_closeRow_28 rfl ?_
        refine ab_getf (fs := mof m_thrown m_taped m_length m_out m_wide m_gathered m_sets m_ranges m_nodes m_at m_flags m_fault m_place m_numbered m_depth m_value m_isNot m_least0 m_most0 m_slot m_work m_got m_rowMany m_charAt m_charWide m_trail m_isMatch m_matchGroups m_allFrom m_allBefore m_founds m_pieces m_writtenMany m_templateWide m_tooMuch) f_MO_59 d_MO_closeRow_29 h80.2.2 rfl ?_
        refine ab_iload_n d_MO_closeRow_32 rfl ?_
        refine zz_iald d_MO_closeRow_33 h97 (by omega) ?_
        refine ab_istore_n d_MO_closeRow_34 (Nat.le_of_ble_eq_true rfl) (Nat.le_of_ble_eq_true rfl) rfl ?_
        change ab_W _ _ _ G 35 [some (vR 80), some (vj (sz + (Z k))), none, some (vz (Be k))] [] _
        refine ab_goto (tgt := 12) d_MO_closeRow_35 (by decide) ?_
        exact ih (k := (Be k)) (q := (q + 1)) (sz := (sz + (Z k))) h80 h100 h97 (by omega) hq1_ (by omega) hfr hlen hsl (by omega) hk0
      · cases hv
        rw [hGe]
        change ab_W _ _ _ G 27 [some (vR 80), some (vj sz), none, some (vz k)] [vj 1000000000000] _
        refine ab_lstore_n d_MO_closeRow_27 (Nat.le_of_ble_eq_true rfl) (Nat.le_of_ble_eq_true rfl) rfl ?_
        change ab_W _ _ _ G 28 [some (vR 80), some (vj 1000000000000), none, some (vz k)] [] _
        refine ab_aload_n d_MO_closeRow_28 rfl ?_
        refine ab_getf (fs := mof m_thrown m_taped m_length m_out m_wide m_gathered m_sets m_ranges m_nodes m_at m_flags m_fault m_place m_numbered m_depth m_value m_isNot m_least0 m_most0 m_slot m_work m_got m_rowMany m_charAt m_charWide m_trail m_isMatch m_matchGroups m_allFrom m_allBefore m_founds m_pieces m_writtenMany m_templateWide m_tooMuch) f_MO_59 d_MO_closeRow_29 h80.2.2 rfl ?_
        refine ab_iload_n d_MO_closeRow_32 rfl ?_
        refine zz_iald d_MO_closeRow_33 h97 (by omega) ?_
        refine ab_istore_n d_MO_closeRow_34 (Nat.le_of_ble_eq_true rfl) (Nat.le_of_ble_eq_true rfl) rfl ?_
        change ab_W _ _ _ G 35 [some (vR 80), some (vj 1000000000000), none, some (vz (Be k))] [] _
        refine ab_goto (tgt := 12) d_MO_closeRow_35 (by decide) ?_
        exact ih (k := (Be k)) (q := (q + 1)) (sz := 1000000000000) h80 h100 h97 (by omega) hq1_ (by omega) hfr hlen hsl (by omega) hk0
set_option maxRecDepth 100000 in
set_option maxHeartbeats 4000000 in
theorem z_MO_closeRow {X : ab_X} {d : Nat} {o : Nat → Nat} {G : ab_G} {m_thrown : Int} {m_taped : Int} {m_length : Int} {m_out : Int} {m_wide : Int} {m_gathered : Int} {m_sets : Int} {m_ranges : Int} {m_nodes : Int} {m_at : Int} {m_flags : Int} {m_fault : Int} {m_place : Int} {m_numbered : Int} {m_depth : Int} {m_value : Int} {m_isNot : Int} {m_least0 : Int} {m_most0 : Int} {m_slot : Int} {m_work : Int} {m_got : Int} {m_rowMany : Int} {m_charAt : Int} {m_charWide : Int} {m_trail : Int} {m_isMatch : Int} {m_matchGroups : Int} {m_allFrom : Int} {m_allBefore : Int} {m_founds : Int} {m_pieces : Int} {m_writtenMany : Int} {m_templateWide : Int} {m_tooMuch : Int} {re_ : Int} {rp : Int} {ls : Int} {SV : Int → Int → Prop} {ro : Sn} {vv : Sn} {a1_ : Int} {b1_ : Int} {c1_ : Int} {d1_ : Int} {e1_ : Int} {nu9 : Int} {fo9 : Int} {t1_ : List Fr} {ao1_ : Option Sn} {ro1_ : Sn} {ts1_ : List Fs} {RL : Int → Int} {RH : Int → Int} (h80 : cc o G 80 280 (ab_ob 12 (mof m_thrown m_taped m_length m_out m_wide m_gathered m_sets m_ranges m_nodes m_at m_flags m_fault m_place m_numbered m_depth m_value m_isNot m_least0 m_most0 m_slot m_work m_got m_rowMany m_charAt m_charWide m_trail m_isMatch m_matchGroups m_allFrom m_allBefore m_founds m_pieces m_writtenMany m_templateWide m_tooMuch))) (ptrI_0 : trI o G 0 m_nodes m_sets (m_depth + 1) (-1) 0 re_ ((a1_, b1_, c1_, d1_, e1_) :: t1_) rp ls 0 SV ((ao1_, ro1_) :: ts1_) ro vv mnI RL RH m_ranges nu9 fo9) (n18 : ab_n0 = 18) (cdp : 0 ≤ m_depth ∧ m_depth ≤ 30) (cnn : 0 ≤ m_nodes ∧ m_nodes < 4200) (hd : 2 ≤ d) : ab_F X d y_MO_closeRow (.code y_MO_closeRow b_MO_closeRow 4 none) [vR 80] G (fun oc G2 => oc = .returned none ∧ fx o o [280, 294, 295, 296, 297, 298, 299, 300, 301, 290, 289, 305, 306, 307, 308, 309, 302, 303, 304] G G2 ∧ G2.length = G.length ∧ ab_slots G2 = ab_slots G ∧ cc o G2 80 280 (ab_ob 12 (mof m_thrown m_taped m_length m_out m_wide m_gathered m_sets m_ranges (m_nodes + 1) m_at m_flags m_fault m_place m_numbered m_depth m_value m_isNot m_least0 m_most0 m_slot m_work m_got m_rowMany m_charAt m_charWide m_trail m_isMatch m_matchGroups m_allFrom m_allBefore m_founds m_pieces m_writtenMany m_templateWide m_tooMuch)) ∧ trI o G2 0 (m_nodes + 1) m_sets (m_depth + 1) (-1) 0 1 ((a1_, b1_, c1_, (d1_ + e1_ + 1), 0) :: t1_) 0 0 0 SV ((some (opO ao1_ ro1_), mnI) :: ts1_) mnI mnI mnI RL RH m_ranges 0 0) := by
  refine ab_F_of (by decide +kernel) (Nat.le_of_ble_eq_true rfl) ?_
  obtain ⟨Q, hQ⟩ : ∃ z : Outcome → ab_G → Prop, z = (fun oc G2 => oc = .returned none ∧ fx o o [280, 294, 295, 296, 297, 298, 299, 300, 301, 290, 289, 305, 306, 307, 308, 309, 302, 303, 304] G G2 ∧ G2.length = G.length ∧ ab_slots G2 = ab_slots G ∧ cc o G2 80 280 (ab_ob 12 (mof m_thrown m_taped m_length m_out m_wide m_gathered m_sets m_ranges (m_nodes + 1) m_at m_flags m_fault m_place m_numbered m_depth m_value m_isNot m_least0 m_most0 m_slot m_work m_got m_rowMany m_charAt m_charWide m_trail m_isMatch m_matchGroups m_allFrom m_allBefore m_founds m_pieces m_writtenMany m_templateWide m_tooMuch)) ∧ trI o G2 0 (m_nodes + 1) m_sets (m_depth + 1) (-1) 0 1 ((a1_, b1_, c1_, (d1_ + e1_ + 1), 0) :: t1_) 0 0 0 SV ((some (opO ao1_ ro1_), mnI) :: ts1_) mnI mnI mnI RL RH m_ranges 0 0) := ⟨_, rfl⟩
  rw [← hQ]
  change ab_W X (ab_pl y_MO_closeRow b_MO_closeRow 4 none) d G 0 [some (vR 80), none, none, none] [] Q
  have hfr : fx o o [280, 294, 295, 296, 297, 298, 299, 300, 301, 290, 289, 305, 306, 307, 308, 309, 302, 303, 304] G G := fx.rf
  have hlen : G.length = G.length := rfl
  have hsl : ab_slots G = ab_slots G := rfl
  obtain ⟨K, O, Fi, Be, Le, Mo, Z, LZ, SM, SA, QF, QL, AF, AL, SD, OA, OF, ON, h94, h95, h96, h97, h98, h99, h100, h101, h90, h89, h105, h106, h107, h108, h109, h102, h103, h104, jk, jo, jfi, jbe, jle, jmo, jz, jlz, jsm, jsa, jqf, jql, jaf, jal, jsd, joa, jof, jon, jt, cnd, cre, crs, crz, ck5, ck6, ck7, jss, jsv⟩ := ptrI_0
  have hlv_ := rtr_lv jt.j.r (d := m_depth) (by omega)
  obtain ⟨hl1_, hl2_, _⟩ := hlv_
  have hrt_ := jt
  obtain ⟨pa, po, MN, dl, st, ht, hh, PS, T_, dm_, pm_, ⟨jG, jdn_, jfq_, _⟩, jM_, jF_, jR_, jD_⟩ := hrt_
  have hL_ := jG.2.2 m_depth (by omega) (by omega)
  have jdl := hL_.2.2.1
  have jps := hL_.1.2.1
  have hm0_ : 0 ≤ MN (-2 - 2 * m_depth) := by rcases hL_.1.1 with t | t <;> omega
  refine zz_lconst d_MO_closeRow_0 ?_
  change ab_W _ _ _ G 1 [some (vR 80), none, none, none] [vj 0] _
  refine ab_lstore_n d_MO_closeRow_1 (Nat.le_of_ble_eq_true rfl) (Nat.le_of_ble_eq_true rfl) rfl ?_
  change ab_W _ _ _ G 2 [some (vR 80), some (vj 0), none, none] [] _
  refine ab_aload_n d_MO_closeRow_2 rfl ?_
  refine ab_getf (fs := mof m_thrown m_taped m_length m_out m_wide m_gathered m_sets m_ranges m_nodes m_at m_flags m_fault m_place m_numbered m_depth m_value m_isNot m_least0 m_most0 m_slot m_work m_got m_rowMany m_charAt m_charWide m_trail m_isMatch m_matchGroups m_allFrom m_allBefore m_founds m_pieces m_writtenMany m_templateWide m_tooMuch) f_MO_88 d_MO_closeRow_3 h80.2.2 rfl ?_
  refine ab_aload_n d_MO_closeRow_6 rfl ?_
  refine ab_getf (fs := mof m_thrown m_taped m_length m_out m_wide m_gathered m_sets m_ranges m_nodes m_at m_flags m_fault m_place m_numbered m_depth m_value m_isNot m_least0 m_most0 m_slot m_work m_got m_rowMany m_charAt m_charWide m_trail m_isMatch m_matchGroups m_allFrom m_allBefore m_founds m_pieces m_writtenMany m_templateWide m_tooMuch) f_MO_282 d_MO_closeRow_7 h80.2.2 rfl ?_
  refine zz_iald d_MO_closeRow_10 h105 (by omega) ?_
  have hq1 := jqf m_depth (by omega) (by omega)
  refine ab_istore_n d_MO_closeRow_11 (Nat.le_of_ble_eq_true rfl) (Nat.le_of_ble_eq_true rfl) rfl ?_
  change ab_W _ _ _ G 12 [some (vR 80), some (vj 0), none, some (vz (QF m_depth))] [] _
  refine y_MO_closeRow_12 (m_thrown := m_thrown) (m_taped := m_taped) (m_length := m_length) (m_out := m_out) (m_wide := m_wide) (m_gathered := m_gathered) (m_sets := m_sets) (m_ranges := m_ranges) (m_nodes := m_nodes) (m_at := m_at) (m_flags := m_flags) (m_fault := m_fault) (m_place := m_place) (m_numbered := m_numbered) (m_depth := m_depth) (m_value := m_value) (m_isNot := m_isNot) (m_least0 := m_least0) (m_most0 := m_most0) (m_slot := m_slot) (m_work := m_work) (m_got := m_got) (m_rowMany := m_rowMany) (m_charAt := m_charAt) (m_charWide := m_charWide) (m_trail := m_trail) (m_isMatch := m_isMatch) (m_matchGroups := m_matchGroups) (m_allFrom := m_allFrom) (m_allBefore := m_allBefore) (m_founds := m_founds) (m_pieces := m_pieces) (m_writtenMany := m_writtenMany) (m_templateWide := m_templateWide) (m_tooMuch := m_tooMuch) (Be := Be) (Z := Z) (pa := pa) (po := po) (MN := MN) (dl := dl) (st := st) (ht := ht) (hh := hh) (PS := PS) (T_ := T_) (G0 := G) (k := (QF m_depth)) (q := 0) (sz := 0) (by omega) (by omega) (by omega) jG jdl (by omega) (Int.toNat (MN (-2 - 2 * m_depth) - 0) + 1) h80 h100 h97 (by omega) (rtq_0 hL_.1.1) (Or.inl (by omega)) fx.rf rfl rfl (by omega) (fun G2 s23 hq4 hq5 hfk hlk hsk => ?_)
  · have h80 := hfk.get h80 (by decide)
    have h94 := hfk.get h94 (by decide)
    have h95 := hfk.get h95 (by decide)
    have h96 := hfk.get h96 (by decide)
    have h97 := hfk.get h97 (by decide)
    have h98 := hfk.get h98 (by decide)
    have h99 := hfk.get h99 (by decide)
    have h100 := hfk.get h100 (by decide)
    have h101 := hfk.get h101 (by decide)
    have h90 := hfk.get h90 (by decide)
    have h89 := hfk.get h89 (by decide)
    have h105 := hfk.get h105 (by decide)
    have h106 := hfk.get h106 (by decide)
    have h107 := hfk.get h107 (by decide)
    have h108 := hfk.get h108 (by decide)
    have h109 := hfk.get h109 (by decide)
    have h102 := hfk.get h102 (by decide)
    have h103 := hfk.get h103 (by decide)
    have h104 := hfk.get h104 (by decide)
    have hfr := hfr.tr hfk (by decide)
    have hlen := hlk.trans hlen
    have hsl := hsk.trans hsl
    change ab_W _ _ _ G2 38 [some (vR 80), some (vj s23), none, none] [] _
    refine ab_aload_n d_MO_closeRow_38 rfl ?_
    refine zz_iconst d_MO_closeRow_39 ?_
    refine zz_iconst d_MO_closeRow_40 ?_
    refine ab_lload_n d_MO_closeRow_41 rfl ?_
    refine ab_callV (d' := d - 1) (as := [vz 4, vz 0, vj s23]) (st := []) (r := _) (z_MO_node (o := o) (m_thrown := m_thrown) (m_taped := m_taped) (m_length := m_length) (m_out := m_out) (m_wide := m_wide) (m_gathered := m_gathered) (m_sets := m_sets) (m_ranges := m_ranges) (m_nodes := m_nodes) (m_at := m_at) (m_flags := m_flags) (m_fault := m_fault) (m_place := m_place) (m_numbered := m_numbered) (m_depth := m_depth) (m_value := m_value) (m_isNot := m_isNot) (m_least0 := m_least0) (m_most0 := m_most0) (m_slot := m_slot) (m_work := m_work) (m_got := m_got) (m_rowMany := m_rowMany) (m_charAt := m_charAt) (m_charWide := m_charWide) (m_trail := m_trail) (m_isMatch := m_isMatch) (m_matchGroups := m_matchGroups) (m_allFrom := m_allFrom) (m_allBefore := m_allBefore) (m_founds := m_founds) (m_pieces := m_pieces) (m_writtenMany := m_writtenMany) (m_templateWide := m_templateWide) (m_tooMuch := m_tooMuch) (K := K) (O := O) (Fi := Fi) (Be := Be) (Z := Z) (k := 4) (w := 0) (zs := s23) h80 h94 h95 h96 h97 h100 (by omega) (by omega)) (fun oc G2 h => by rcases h with ⟨h, _⟩ <;> exact ⟨_, h⟩) (by omega) m_MO_node ml_MO_269 im_MO_node se_MO_node c_MO h80.2.2 (Nat.le_of_ble_eq_true rfl) d_MO_closeRow_42 rfl ?_
    intro v G6 hq
    rcases hq with ⟨hv, hfk, hlk, hsk, hN80, hN94, hN95, hN96, hN97, hN100⟩
    cases hv
    have h98 := hfk.get h98 (by decide)
    have h99 := hfk.get h99 (by decide)
    have h101 := hfk.get h101 (by decide)
    have h90 := hfk.get h90 (by decide)
    have h89 := hfk.get h89 (by decide)
    have h105 := hfk.get h105 (by decide)
    have h106 := hfk.get h106 (by decide)
    have h107 := hfk.get h107 (by decide)
    have h108 := hfk.get h108 (by decide)
    have h109 := hfk.get h109 (by decide)
    have h102 := hfk.get h102 (by decide)
    have h103 := hfk.get h103 (by decide)
    have h104 := hfk.get h104 (by decide)
    have hfr := hfr.tr hfk (by decide)
    have hlen := hlk.trans hlen
    have hsl := hsk.trans hsl
    have h80 := hN80
    have h94 := hN94
    have h95 := hN95
    have h96 := hN96
    have h97 := hN97
    have h100 := hN100
    change ab_W _ _ _ G6 45 [some (vR 80), some (vj s23), none, none] [vz m_nodes] _
    refine ab_istore_n d_MO_closeRow_45 (Nat.le_of_ble_eq_true rfl) (Nat.le_of_ble_eq_true rfl) rfl ?_
    change ab_W _ _ _ G6 46 [some (vR 80), some (vj s23), none, some (vz m_nodes)] [] _
    refine ab_aload_n d_MO_closeRow_46 rfl ?_
    refine ab_getf (fs := mof m_thrown m_taped m_length m_out m_wide m_gathered m_sets m_ranges (m_nodes + 1) m_at m_flags m_fault m_place m_numbered m_depth m_value m_isNot m_least0 m_most0 m_slot m_work m_got m_rowMany m_charAt m_charWide m_trail m_isMatch m_matchGroups m_allFrom m_allBefore m_founds m_pieces m_writtenMany m_templateWide m_tooMuch) f_MO_56 d_MO_closeRow_47 h80.2.2 rfl ?_
    refine ab_iload_n d_MO_closeRow_50 rfl ?_
    refine ab_aload_n d_MO_closeRow_51 rfl ?_
    refine ab_getf (fs := mof m_thrown m_taped m_length m_out m_wide m_gathered m_sets m_ranges (m_nodes + 1) m_at m_flags m_fault m_place m_numbered m_depth m_value m_isNot m_least0 m_most0 m_slot m_work m_got m_rowMany m_charAt m_charWide m_trail m_isMatch m_matchGroups m_allFrom m_allBefore m_founds m_pieces m_writtenMany m_templateWide m_tooMuch) f_MO_88 d_MO_closeRow_52 h80.2.2 rfl ?_
    refine ab_aload_n d_MO_closeRow_55 rfl ?_
    refine ab_getf (fs := mof m_thrown m_taped m_length m_out m_wide m_gathered m_sets m_ranges (m_nodes + 1) m_at m_flags m_fault m_place m_numbered m_depth m_value m_isNot m_least0 m_most0 m_slot m_work m_got m_rowMany m_charAt m_charWide m_trail m_isMatch m_matchGroups m_allFrom m_allBefore m_founds m_pieces m_writtenMany m_templateWide m_tooMuch) f_MO_282 d_MO_closeRow_56 h80.2.2 rfl ?_
    refine zz_iald d_MO_closeRow_59 h105 (by omega) ?_
    have hq7 := jqf m_depth (by omega) (by omega)
    refine zz_iast d_MO_closeRow_60 h96 (by omega) (h96.2.1 (by decide)) ?_
    obtain ⟨G8, eG8⟩ : ∃ z : ab_G, z = List.set G6 96 (za 4200 (zu (zu Fi m_nodes (-1)) m_nodes (QF m_depth))) := ⟨_, rfl⟩
    have h80 := h80.keep h96 eG8 (by decide)
    have h94 := h94.keep h96 eG8 (by decide)
    have h95 := h95.keep h96 eG8 (by decide)
    have h97 := h97.keep h96 eG8 (by decide)
    have h98 := h98.keep h96 eG8 (by decide)
    have h99 := h99.keep h96 eG8 (by decide)
    have h100 := h100.keep h96 eG8 (by decide)
    have h101 := h101.keep h96 eG8 (by decide)
    have h90 := h90.keep h96 eG8 (by decide)
    have h89 := h89.keep h96 eG8 (by decide)
    have h105 := h105.keep h96 eG8 (by decide)
    have h106 := h106.keep h96 eG8 (by decide)
    have h107 := h107.keep h96 eG8 (by decide)
    have h108 := h108.keep h96 eG8 (by decide)
    have h109 := h109.keep h96 eG8 (by decide)
    have h102 := h102.keep h96 eG8 (by decide)
    have h103 := h103.keep h96 eG8 (by decide)
    have h104 := h104.keep h96 eG8 (by decide)
    have hlen := (z_len eG8).trans hlen
    have hsl := (z_sl h96 eG8 rfl).trans hsl
    have hfr := hfr.wr h96 eG8 (by decide)
    have h96 := h96.kept eG8
    change ab_W _ _ _ (List.set G6 96 (za 4200 (zu (zu Fi m_nodes (-1)) m_nodes (QF m_depth)))) 61 [some (vR 80), some (vj s23), none, some (vz m_nodes)] [] _
    rw [← eG8]
    refine ab_aload_n d_MO_closeRow_61 rfl ?_
    refine ab_getf (fs := mof m_thrown m_taped m_length m_out m_wide m_gathered m_sets m_ranges (m_nodes + 1) m_at m_flags m_fault m_place m_numbered m_depth m_value m_isNot m_least0 m_most0 m_slot m_work m_got m_rowMany m_charAt m_charWide m_trail m_isMatch m_matchGroups m_allFrom m_allBefore m_founds m_pieces m_writtenMany m_templateWide m_tooMuch) f_MO_94 d_MO_closeRow_62 h80.2.2 rfl ?_
    refine ab_aload_n d_MO_closeRow_65 rfl ?_
    refine ab_getf (fs := mof m_thrown m_taped m_length m_out m_wide m_gathered m_sets m_ranges (m_nodes + 1) m_at m_flags m_fault m_place m_numbered m_depth m_value m_isNot m_least0 m_most0 m_slot m_work m_got m_rowMany m_charAt m_charWide m_trail m_isMatch m_matchGroups m_allFrom m_allBefore m_founds m_pieces m_writtenMany m_templateWide m_tooMuch) f_MO_282 d_MO_closeRow_66 h80.2.2 rfl ?_
    refine zz_iald d_MO_closeRow_69 h107 (by omega) ?_
    have hq9 := jaf m_depth (by omega) (by omega)
    refine zz_if_ge (tgt := 86) d_MO_closeRow_70 (by decide) (by omega) (fun c10 => ?_) (fun c10 => ?_)
    · refine ab_aload_n d_MO_closeRow_86 rfl ?_
      refine ab_getf (fs := mof m_thrown m_taped m_length m_out m_wide m_gathered m_sets m_ranges (m_nodes + 1) m_at m_flags m_fault m_place m_numbered m_depth m_value m_isNot m_least0 m_most0 m_slot m_work m_got m_rowMany m_charAt m_charWide m_trail m_isMatch m_matchGroups m_allFrom m_allBefore m_founds m_pieces m_writtenMany m_templateWide m_tooMuch) f_MO_59 d_MO_closeRow_87 h80.2.2 rfl ?_
      refine ab_aload_n d_MO_closeRow_90 rfl ?_
      refine ab_getf (fs := mof m_thrown m_taped m_length m_out m_wide m_gathered m_sets m_ranges (m_nodes + 1) m_at m_flags m_fault m_place m_numbered m_depth m_value m_isNot m_least0 m_most0 m_slot m_work m_got m_rowMany m_charAt m_charWide m_trail m_isMatch m_matchGroups m_allFrom m_allBefore m_founds m_pieces m_writtenMany m_templateWide m_tooMuch) f_MO_97 d_MO_closeRow_91 h80.2.2 rfl ?_
      refine ab_aload_n d_MO_closeRow_94 rfl ?_
      refine ab_getf (fs := mof m_thrown m_taped m_length m_out m_wide m_gathered m_sets m_ranges (m_nodes + 1) m_at m_flags m_fault m_place m_numbered m_depth m_value m_isNot m_least0 m_most0 m_slot m_work m_got m_rowMany m_charAt m_charWide m_trail m_isMatch m_matchGroups m_allFrom m_allBefore m_founds m_pieces m_writtenMany m_templateWide m_tooMuch) f_MO_282 d_MO_closeRow_95 h80.2.2 rfl ?_
      refine zz_iald d_MO_closeRow_98 h108 (by omega) ?_
      have hq11 := jal m_depth (by omega) (by omega)
      refine ab_iload_n d_MO_closeRow_99 rfl ?_
      refine zz_iast d_MO_closeRow_100 h97 (by omega) (h97.2.1 (by decide)) ?_
      obtain ⟨G12, eG12⟩ : ∃ z : ab_G, z = List.set G8 97 (za 4200 (zu (zu Be m_nodes (-1)) (AL m_depth) m_nodes)) := ⟨_, rfl⟩
      have h80 := h80.keep h97 eG12 (by decide)
      have h94 := h94.keep h97 eG12 (by decide)
      have h95 := h95.keep h97 eG12 (by decide)
      have h96 := h96.keep h97 eG12 (by decide)
      have h98 := h98.keep h97 eG12 (by decide)
      have h99 := h99.keep h97 eG12 (by decide)
      have h100 := h100.keep h97 eG12 (by decide)
      have h101 := h101.keep h97 eG12 (by decide)
      have h90 := h90.keep h97 eG12 (by decide)
      have h89 := h89.keep h97 eG12 (by decide)
      have h105 := h105.keep h97 eG12 (by decide)
      have h106 := h106.keep h97 eG12 (by decide)
      have h107 := h107.keep h97 eG12 (by decide)
      have h108 := h108.keep h97 eG12 (by decide)
      have h109 := h109.keep h97 eG12 (by decide)
      have h102 := h102.keep h97 eG12 (by decide)
      have h103 := h103.keep h97 eG12 (by decide)
      have h104 := h104.keep h97 eG12 (by decide)
      have hlen := (z_len eG12).trans hlen
      have hsl := (z_sl h97 eG12 rfl).trans hsl
      have hfr := hfr.wr h97 eG12 (by decide)
      have h97 := h97.kept eG12
      change ab_W _ _ _ (List.set G8 97 (za 4200 (zu (zu Be m_nodes (-1)) (AL m_depth) m_nodes))) 101 [some (vR 80), some (vj s23), none, some (vz m_nodes)] [] _
      rw [← eG12]
      refine ab_aload_n d_MO_closeRow_101 rfl ?_
      refine ab_getf (fs := mof m_thrown m_taped m_length m_out m_wide m_gathered m_sets m_ranges (m_nodes + 1) m_at m_flags m_fault m_place m_numbered m_depth m_value m_isNot m_least0 m_most0 m_slot m_work m_got m_rowMany m_charAt m_charWide m_trail m_isMatch m_matchGroups m_allFrom m_allBefore m_founds m_pieces m_writtenMany m_templateWide m_tooMuch) f_MO_97 d_MO_closeRow_102 h80.2.2 rfl ?_
      refine ab_aload_n d_MO_closeRow_105 rfl ?_
      refine ab_getf (fs := mof m_thrown m_taped m_length m_out m_wide m_gathered m_sets m_ranges (m_nodes + 1) m_at m_flags m_fault m_place m_numbered m_depth m_value m_isNot m_least0 m_most0 m_slot m_work m_got m_rowMany m_charAt m_charWide m_trail m_isMatch m_matchGroups m_allFrom m_allBefore m_founds m_pieces m_writtenMany m_templateWide m_tooMuch) f_MO_282 d_MO_closeRow_106 h80.2.2 rfl ?_
      refine ab_iload_n d_MO_closeRow_109 rfl ?_
      refine zz_iast d_MO_closeRow_110 h108 (by omega) (h108.2.1 (by decide)) ?_
      obtain ⟨G13, eG13⟩ : ∃ z : ab_G, z = List.set G12 108 (za 32 (zu AL m_depth m_nodes)) := ⟨_, rfl⟩
      have h80 := h80.keep h108 eG13 (by decide)
      have h94 := h94.keep h108 eG13 (by decide)
      have h95 := h95.keep h108 eG13 (by decide)
      have h96 := h96.keep h108 eG13 (by decide)
      have h97 := h97.keep h108 eG13 (by decide)
      have h98 := h98.keep h108 eG13 (by decide)
      have h99 := h99.keep h108 eG13 (by decide)
      have h100 := h100.keep h108 eG13 (by decide)
      have h101 := h101.keep h108 eG13 (by decide)
      have h90 := h90.keep h108 eG13 (by decide)
      have h89 := h89.keep h108 eG13 (by decide)
      have h105 := h105.keep h108 eG13 (by decide)
      have h106 := h106.keep h108 eG13 (by decide)
      have h107 := h107.keep h108 eG13 (by decide)
      have h109 := h109.keep h108 eG13 (by decide)
      have h102 := h102.keep h108 eG13 (by decide)
      have h103 := h103.keep h108 eG13 (by decide)
      have h104 := h104.keep h108 eG13 (by decide)
      have hlen := (z_len eG13).trans hlen
      have hsl := (z_sl h108 eG13 rfl).trans hsl
      have hfr := hfr.wr h108 eG13 (by decide)
      have h108 := h108.kept eG13
      change ab_W _ _ _ (List.set G12 108 (za 32 (zu AL m_depth m_nodes))) 111 [some (vR 80), some (vj s23), none, some (vz m_nodes)] [] _
      rw [← eG13]
      refine ab_aload_n d_MO_closeRow_111 rfl ?_
      refine ab_callV (d' := d - 1) (as := []) (st := []) (r := _) (z_MO_openRow (o := o) (m_thrown := m_thrown) (m_taped := m_taped) (m_length := m_length) (m_out := m_out) (m_wide := m_wide) (m_gathered := m_gathered) (m_sets := m_sets) (m_ranges := m_ranges) (m_nodes := (m_nodes + 1)) (m_at := m_at) (m_flags := m_flags) (m_fault := m_fault) (m_place := m_place) (m_numbered := m_numbered) (m_depth := m_depth) (m_value := m_value) (m_isNot := m_isNot) (m_least0 := m_least0) (m_most0 := m_most0) (m_slot := m_slot) (m_work := m_work) (m_got := m_got) (m_rowMany := m_rowMany) (m_charAt := m_charAt) (m_charWide := m_charWide) (m_trail := m_trail) (m_isMatch := m_isMatch) (m_matchGroups := m_matchGroups) (m_allFrom := m_allFrom) (m_allBefore := m_allBefore) (m_founds := m_founds) (m_pieces := m_pieces) (m_writtenMany := m_writtenMany) (m_templateWide := m_templateWide) (m_tooMuch := m_tooMuch) (QF := QF) (SD := SD) h80 h105 h109 (by omega) (by omega)) (fun oc G2 h => by rcases h with ⟨h, _⟩ <;> exact ⟨_, h⟩) (by omega) m_MO_openRow ml_MO_285 im_MO_openRow se_MO_openRow c_MO h80.2.2 (Nat.le_of_ble_eq_true rfl) d_MO_closeRow_112 rfl ?_
      intro v G14 hq
      rcases hq with ⟨hv, hfk, hlk, hsk, hN105, hN109⟩
      cases hv
      have h80 := hfk.get h80 (by decide)
      have h94 := hfk.get h94 (by decide)
      have h95 := hfk.get h95 (by decide)
      have h96 := hfk.get h96 (by decide)
      have h97 := hfk.get h97 (by decide)
      have h98 := hfk.get h98 (by decide)
      have h99 := hfk.get h99 (by decide)
      have h100 := hfk.get h100 (by decide)
      have h101 := hfk.get h101 (by decide)
      have h90 := hfk.get h90 (by decide)
      have h89 := hfk.get h89 (by decide)
      have h106 := hfk.get h106 (by decide)
      have h107 := hfk.get h107 (by decide)
      have h108 := hfk.get h108 (by decide)
      have h102 := hfk.get h102 (by decide)
      have h103 := hfk.get h103 (by decide)
      have h104 := hfk.get h104 (by decide)
      have hfr := hfr.tr hfk (by decide)
      have hlen := hlk.trans hlen
      have hsl := hsk.trans hsl
      have h105 := hN105
      have h109 := hN109
      change ab_W _ _ _ G14 115 [some (vR 80), some (vj s23), none, some (vz m_nodes)] [] _
      have ptrI_0 : trI o G14 0 (m_nodes + 1) m_sets (m_depth + 1) (-1) 0 1 ((a1_, b1_, c1_, (d1_ + e1_ + 1), 0) :: t1_) 0 0 0 SV ((some (opO ao1_ ro1_), mnI) :: ts1_) mnI mnI mnI RL RH m_ranges 0 0 := ⟨(zu K m_nodes 4), (zu O m_nodes 0), (zu (zu Fi m_nodes (-1)) m_nodes (QF m_depth)), (zu (zu Be m_nodes (-1)) (AL m_depth) m_nodes), Le, Mo, (zu Z m_nodes s23), LZ, SM, SA, (zu QF m_depth (-1)), QL, AF, (zu AL m_depth m_nodes), (zu SD m_depth 0), OA, OF, ON, h94, h95, h96, h97, h98, h99, h100, h101, h90, h89, h105, h106, h107, h108, h109, h102, h103, h104, (rgs_zu jk (by omega)), (rgs_zu jo (by omega)), (rgs_zu (rgs_zu jfi (by omega)) (by omega)), (rgs_zu (rgs_zu jbe (by omega)) (by omega)), jle, jmo, (rgs_zu jz (by omega)), jlz, jsm, jsa, (rgs_zu jqf (by omega)), jql, jaf, (rgs_zu jal (by omega)), (rgs_zu jsd (by omega)), joa, jof, jon, (by rw [zu_zu]; exact rtk_alt (rtk_row jG jfq_ jM_ jF_ (by omega) (by omega) hq5) (by omega) (by omega) (Or.inr ⟨by omega, rfl, rfl⟩) (zu_self _ _ _) (by omega) (by rw [zu_self]; decide)), (by omega), (fun _ => by rw [show m_depth + 1 - 1 = m_depth by omega, zu_self]; exact ⟨by decide, by omega⟩), (fun h => absurd h (by decide)), (fun h => absurd h (by decide)), (fun h => absurd h (by decide)), (fun h => absurd h (by decide)), (fun h => absurd h (by decide)), jss, jsv⟩
      refine ab_vret rfl d_MO_closeRow_115 ?_
      rw [hQ]; exact ⟨rfl, hfr, hlen, hsl, h80, ptrI_0⟩
    · refine ab_aload_n d_MO_closeRow_73 rfl ?_
      refine ab_getf (fs := mof m_thrown m_taped m_length m_out m_wide m_gathered m_sets m_ranges (m_nodes + 1) m_at m_flags m_fault m_place m_numbered m_depth m_value m_isNot m_least0 m_most0 m_slot m_work m_got m_rowMany m_charAt m_charWide m_trail m_isMatch m_matchGroups m_allFrom m_allBefore m_founds m_pieces m_writtenMany m_templateWide m_tooMuch) f_MO_94 d_MO_closeRow_74 h80.2.2 rfl ?_
      refine ab_aload_n d_MO_closeRow_77 rfl ?_
      refine ab_getf (fs := mof m_thrown m_taped m_length m_out m_wide m_gathered m_sets m_ranges (m_nodes + 1) m_at m_flags m_fault m_place m_numbered m_depth m_value m_isNot m_least0 m_most0 m_slot m_work m_got m_rowMany m_charAt m_charWide m_trail m_isMatch m_matchGroups m_allFrom m_allBefore m_founds m_pieces m_writtenMany m_templateWide m_tooMuch) f_MO_282 d_MO_closeRow_78 h80.2.2 rfl ?_
      refine ab_iload_n d_MO_closeRow_81 rfl ?_
      refine zz_iast d_MO_closeRow_82 h107 (by omega) (h107.2.1 (by decide)) ?_
      obtain ⟨G15, eG15⟩ : ∃ z : ab_G, z = List.set G8 107 (za 32 (zu AF m_depth m_nodes)) := ⟨_, rfl⟩
      have h80 := h80.keep h107 eG15 (by decide)
      have h94 := h94.keep h107 eG15 (by decide)
      have h95 := h95.keep h107 eG15 (by decide)
      have h96 := h96.keep h107 eG15 (by decide)
      have h97 := h97.keep h107 eG15 (by decide)
      have h98 := h98.keep h107 eG15 (by decide)
      have h99 := h99.keep h107 eG15 (by decide)
      have h100 := h100.keep h107 eG15 (by decide)
      have h101 := h101.keep h107 eG15 (by decide)
      have h90 := h90.keep h107 eG15 (by decide)
      have h89 := h89.keep h107 eG15 (by decide)
      have h105 := h105.keep h107 eG15 (by decide)
      have h106 := h106.keep h107 eG15 (by decide)
      have h108 := h108.keep h107 eG15 (by decide)
      have h109 := h109.keep h107 eG15 (by decide)
      have h102 := h102.keep h107 eG15 (by decide)
      have h103 := h103.keep h107 eG15 (by decide)
      have h104 := h104.keep h107 eG15 (by decide)
      have hlen := (z_len eG15).trans hlen
      have hsl := (z_sl h107 eG15 rfl).trans hsl
      have hfr := hfr.wr h107 eG15 (by decide)
      have h107 := h107.kept eG15
      change ab_W _ _ _ (List.set G8 107 (za 32 (zu AF m_depth m_nodes))) 83 [some (vR 80), some (vj s23), none, some (vz m_nodes)] [] _
      rw [← eG15]
      refine ab_goto (tgt := 101) d_MO_closeRow_83 (by decide) ?_
      refine ab_aload_n d_MO_closeRow_101 rfl ?_
      refine ab_getf (fs := mof m_thrown m_taped m_length m_out m_wide m_gathered m_sets m_ranges (m_nodes + 1) m_at m_flags m_fault m_place m_numbered m_depth m_value m_isNot m_least0 m_most0 m_slot m_work m_got m_rowMany m_charAt m_charWide m_trail m_isMatch m_matchGroups m_allFrom m_allBefore m_founds m_pieces m_writtenMany m_templateWide m_tooMuch) f_MO_97 d_MO_closeRow_102 h80.2.2 rfl ?_
      refine ab_aload_n d_MO_closeRow_105 rfl ?_
      refine ab_getf (fs := mof m_thrown m_taped m_length m_out m_wide m_gathered m_sets m_ranges (m_nodes + 1) m_at m_flags m_fault m_place m_numbered m_depth m_value m_isNot m_least0 m_most0 m_slot m_work m_got m_rowMany m_charAt m_charWide m_trail m_isMatch m_matchGroups m_allFrom m_allBefore m_founds m_pieces m_writtenMany m_templateWide m_tooMuch) f_MO_282 d_MO_closeRow_106 h80.2.2 rfl ?_
      refine ab_iload_n d_MO_closeRow_109 rfl ?_
      refine zz_iast d_MO_closeRow_110 h108 (by omega) (h108.2.1 (by decide)) ?_
      obtain ⟨G16, eG16⟩ : ∃ z : ab_G, z = List.set G15 108 (za 32 (zu AL m_depth m_nodes)) := ⟨_, rfl⟩
      have h80 := h80.keep h108 eG16 (by decide)
      have h94 := h94.keep h108 eG16 (by decide)
      have h95 := h95.keep h108 eG16 (by decide)
      have h96 := h96.keep h108 eG16 (by decide)
      have h97 := h97.keep h108 eG16 (by decide)
      have h98 := h98.keep h108 eG16 (by decide)
      have h99 := h99.keep h108 eG16 (by decide)
      have h100 := h100.keep h108 eG16 (by decide)
      have h101 := h101.keep h108 eG16 (by decide)
      have h90 := h90.keep h108 eG16 (by decide)
      have h89 := h89.keep h108 eG16 (by decide)
      have h105 := h105.keep h108 eG16 (by decide)
      have h106 := h106.keep h108 eG16 (by decide)
      have h107 := h107.keep h108 eG16 (by decide)
      have h109 := h109.keep h108 eG16 (by decide)
      have h102 := h102.keep h108 eG16 (by decide)
      have h103 := h103.keep h108 eG16 (by decide)
      have h104 := h104.keep h108 eG16 (by decide)
      have hlen := (z_len eG16).trans hlen
      have hsl := (z_sl h108 eG16 rfl).trans hsl
      have hfr := hfr.wr h108 eG16 (by decide)
      have h108 := h108.kept eG16
      change ab_W _ _ _ (List.set G15 108 (za 32 (zu AL m_depth m_nodes))) 111 [some (vR 80), some (vj s23), none, some (vz m_nodes)] [] _
      rw [← eG16]
      refine ab_aload_n d_MO_closeRow_111 rfl ?_
      refine ab_callV (d' := d - 1) (as := []) (st := []) (r := _) (z_MO_openRow (o := o) (m_thrown := m_thrown) (m_taped := m_taped) (m_length := m_length) (m_out := m_out) (m_wide := m_wide) (m_gathered := m_gathered) (m_sets := m_sets) (m_ranges := m_ranges) (m_nodes := (m_nodes + 1)) (m_at := m_at) (m_flags := m_flags) (m_fault := m_fault) (m_place := m_place) (m_numbered := m_numbered) (m_depth := m_depth) (m_value := m_value) (m_isNot := m_isNot) (m_least0 := m_least0) (m_most0 := m_most0) (m_slot := m_slot) (m_work := m_work) (m_got := m_got) (m_rowMany := m_rowMany) (m_charAt := m_charAt) (m_charWide := m_charWide) (m_trail := m_trail) (m_isMatch := m_isMatch) (m_matchGroups := m_matchGroups) (m_allFrom := m_allFrom) (m_allBefore := m_allBefore) (m_founds := m_founds) (m_pieces := m_pieces) (m_writtenMany := m_writtenMany) (m_templateWide := m_templateWide) (m_tooMuch := m_tooMuch) (QF := QF) (SD := SD) h80 h105 h109 (by omega) (by omega)) (fun oc G2 h => by rcases h with ⟨h, _⟩ <;> exact ⟨_, h⟩) (by omega) m_MO_openRow ml_MO_285 im_MO_openRow se_MO_openRow c_MO h80.2.2 (Nat.le_of_ble_eq_true rfl) d_MO_closeRow_112 rfl ?_
      intro v G17 hq
      rcases hq with ⟨hv, hfk, hlk, hsk, hN105, hN109⟩
      cases hv
      have h80 := hfk.get h80 (by decide)
      have h94 := hfk.get h94 (by decide)
      have h95 := hfk.get h95 (by decide)
      have h96 := hfk.get h96 (by decide)
      have h97 := hfk.get h97 (by decide)
      have h98 := hfk.get h98 (by decide)
      have h99 := hfk.get h99 (by decide)
      have h100 := hfk.get h100 (by decide)
      have h101 := hfk.get h101 (by decide)
      have h90 := hfk.get h90 (by decide)
      have h89 := hfk.get h89 (by decide)
      have h106 := hfk.get h106 (by decide)
      have h107 := hfk.get h107 (by decide)
      have h108 := hfk.get h108 (by decide)
      have h102 := hfk.get h102 (by decide)
      have h103 := hfk.get h103 (by decide)
      have h104 := hfk.get h104 (by decide)
      have hfr := hfr.tr hfk (by decide)
      have hlen := hlk.trans hlen
      have hsl := hsk.trans hsl
      have h105 := hN105
      have h109 := hN109
      change ab_W _ _ _ G17 115 [some (vR 80), some (vj s23), none, some (vz m_nodes)] [] _
      have ptrI_0 : trI o G17 0 (m_nodes + 1) m_sets (m_depth + 1) (-1) 0 1 ((a1_, b1_, c1_, (d1_ + e1_ + 1), 0) :: t1_) 0 0 0 SV ((some (opO ao1_ ro1_), mnI) :: ts1_) mnI mnI mnI RL RH m_ranges 0 0 := ⟨(zu K m_nodes 4), (zu O m_nodes 0), (zu (zu Fi m_nodes (-1)) m_nodes (QF m_depth)), (zu Be m_nodes (-1)), Le, Mo, (zu Z m_nodes s23), LZ, SM, SA, (zu QF m_depth (-1)), QL, (zu AF m_depth m_nodes), (zu AL m_depth m_nodes), (zu SD m_depth 0), OA, OF, ON, h94, h95, h96, h97, h98, h99, h100, h101, h90, h89, h105, h106, h107, h108, h109, h102, h103, h104, (rgs_zu jk (by omega)), (rgs_zu jo (by omega)), (rgs_zu (rgs_zu jfi (by omega)) (by omega)), (rgs_zu jbe (by omega)), jle, jmo, (rgs_zu jz (by omega)), jlz, jsm, jsa, (rgs_zu jqf (by omega)), jql, (rgs_zu jaf (by omega)), (rgs_zu jal (by omega)), (rgs_zu jsd (by omega)), joa, jof, jon, (by rw [zu_zu]; exact rtk_alt (rtk_row jG jfq_ jM_ jF_ (by omega) (by omega) hq5) (by omega) (by omega) (Or.inl ⟨by omega, rfl, rfl⟩) (zu_self _ _ _) (by omega) (by rw [zu_self]; decide)), (by omega), (fun _ => by rw [show m_depth + 1 - 1 = m_depth by omega, zu_self]; exact ⟨by decide, by rw [zu_self]; omega⟩), (fun h => absurd h (by decide)), (fun h => absurd h (by decide)), (fun h => absurd h (by decide)), (fun h => absurd h (by decide)), (fun h => absurd h (by decide)), jss, jsv⟩
      refine ab_vret rfl d_MO_closeRow_115 ?_
      rw [hQ]; exact ⟨rfl, hfr, hlen, hsl, h80, ptrI_0⟩
set_option maxRecDepth 100000 in
set_option maxHeartbeats 4000000 in
theorem y_MO_closeAll_18 {X : ab_X} {d : Nat} {Q : Outcome → ab_G → Prop} {o : Nat → Nat} {G0 : ab_G} {m_thrown : Int} {m_taped : Int} {m_length : Int} {m_out : Int} {m_wide : Int} {m_gathered : Int} {m_sets : Int} {m_ranges : Int} {m_nodes : Int} {m_at : Int} {m_flags : Int} {m_fault : Int} {m_place : Int} {m_numbered : Int} {m_depth : Int} {m_value : Int} {m_isNot : Int} {m_least0 : Int} {m_most0 : Int} {m_slot : Int} {m_work : Int} {m_got : Int} {m_rowMany : Int} {m_charAt : Int} {m_charWide : Int} {m_trail : Int} {m_isMatch : Int} {m_matchGroups : Int} {m_allFrom : Int} {m_allBefore : Int} {m_founds : Int} {m_pieces : Int} {m_writtenMany : Int} {m_templateWide : Int} {m_tooMuch : Int} {K : Int → Int} {O : Int → Int} {Fi : Int → Int} {Be : Int → Int} {Le : Int → Int} {Mo : Int → Int} {Z : Int → Int} {SM : Int → Int} {QF : Int → Int} {QL : Int → Int} {AF : Int → Int} {AL : Int → Int} {SD : Int → Int} {pa : Int → Int} {po : Int → Int} {MN : Int → Int} {dl : Int → Int} {st : Int → Int} {ht : Int → Int} {hh : Int → Int} {PS : Int → Int → Int} {T_ : Int} (n18 : ab_n0 = 18) (cdp : 0 ≤ m_depth ∧ m_depth ≤ 30) (cnn : m_nodes ≤ 4200) (jG : rtG K O Fi Be Le Mo Z SM QF QL AF AL SD m_nodes m_sets (m_depth + 1) pa po MN dl st ht hh PS T_) (jdl : dl (-3 - 2 * m_depth) = 1) (hd : 1 ≤ d) : ∀ (mz : Nat) {G : ab_G} {k : Int} {q : Int} {sz : Int}, (cc o G 80 280 (ab_ob 12 (mof m_thrown m_taped m_length m_out m_wide m_gathered m_sets m_ranges m_nodes m_at m_flags m_fault m_place m_numbered m_depth m_value m_isNot m_least0 m_most0 m_slot m_work m_got m_rowMany m_charAt m_charWide m_trail m_isMatch m_matchGroups m_allFrom m_allBefore m_founds m_pieces m_writtenMany m_templateWide m_tooMuch))) → (cc o G 100 300 (zl 4200 Z)) → (cc o G 97 297 (za 4200 Be)) → (-1 ≤ k ∧ k < 4200 ∧ sz ≤ 1000000000000 ∧ -1 ≤ sz ∧ (q = 0 ∨ 0 ≤ sz) ∧ 0 ≤ q ∧ q ≤ MN (-3 - 2 * m_depth)) → (rtq m_nodes pa po MN (-3 - 2 * m_depth) k q) → (sz + 1 = PS (-3 - 2 * m_depth) q ∨ (sz = 1000000000000 ∧ 1000000000000 ≤ PS (-3 - 2 * m_depth) q)) → (fx o o [] G0 G) → (G.length = G0.length) → (ab_slots G = ab_slots G0) → (Int.toNat (MN (-3 - 2 * m_depth) - q) < mz) → (∀ (G2 : ab_G) (s2 : Int), (-1 ≤ s2 ∧ s2 ≤ 1000000000000) → (MN (-3 - 2 * m_depth) = 0 ∨ 0 ≤ s2) → (s2 + 1 = PS (-3 - 2 * m_depth) (MN (-3 - 2 * m_depth)) ∨ (s2 = 1000000000000 ∧ 1000000000000 ≤ PS (-3 - 2 * m_depth) (MN (-3 - 2 * m_depth)))) → (fx o o [] G0 G2) → (G2.length = G0.length) → (ab_slots G2 = ab_slots G0) → ab_W X (ab_pl y_MO_closeAll b_MO_closeAll 4 (some (.int))) d G2 46 [some (vR 80), some (vj s2), none, none] [] Q) → ab_W X (ab_pl y_MO_closeAll b_MO_closeAll 4 (some (.int))) d G 18 [some (vR 80), some (vj sz), none, some (vz k)] [] Q := by
  intro mz
  induction mz with
  | zero => intro G k q sz h80 h100 h97 ci jq js hfr hlen hsl hm hk0; exact absurd hm (Nat.not_lt_zero _)
  | succ mz ih =>
    intro G k q sz h80 h100 h97 ci jq js hfr hlen hsl hm hk0
    refine ab_iload_n d_MO_closeAll_18 rfl ?_
    refine zz_if_lt (tgt := 46) d_MO_closeAll_19 (by decide) (by omega) (fun c1 => ?_) (fun c1 => ?_)
    · refine ab_less (L' := [some (vR 80), some (vj sz), none, none]) (fun i v h => by rcases i with _ | _ | _ | _ | i <;> first | exact h | (simp at h)) ?_
      exact hk0 _ _ (by omega) (by have t_ := rtq_e jq (by omega); omega) (by have t_ := rtq_e jq (by omega); rw [← t_]; exact js) hfr hlen hsl
    · obtain ⟨hq1_, hq2_, hq3_, hq4_, hq5_, hq6_, hq7_⟩ := rtq_s jG jq (by omega) (by omega)
      refine ab_lload_n d_MO_closeAll_22 rfl ?_
      refine zz_lconst d_MO_closeAll_23 ?_
      change ab_W _ _ _ G 24 [some (vR 80), some (vj sz), none, some (vz k)] [vj 1, vj sz] _
      refine zz_ladd d_MO_closeAll_24 ?_
      refine ab_aload_n d_MO_closeAll_25 rfl ?_
      refine ab_getf (fs := mof m_thrown m_taped m_length m_out m_wide m_gathered m_sets m_ranges m_nodes m_at m_flags m_fault m_place m_numbered m_depth m_value m_isNot m_least0 m_most0 m_slot m_work m_got m_rowMany m_charAt m_charWide m_trail m_isMatch m_matchGroups m_allFrom m_allBefore m_founds m_pieces m_writtenMany m_templateWide m_tooMuch) f_MO_68 d_MO_closeAll_26 h80.2.2 rfl ?_
      refine ab_iload_n d_MO_closeAll_29 rfl ?_
      refine zz_lald d_MO_closeAll_30 h100 (by omega) ?_
      refine zz_ladd d_MO_closeAll_31 ?_
      refine ab_callS (d' := d - 1) (as := [vj ((sz + 1) + (Z k))]) (st := []) (z_MO_atMost (o := o) (x := ((sz + 1) + (Z k))) (by omega)) (fun oc G2 h => by rcases h with ⟨h, _⟩ | ⟨h, _⟩ <;> exact ⟨_, h⟩) (by omega) m_MO_atMost ml_MO_288 st_MO_atMost (Nat.le_of_ble_eq_true rfl) d_MO_closeAll_32 rfl ?_
      intro v G2 hq
      rcases hq with ⟨hv, hGe, hq3⟩ | ⟨hv, hGe, hq4⟩
      · cases hv
        rw [hGe]
        change ab_W _ _ _ G 35 [some (vR 80), some (vj sz), none, some (vz k)] [vj ((sz + 1) + (Z k))] _
        refine ab_lstore_n d_MO_closeAll_35 (Nat.le_of_ble_eq_true rfl) (Nat.le_of_ble_eq_true rfl) rfl ?_
        change ab_W _ _ _ G 36 [some (vR 80), some (vj ((sz + 1) + (Z k))), none, some (vz k)] [] _
        refine ab_aload_n d_MO_closeAll_36 rfl ?_
        refine ab_getf (fs := mof m_thrown m_taped m_length m_out m_wide m_gathered m_sets m_ranges m_nodes m_at m_flags m_fault m_place m_numbered m_depth m_value m_isNot m_least0 m_most0 m_slot m_work m_got m_rowMany m_charAt m_charWide m_trail m_isMatch m_matchGroups m_allFrom m_allBefore m_founds m_pieces m_writtenMany m_templateWide m_tooMuch) f_MO_59 d_MO_closeAll_37 h80.2.2 rfl ?_
        refine ab_iload_n d_MO_closeAll_40 rfl ?_
        refine zz_iald d_MO_closeAll_41 h97 (by omega) ?_
        refine ab_istore_n d_MO_closeAll_42 (Nat.le_of_ble_eq_true rfl) (Nat.le_of_ble_eq_true rfl) rfl ?_
        change ab_W _ _ _ G 43 [some (vR 80), some (vj ((sz + 1) + (Z k))), none, some (vz (Be k))] [] _
        refine ab_goto (tgt := 18) d_MO_closeAll_43 (by decide) ?_
        exact ih (k := (Be k)) (q := (q + 1)) (sz := ((sz + 1) + (Z k))) h80 h100 h97 (by omega) hq1_ (by omega) hfr hlen hsl (by omega) hk0
      · cases hv
        rw [hGe]
        change ab_W _ _ _ G 35 [some (vR 80), some (vj sz), none, some (vz k)] [vj 1000000000000] _
        refine ab_lstore_n d_MO_closeAll_35 (Nat.le_of_ble_eq_true rfl) (Nat.le_of_ble_eq_true rfl) rfl ?_
        change ab_W _ _ _ G 36 [some (vR 80), some (vj 1000000000000), none, some (vz k)] [] _
        refine ab_aload_n d_MO_closeAll_36 rfl ?_
        refine ab_getf (fs := mof m_thrown m_taped m_length m_out m_wide m_gathered m_sets m_ranges m_nodes m_at m_flags m_fault m_place m_numbered m_depth m_value m_isNot m_least0 m_most0 m_slot m_work m_got m_rowMany m_charAt m_charWide m_trail m_isMatch m_matchGroups m_allFrom m_allBefore m_founds m_pieces m_writtenMany m_templateWide m_tooMuch) f_MO_59 d_MO_closeAll_37 h80.2.2 rfl ?_
        refine ab_iload_n d_MO_closeAll_40 rfl ?_
        refine zz_iald d_MO_closeAll_41 h97 (by omega) ?_
        refine ab_istore_n d_MO_closeAll_42 (Nat.le_of_ble_eq_true rfl) (Nat.le_of_ble_eq_true rfl) rfl ?_
        change ab_W _ _ _ G 43 [some (vR 80), some (vj 1000000000000), none, some (vz (Be k))] [] _
        refine ab_goto (tgt := 18) d_MO_closeAll_43 (by decide) ?_
        exact ih (k := (Be k)) (q := (q + 1)) (sz := 1000000000000) h80 h100 h97 (by omega) hq1_ (by omega) hfr hlen hsl (by omega) hk0
set_option maxRecDepth 100000 in
set_option maxHeartbeats 4000000 in
theorem z_MO_closeAll {X : ab_X} {d : Nat} {o : Nat → Nat} {G : ab_G} {m_thrown : Int} {m_taped : Int} {m_length : Int} {m_out : Int} {m_wide : Int} {m_gathered : Int} {m_sets : Int} {m_ranges : Int} {m_nodes : Int} {m_at : Int} {m_flags : Int} {m_fault : Int} {m_place : Int} {m_numbered : Int} {m_depth : Int} {m_value : Int} {m_isNot : Int} {m_least0 : Int} {m_most0 : Int} {m_slot : Int} {m_work : Int} {m_got : Int} {m_rowMany : Int} {m_charAt : Int} {m_charWide : Int} {m_trail : Int} {m_isMatch : Int} {m_matchGroups : Int} {m_allFrom : Int} {m_allBefore : Int} {m_founds : Int} {m_pieces : Int} {m_writtenMany : Int} {m_templateWide : Int} {m_tooMuch : Int} {re_ : Int} {rp : Int} {ls : Int} {SV : Int → Int → Prop} {ro : Sn} {vv : Sn} {a1_ : Int} {b1_ : Int} {c1_ : Int} {d1_ : Int} {e1_ : Int} {nu9 : Int} {fo9 : Int} {t1_ : List Fr} {ao1_ : Option Sn} {ro1_ : Sn} {ts1_ : List Fs} {RL : Int → Int} {RH : Int → Int} (h80 : cc o G 80 280 (ab_ob 12 (mof m_thrown m_taped m_length m_out m_wide m_gathered m_sets m_ranges m_nodes m_at m_flags m_fault m_place m_numbered m_depth m_value m_isNot m_least0 m_most0 m_slot m_work m_got m_rowMany m_charAt m_charWide m_trail m_isMatch m_matchGroups m_allFrom m_allBefore m_founds m_pieces m_writtenMany m_templateWide m_tooMuch))) (ptrI_0 : trI o G 0 m_nodes m_sets (m_depth + 1) (-1) 0 re_ ((a1_, b1_, c1_, d1_, e1_) :: t1_) rp ls 0 SV ((ao1_, ro1_) :: ts1_) ro vv mnI RL RH m_ranges nu9 fo9) (n18 : ab_n0 = 18) (cdp : 0 ≤ m_depth ∧ m_depth ≤ 30) (cnn : 0 ≤ m_nodes ∧ m_nodes < 4199) (hd : 3 ≤ d) : ab_F X d y_MO_closeAll (.code y_MO_closeAll b_MO_closeAll 4 (some (.int))) [vR 80] G (fun oc G2 => oc = .returned (some (vz (m_nodes + 1))) ∧ fx o o [280, 294, 295, 296, 297, 298, 299, 300, 301, 290, 289, 305, 306, 307, 308, 309, 302, 303, 304] G G2 ∧ G2.length = G.length ∧ ab_slots G2 = ab_slots G ∧ cc o G2 80 280 (ab_ob 12 (mof m_thrown m_taped m_length m_out m_wide m_gathered m_sets m_ranges (m_nodes + 1 + 1) m_at m_flags m_fault m_place m_numbered m_depth m_value m_isNot m_least0 m_most0 m_slot m_work m_got m_rowMany m_charAt m_charWide m_trail m_isMatch m_matchGroups m_allFrom m_allBefore m_founds m_pieces m_writtenMany m_templateWide m_tooMuch)) ∧ trI o G2 0 (m_nodes + 1 + 1) m_sets m_depth (m_nodes + 1) (31 - m_depth) 5 t1_ 2 0 (e1_ + d1_) SV ts1_ mnI mnI (opO ao1_ ro1_) RL RH m_ranges c1_ b1_) := by
  refine ab_F_of (by decide +kernel) (Nat.le_of_ble_eq_true rfl) ?_
  obtain ⟨Q, hQ⟩ : ∃ z : Outcome → ab_G → Prop, z = (fun oc G2 => oc = .returned (some (vz (m_nodes + 1))) ∧ fx o o [280, 294, 295, 296, 297, 298, 299, 300, 301, 290, 289, 305, 306, 307, 308, 309, 302, 303, 304] G G2 ∧ G2.length = G.length ∧ ab_slots G2 = ab_slots G ∧ cc o G2 80 280 (ab_ob 12 (mof m_thrown m_taped m_length m_out m_wide m_gathered m_sets m_ranges (m_nodes + 1 + 1) m_at m_flags m_fault m_place m_numbered m_depth m_value m_isNot m_least0 m_most0 m_slot m_work m_got m_rowMany m_charAt m_charWide m_trail m_isMatch m_matchGroups m_allFrom m_allBefore m_founds m_pieces m_writtenMany m_templateWide m_tooMuch)) ∧ trI o G2 0 (m_nodes + 1 + 1) m_sets m_depth (m_nodes + 1) (31 - m_depth) 5 t1_ 2 0 (e1_ + d1_) SV ts1_ mnI mnI (opO ao1_ ro1_) RL RH m_ranges c1_ b1_) := ⟨_, rfl⟩
  rw [← hQ]
  change ab_W X (ab_pl y_MO_closeAll b_MO_closeAll 4 (some (.int))) d G 0 [some (vR 80), none, none, none] [] Q
  have hfr : fx o o [280, 294, 295, 296, 297, 298, 299, 300, 301, 290, 289, 305, 306, 307, 308, 309, 302, 303, 304] G G := fx.rf
  have hlen : G.length = G.length := rfl
  have hsl : ab_slots G = ab_slots G := rfl
  refine ab_aload_n d_MO_closeAll_0 rfl ?_
  refine ab_callV (d' := d - 1) (as := []) (st := []) (r := _) (z_MO_closeRow (o := o) (m_thrown := m_thrown) (m_taped := m_taped) (m_length := m_length) (m_out := m_out) (m_wide := m_wide) (m_gathered := m_gathered) (m_sets := m_sets) (m_ranges := m_ranges) (m_nodes := m_nodes) (m_at := m_at) (m_flags := m_flags) (m_fault := m_fault) (m_place := m_place) (m_numbered := m_numbered) (m_depth := m_depth) (m_value := m_value) (m_isNot := m_isNot) (m_least0 := m_least0) (m_most0 := m_most0) (m_slot := m_slot) (m_work := m_work) (m_got := m_got) (m_rowMany := m_rowMany) (m_charAt := m_charAt) (m_charWide := m_charWide) (m_trail := m_trail) (m_isMatch := m_isMatch) (m_matchGroups := m_matchGroups) (m_allFrom := m_allFrom) (m_allBefore := m_allBefore) (m_founds := m_founds) (m_pieces := m_pieces) (m_writtenMany := m_writtenMany) (m_templateWide := m_templateWide) (m_tooMuch := m_tooMuch) (re_ := re_) (rp := rp) (ls := ls) (SV := SV) (ro := ro) (vv := vv) (a1_ := a1_) (b1_ := b1_) (c1_ := c1_) (d1_ := d1_) (e1_ := e1_) (nu9 := nu9) (fo9 := fo9) (t1_ := t1_) (ao1_ := ao1_) (ro1_ := ro1_) (ts1_ := ts1_) (RL := RL) (RH := RH) h80 ptrI_0 (by omega) (by omega) (by omega) (by omega)) (fun oc G2 h => by rcases h with ⟨h, _⟩ <;> exact ⟨_, h⟩) (by omega) m_MO_closeRow ml_MO_292 im_MO_closeRow se_MO_closeRow c_MO h80.2.2 (Nat.le_of_ble_eq_true rfl) d_MO_closeAll_1 rfl ?_
  intro v G1 hq
  rcases hq with ⟨hv, hfk, hlk, hsk, hN80, pNtrI_0⟩
  cases hv
  have ptrI_0 := pNtrI_0
  have hfr := hfr.tr hfk (by decide)
  have hlen := hlk.trans hlen
  have hsl := hsk.trans hsl
  have h80 := hN80
  change ab_W _ _ _ G1 4 [some (vR 80), none, none, none] [] _
  obtain ⟨K, O, Fi, Be, Le, Mo, Z, LZ, SM, SA, QF, QL, AF, AL, SD, OA, OF, ON, h94, h95, h96, h97, h98, h99, h100, h101, h90, h89, h105, h106, h107, h108, h109, h102, h103, h104, jk, jo, jfi, jbe, jle, jmo, jz, jlz, jsm, jsa, jqf, jql, jaf, jal, jsd, joa, jof, jon, jt, cnd, cre, crs, crz, ck5, ck6, ck7, jss, jsv⟩ := ptrI_0
  have hlv_ := rtr_lv jt.j.r (d := m_depth) (by omega)
  obtain ⟨_, hl2_, _⟩ := hlv_
  obtain ⟨_, _, _, _, _, _, hq9_, ho1_, ho2_, ho3_⟩ := jt.j.hd (by omega)
  cases hq9_
  rw [show m_depth + 1 - 1 = m_depth by omega] at ho2_ ho3_
  have hck7_ : ON m_depth = c1_ ∧ (m_depth = 0 ∨ OF m_depth = b1_) := ⟨ho3_, ho2_.imp (fun z => by have t := jt.j.len; rw [z] at t; simp only [List.length_cons, List.length_nil] at t; omega) id⟩
  have hre_ := cre rfl
  rw [show m_depth + 1 - 1 = m_depth by omega] at hre_
  have hrt_ := jt
  obtain ⟨pa, po, MN, dl, st, ht, hh, PS, T_, dm_, pm_, ⟨jG, jdn_, jfq_, _⟩, jM_, jF_, jR_, jD_⟩ := hrt_
  have hL_ := jG.2.2 m_depth (by omega) (by omega)
  have jdl := hL_.2.2.2.1
  have jps := hL_.2.1.2.1
  have hm0_ : 0 < MN (-3 - 2 * m_depth) := by rcases hL_.2.1.1 with t | t <;> omega
  refine zz_ldc2 (-1) d_MO_closeAll_4 (by rw [show Int64.ofInt (-1) = ((-1) : Int64) by decide]; exact cn_MO_295) ?_
  refine ab_lstore_n d_MO_closeAll_7 (Nat.le_of_ble_eq_true rfl) (Nat.le_of_ble_eq_true rfl) rfl ?_
  change ab_W _ _ _ G1 8 [some (vR 80), some (vj (-1)), none, none] [] _
  refine ab_aload_n d_MO_closeAll_8 rfl ?_
  refine ab_getf (fs := mof m_thrown m_taped m_length m_out m_wide m_gathered m_sets m_ranges (m_nodes + 1) m_at m_flags m_fault m_place m_numbered m_depth m_value m_isNot m_least0 m_most0 m_slot m_work m_got m_rowMany m_charAt m_charWide m_trail m_isMatch m_matchGroups m_allFrom m_allBefore m_founds m_pieces m_writtenMany m_templateWide m_tooMuch) f_MO_94 d_MO_closeAll_9 h80.2.2 rfl ?_
  refine ab_aload_n d_MO_closeAll_12 rfl ?_
  refine ab_getf (fs := mof m_thrown m_taped m_length m_out m_wide m_gathered m_sets m_ranges (m_nodes + 1) m_at m_flags m_fault m_place m_numbered m_depth m_value m_isNot m_least0 m_most0 m_slot m_work m_got m_rowMany m_charAt m_charWide m_trail m_isMatch m_matchGroups m_allFrom m_allBefore m_founds m_pieces m_writtenMany m_templateWide m_tooMuch) f_MO_282 d_MO_closeAll_13 h80.2.2 rfl ?_
  refine zz_iald d_MO_closeAll_16 h107 (by omega) ?_
  have hq2 := jaf m_depth (by omega) (by omega)
  refine ab_istore_n d_MO_closeAll_17 (Nat.le_of_ble_eq_true rfl) (Nat.le_of_ble_eq_true rfl) rfl ?_
  change ab_W _ _ _ G1 18 [some (vR 80), some (vj (-1)), none, some (vz (AF m_depth))] [] _
  refine y_MO_closeAll_18 (m_thrown := m_thrown) (m_taped := m_taped) (m_length := m_length) (m_out := m_out) (m_wide := m_wide) (m_gathered := m_gathered) (m_sets := m_sets) (m_ranges := m_ranges) (m_nodes := (m_nodes + 1)) (m_at := m_at) (m_flags := m_flags) (m_fault := m_fault) (m_place := m_place) (m_numbered := m_numbered) (m_depth := m_depth) (m_value := m_value) (m_isNot := m_isNot) (m_least0 := m_least0) (m_most0 := m_most0) (m_slot := m_slot) (m_work := m_work) (m_got := m_got) (m_rowMany := m_rowMany) (m_charAt := m_charAt) (m_charWide := m_charWide) (m_trail := m_trail) (m_isMatch := m_isMatch) (m_matchGroups := m_matchGroups) (m_allFrom := m_allFrom) (m_allBefore := m_allBefore) (m_founds := m_founds) (m_pieces := m_pieces) (m_writtenMany := m_writtenMany) (m_templateWide := m_templateWide) (m_tooMuch := m_tooMuch) (Be := Be) (Z := Z) (pa := pa) (po := po) (MN := MN) (dl := dl) (st := st) (ht := ht) (hh := hh) (PS := PS) (T_ := T_) (G0 := G1) (k := (AF m_depth)) (q := 0) (sz := (-1)) (by omega) (by omega) (by omega) jG jdl (by omega) (Int.toNat (MN (-3 - 2 * m_depth) - 0) + 1) h80 h100 h97 (by omega) (rtq_0 hL_.2.1.1) (Or.inl (by omega)) fx.rf rfl rfl (by omega) (fun G3 s24 hq5 hq6 hq7 hfk hlk hsk => ?_)
  · have h80 := hfk.get h80 (by decide)
    have h94 := hfk.get h94 (by decide)
    have h95 := hfk.get h95 (by decide)
    have h96 := hfk.get h96 (by decide)
    have h97 := hfk.get h97 (by decide)
    have h98 := hfk.get h98 (by decide)
    have h99 := hfk.get h99 (by decide)
    have h100 := hfk.get h100 (by decide)
    have h101 := hfk.get h101 (by decide)
    have h90 := hfk.get h90 (by decide)
    have h89 := hfk.get h89 (by decide)
    have h105 := hfk.get h105 (by decide)
    have h106 := hfk.get h106 (by decide)
    have h107 := hfk.get h107 (by decide)
    have h108 := hfk.get h108 (by decide)
    have h109 := hfk.get h109 (by decide)
    have h102 := hfk.get h102 (by decide)
    have h103 := hfk.get h103 (by decide)
    have h104 := hfk.get h104 (by decide)
    have hfr := hfr.tr hfk (by decide)
    have hlen := hlk.trans hlen
    have hsl := hsk.trans hsl
    change ab_W _ _ _ G3 46 [some (vR 80), some (vj s24), none, none] [] _
    refine ab_aload_n d_MO_closeAll_46 rfl ?_
    refine zz_iconst d_MO_closeAll_47 ?_
    refine zz_iconst d_MO_closeAll_48 ?_
    refine ab_lload_n d_MO_closeAll_49 rfl ?_
    refine ab_callV (d' := d - 1) (as := [vz 5, vz 0, vj s24]) (st := []) (r := _) (z_MO_node (o := o) (m_thrown := m_thrown) (m_taped := m_taped) (m_length := m_length) (m_out := m_out) (m_wide := m_wide) (m_gathered := m_gathered) (m_sets := m_sets) (m_ranges := m_ranges) (m_nodes := (m_nodes + 1)) (m_at := m_at) (m_flags := m_flags) (m_fault := m_fault) (m_place := m_place) (m_numbered := m_numbered) (m_depth := m_depth) (m_value := m_value) (m_isNot := m_isNot) (m_least0 := m_least0) (m_most0 := m_most0) (m_slot := m_slot) (m_work := m_work) (m_got := m_got) (m_rowMany := m_rowMany) (m_charAt := m_charAt) (m_charWide := m_charWide) (m_trail := m_trail) (m_isMatch := m_isMatch) (m_matchGroups := m_matchGroups) (m_allFrom := m_allFrom) (m_allBefore := m_allBefore) (m_founds := m_founds) (m_pieces := m_pieces) (m_writtenMany := m_writtenMany) (m_templateWide := m_templateWide) (m_tooMuch := m_tooMuch) (K := K) (O := O) (Fi := Fi) (Be := Be) (Z := Z) (k := 5) (w := 0) (zs := s24) h80 h94 h95 h96 h97 h100 (by omega) (by omega)) (fun oc G2 h => by rcases h with ⟨h, _⟩ <;> exact ⟨_, h⟩) (by omega) m_MO_node ml_MO_269 im_MO_node se_MO_node c_MO h80.2.2 (Nat.le_of_ble_eq_true rfl) d_MO_closeAll_50 rfl ?_
    intro v G8 hq
    rcases hq with ⟨hv, hfk, hlk, hsk, hN80, hN94, hN95, hN96, hN97, hN100⟩
    cases hv
    have h98 := hfk.get h98 (by decide)
    have h99 := hfk.get h99 (by decide)
    have h101 := hfk.get h101 (by decide)
    have h90 := hfk.get h90 (by decide)
    have h89 := hfk.get h89 (by decide)
    have h105 := hfk.get h105 (by decide)
    have h106 := hfk.get h106 (by decide)
    have h107 := hfk.get h107 (by decide)
    have h108 := hfk.get h108 (by decide)
    have h109 := hfk.get h109 (by decide)
    have h102 := hfk.get h102 (by decide)
    have h103 := hfk.get h103 (by decide)
    have h104 := hfk.get h104 (by decide)
    have hfr := hfr.tr hfk (by decide)
    have hlen := hlk.trans hlen
    have hsl := hsk.trans hsl
    have h80 := hN80
    have h94 := hN94
    have h95 := hN95
    have h96 := hN96
    have h97 := hN97
    have h100 := hN100
    change ab_W _ _ _ G8 53 [some (vR 80), some (vj s24), none, none] [vz (m_nodes + 1)] _
    refine ab_istore_n d_MO_closeAll_53 (Nat.le_of_ble_eq_true rfl) (Nat.le_of_ble_eq_true rfl) rfl ?_
    change ab_W _ _ _ G8 54 [some (vR 80), some (vj s24), none, some (vz (m_nodes + 1))] [] _
    refine ab_aload_n d_MO_closeAll_54 rfl ?_
    refine ab_getf (fs := mof m_thrown m_taped m_length m_out m_wide m_gathered m_sets m_ranges ((m_nodes + 1) + 1) m_at m_flags m_fault m_place m_numbered m_depth m_value m_isNot m_least0 m_most0 m_slot m_work m_got m_rowMany m_charAt m_charWide m_trail m_isMatch m_matchGroups m_allFrom m_allBefore m_founds m_pieces m_writtenMany m_templateWide m_tooMuch) f_MO_56 d_MO_closeAll_55 h80.2.2 rfl ?_
    refine ab_iload_n d_MO_closeAll_58 rfl ?_
    refine ab_aload_n d_MO_closeAll_59 rfl ?_
    refine ab_getf (fs := mof m_thrown m_taped m_length m_out m_wide m_gathered m_sets m_ranges ((m_nodes + 1) + 1) m_at m_flags m_fault m_place m_numbered m_depth m_value m_isNot m_least0 m_most0 m_slot m_work m_got m_rowMany m_charAt m_charWide m_trail m_isMatch m_matchGroups m_allFrom m_allBefore m_founds m_pieces m_writtenMany m_templateWide m_tooMuch) f_MO_94 d_MO_closeAll_60 h80.2.2 rfl ?_
    refine ab_aload_n d_MO_closeAll_63 rfl ?_
    refine ab_getf (fs := mof m_thrown m_taped m_length m_out m_wide m_gathered m_sets m_ranges ((m_nodes + 1) + 1) m_at m_flags m_fault m_place m_numbered m_depth m_value m_isNot m_least0 m_most0 m_slot m_work m_got m_rowMany m_charAt m_charWide m_trail m_isMatch m_matchGroups m_allFrom m_allBefore m_founds m_pieces m_writtenMany m_templateWide m_tooMuch) f_MO_282 d_MO_closeAll_64 h80.2.2 rfl ?_
    refine zz_iald d_MO_closeAll_67 h107 (by omega) ?_
    have hq9 := jaf m_depth (by omega) (by omega)
    refine zz_iast d_MO_closeAll_68 h96 (by omega) (h96.2.1 (by decide)) ?_
    obtain ⟨G10, eG10⟩ : ∃ z : ab_G, z = List.set G8 96 (za 4200 (zu (zu Fi (m_nodes + 1) (-1)) (m_nodes + 1) (AF m_depth))) := ⟨_, rfl⟩
    have h80 := h80.keep h96 eG10 (by decide)
    have h94 := h94.keep h96 eG10 (by decide)
    have h95 := h95.keep h96 eG10 (by decide)
    have h97 := h97.keep h96 eG10 (by decide)
    have h98 := h98.keep h96 eG10 (by decide)
    have h99 := h99.keep h96 eG10 (by decide)
    have h100 := h100.keep h96 eG10 (by decide)
    have h101 := h101.keep h96 eG10 (by decide)
    have h90 := h90.keep h96 eG10 (by decide)
    have h89 := h89.keep h96 eG10 (by decide)
    have h105 := h105.keep h96 eG10 (by decide)
    have h106 := h106.keep h96 eG10 (by decide)
    have h107 := h107.keep h96 eG10 (by decide)
    have h108 := h108.keep h96 eG10 (by decide)
    have h109 := h109.keep h96 eG10 (by decide)
    have h102 := h102.keep h96 eG10 (by decide)
    have h103 := h103.keep h96 eG10 (by decide)
    have h104 := h104.keep h96 eG10 (by decide)
    have hlen := (z_len eG10).trans hlen
    have hsl := (z_sl h96 eG10 rfl).trans hsl
    have hfr := hfr.wr h96 eG10 (by decide)
    have h96 := h96.kept eG10
    change ab_W _ _ _ (List.set G8 96 (za 4200 (zu (zu Fi (m_nodes + 1) (-1)) (m_nodes + 1) (AF m_depth)))) 69 [some (vR 80), some (vj s24), none, some (vz (m_nodes + 1))] [] _
    rw [← eG10]
    have ptrI_0 : trI o G10 0 (m_nodes + 1 + 1) m_sets m_depth (m_nodes + 1) (31 - m_depth) 5 t1_ 2 0 (e1_ + d1_) SV ts1_ mnI mnI (opO ao1_ ro1_) RL RH m_ranges c1_ b1_ := ⟨(zu K (m_nodes + 1) 5), (zu O (m_nodes + 1) 0), (zu (zu Fi (m_nodes + 1) (-1)) (m_nodes + 1) (AF m_depth)), (zu Be (m_nodes + 1) (-1)), Le, Mo, (zu Z (m_nodes + 1) s24), LZ, SM, SA, QF, QL, AF, AL, SD, OA, OF, ON, h94, h95, h96, h97, h98, h99, h100, h101, h90, h89, h105, h106, h107, h108, h109, h102, h103, h104, (rgs_zu jk (by omega)), (rgs_zu jo (by omega)), (rgs_zu (rgs_zu jfi (by omega)) (by omega)), (rgs_zu jbe (by omega)), jle, jmo, (rgs_zu jz (by omega)), jlz, jsm, jsa, jqf, jql, jaf, jal, jsd, joa, jof, jon, (by rw [zu_zu, show e1_ + d1_ = d1_ + e1_ + 1 - 1 by omega]; exact rtk_all jG jfq_ jM_ jF_ (by omega) (by omega) (by omega) hq7), (by omega), (fun h => absurd h (by decide)), (fun h => absurd h (by decide)), (fun h => absurd h (by decide)), (fun _ => zu_self _ _ _), (fun h => absurd h (by decide)), (fun _ => hck7_), jss, jsv⟩
    refine ab_iload_n d_MO_closeAll_69 rfl ?_
    refine zz_iret rfl d_MO_closeAll_70 ?_
    rw [hQ]; exact ⟨rfl, hfr, hlen, hsl, h80, ptrI_0⟩
set_option maxRecDepth 100000 in
set_option maxHeartbeats 4000000 in
theorem z_MO_repeat {X : ab_X} {d : Nat} {o : Nat → Nat} {G : ab_G} {m_thrown : Int} {m_taped : Int} {m_length : Int} {m_out : Int} {m_wide : Int} {m_gathered : Int} {m_sets : Int} {m_ranges : Int} {m_nodes : Int} {m_at : Int} {m_flags : Int} {m_fault : Int} {m_place : Int} {m_numbered : Int} {m_depth : Int} {m_value : Int} {m_isNot : Int} {m_least0 : Int} {m_most0 : Int} {m_slot : Int} {m_work : Int} {m_got : Int} {m_rowMany : Int} {m_charAt : Int} {m_charWide : Int} {m_trail : Int} {m_isMatch : Int} {m_matchGroups : Int} {m_allFrom : Int} {m_allBefore : Int} {m_founds : Int} {m_pieces : Int} {m_writtenMany : Int} {m_templateWide : Int} {m_tooMuch : Int} {le : Int} {mo : Int} {lz : Int} {ls : Int} {SV : Int → Int → Prop} {ro : Sn} {vv : Sn} {a1_ : Int} {b1_ : Int} {c1_ : Int} {d1_ : Int} {e1_ : Int} {mo9 : Int} {nu9 : Int} {fo9 : Int} {t1_ : List Fr} {ao1_ : Option Sn} {ro1_ : Sn} {ts1_ : List Fs} {RL : Int → Int} {RH : Int → Int} (h80 : cc o G 80 280 (ab_ob 12 (mof m_thrown m_taped m_length m_out m_wide m_gathered m_sets m_ranges m_nodes m_at m_flags m_fault m_place m_numbered m_depth m_value m_isNot m_least0 m_most0 m_slot m_work m_got m_rowMany m_charAt m_charWide m_trail m_isMatch m_matchGroups m_allFrom m_allBefore m_founds m_pieces m_writtenMany m_templateWide m_tooMuch))) (ptrI_0 : trI o G 0 m_nodes m_sets (m_depth + 1) (-1) 0 2 ((a1_, b1_, c1_, d1_, e1_) :: t1_) 1 ls 0 SV ((ao1_, ro1_) :: ts1_) ro vv mnI RL RH m_ranges nu9 fo9) (n18 : ab_n0 = 18) (cdp : 0 ≤ m_depth ∧ m_depth ≤ 30) (cnn : 0 ≤ m_nodes ∧ m_nodes < 4200) (cle : 0 ≤ le ∧ le ≤ 100 ∧ -1 ≤ mo ∧ mo ≤ 100 ∧ 0 ≤ lz ∧ lz ≤ 1) (clm : 0 ≤ mo → le ≤ mo) (hm9 : (mo < 0 ∧ mo9 = 1000) ∨ (0 ≤ mo ∧ mo9 = mo)) (hd : 2 ≤ d) : ab_F X d y_MO_repeat (.code y_MO_repeat b_MO_repeat 8 none) [vR 80, vz le, vz mo, vz lz] G (fun oc G2 => oc = .returned none ∧ fx o o [280, 294, 295, 296, 297, 298, 299, 300, 301, 290, 289, 305, 306, 307, 308, 309, 302, 303, 304] G G2 ∧ G2.length = G.length ∧ ab_slots G2 = ab_slots G ∧ cc o G2 80 280 (ab_ob 12 (mof m_thrown m_taped m_length m_out m_wide m_gathered m_sets m_ranges (m_nodes + 1) m_at m_flags m_fault m_place m_numbered m_depth m_value m_isNot m_least0 m_most0 m_slot m_work m_got m_rowMany m_charAt m_charWide m_trail m_isMatch m_matchGroups m_allFrom m_allBefore m_founds m_pieces m_writtenMany m_templateWide m_tooMuch)) ∧ trI o G2 0 (m_nodes + 1) m_sets (m_depth + 1) (-1) 0 0 ((a1_, b1_, c1_, d1_, (e1_ - ls + (tms le mo9 * ls + mre le mo9))) :: t1_) 0 0 0 SV ((ao1_, (mnC ro (mnR le mo9 lz vv))) :: ts1_) mnI mnI mnI RL RH m_ranges 0 0) := by
  refine ab_F_of (by decide +kernel) (Nat.le_of_ble_eq_true rfl) ?_
  obtain ⟨Q, hQ⟩ : ∃ z : Outcome → ab_G → Prop, z = (fun oc G2 => oc = .returned none ∧ fx o o [280, 294, 295, 296, 297, 298, 299, 300, 301, 290, 289, 305, 306, 307, 308, 309, 302, 303, 304] G G2 ∧ G2.length = G.length ∧ ab_slots G2 = ab_slots G ∧ cc o G2 80 280 (ab_ob 12 (mof m_thrown m_taped m_length m_out m_wide m_gathered m_sets m_ranges (m_nodes + 1) m_at m_flags m_fault m_place m_numbered m_depth m_value m_isNot m_least0 m_most0 m_slot m_work m_got m_rowMany m_charAt m_charWide m_trail m_isMatch m_matchGroups m_allFrom m_allBefore m_founds m_pieces m_writtenMany m_templateWide m_tooMuch)) ∧ trI o G2 0 (m_nodes + 1) m_sets (m_depth + 1) (-1) 0 0 ((a1_, b1_, c1_, d1_, (e1_ - ls + (tms le mo9 * ls + mre le mo9))) :: t1_) 0 0 0 SV ((ao1_, (mnC ro (mnR le mo9 lz vv))) :: ts1_) mnI mnI mnI RL RH m_ranges 0 0) := ⟨_, rfl⟩
  rw [← hQ]
  change ab_W X (ab_pl y_MO_repeat b_MO_repeat 8 none) d G 0 [some (vR 80), some (vz le), some (vz mo), some (vz lz), none, none, none, none] [] Q
  have hfr : fx o o [280, 294, 295, 296, 297, 298, 299, 300, 301, 290, 289, 305, 306, 307, 308, 309, 302, 303, 304] G G := fx.rf
  have hlen : G.length = G.length := rfl
  have hsl : ab_slots G = ab_slots G := rfl
  obtain ⟨K, O, Fi, Be, Le, Mo, Z, LZ, SM, SA, QF, QL, AF, AL, SD, OA, OF, ON, h94, h95, h96, h97, h98, h99, h100, h101, h90, h89, h105, h106, h107, h108, h109, h102, h103, h104, jk, jo, jfi, jbe, jle, jmo, jz, jlz, jsm, jsa, jqf, jql, jaf, jal, jsd, joa, jof, jon, jt, cnd, cre, crs, crz, ck5, ck6, ck7, jss, jsv⟩ := ptrI_0
  have hrs_ := crs rfl
  rw [show m_depth + 1 - 1 = m_depth by omega] at hrs_
  have hlv_ := rtr_lv jt.j.r (d := m_depth) (by omega)
  have hl3_ := hlv_.1 (hlv_.2.2 hrs_)
  have jls_ := jt.j.ls
  rw [show m_depth + 1 - 1 = m_depth by omega] at jls_
  have hzn_ := rtr_z jt.j.r (i := QL m_depth) (by omega)
  refine ab_aload_n d_MO_repeat_0 rfl ?_
  refine ab_getf (fs := mof m_thrown m_taped m_length m_out m_wide m_gathered m_sets m_ranges m_nodes m_at m_flags m_fault m_place m_numbered m_depth m_value m_isNot m_least0 m_most0 m_slot m_work m_got m_rowMany m_charAt m_charWide m_trail m_isMatch m_matchGroups m_allFrom m_allBefore m_founds m_pieces m_writtenMany m_templateWide m_tooMuch) f_MO_91 d_MO_repeat_1 h80.2.2 rfl ?_
  refine ab_aload_n d_MO_repeat_4 rfl ?_
  refine ab_getf (fs := mof m_thrown m_taped m_length m_out m_wide m_gathered m_sets m_ranges m_nodes m_at m_flags m_fault m_place m_numbered m_depth m_value m_isNot m_least0 m_most0 m_slot m_work m_got m_rowMany m_charAt m_charWide m_trail m_isMatch m_matchGroups m_allFrom m_allBefore m_founds m_pieces m_writtenMany m_templateWide m_tooMuch) f_MO_282 d_MO_repeat_5 h80.2.2 rfl ?_
  refine zz_iald d_MO_repeat_8 h106 (by omega) ?_
  have hq1 := jql m_depth (by omega) (by omega)
  refine ab_istore d_MO_repeat_9 (Nat.le_of_ble_eq_true rfl) (Nat.le_of_ble_eq_true rfl) rfl ?_
  change ab_W _ _ _ G 11 [some (vR 80), some (vz le), some (vz mo), some (vz lz), some (vz (QL m_depth)), none, none, none] [] _
  refine ab_aload_n d_MO_repeat_11 rfl ?_
  refine ab_aload_n d_MO_repeat_12 rfl ?_
  refine ab_getf (fs := mof m_thrown m_taped m_length m_out m_wide m_gathered m_sets m_ranges m_nodes m_at m_flags m_fault m_place m_numbered m_depth m_value m_isNot m_least0 m_most0 m_slot m_work m_got m_rowMany m_charAt m_charWide m_trail m_isMatch m_matchGroups m_allFrom m_allBefore m_founds m_pieces m_writtenMany m_templateWide m_tooMuch) f_MO_50 d_MO_repeat_13 h80.2.2 rfl ?_
  refine ab_iload d_MO_repeat_16 rfl ?_
  refine zz_iald d_MO_repeat_18 h94 (by omega) ?_
  have hq2 := jk (QL m_depth) (by omega) (by omega)
  refine ab_aload_n d_MO_repeat_19 rfl ?_
  refine ab_getf (fs := mof m_thrown m_taped m_length m_out m_wide m_gathered m_sets m_ranges m_nodes m_at m_flags m_fault m_place m_numbered m_depth m_value m_isNot m_least0 m_most0 m_slot m_work m_got m_rowMany m_charAt m_charWide m_trail m_isMatch m_matchGroups m_allFrom m_allBefore m_founds m_pieces m_writtenMany m_templateWide m_tooMuch) f_MO_53 d_MO_repeat_20 h80.2.2 rfl ?_
  refine ab_iload d_MO_repeat_23 rfl ?_
  refine zz_iald d_MO_repeat_25 h95 (by omega) ?_
  have hq3 := jo (QL m_depth) (by omega) (by omega)
  refine ab_aload_n d_MO_repeat_26 rfl ?_
  refine ab_getf (fs := mof m_thrown m_taped m_length m_out m_wide m_gathered m_sets m_ranges m_nodes m_at m_flags m_fault m_place m_numbered m_depth m_value m_isNot m_least0 m_most0 m_slot m_work m_got m_rowMany m_charAt m_charWide m_trail m_isMatch m_matchGroups m_allFrom m_allBefore m_founds m_pieces m_writtenMany m_templateWide m_tooMuch) f_MO_68 d_MO_repeat_27 h80.2.2 rfl ?_
  refine ab_iload d_MO_repeat_30 rfl ?_
  refine zz_lald d_MO_repeat_32 h100 (by omega) ?_
  have hq4 := jz (QL m_depth) (by omega) (by omega)
  refine ab_callV (d' := d - 1) (as := [vz (K (QL m_depth)), vz (O (QL m_depth)), vj (Z (QL m_depth))]) (st := []) (r := _) (z_MO_node (o := o) (m_thrown := m_thrown) (m_taped := m_taped) (m_length := m_length) (m_out := m_out) (m_wide := m_wide) (m_gathered := m_gathered) (m_sets := m_sets) (m_ranges := m_ranges) (m_nodes := m_nodes) (m_at := m_at) (m_flags := m_flags) (m_fault := m_fault) (m_place := m_place) (m_numbered := m_numbered) (m_depth := m_depth) (m_value := m_value) (m_isNot := m_isNot) (m_least0 := m_least0) (m_most0 := m_most0) (m_slot := m_slot) (m_work := m_work) (m_got := m_got) (m_rowMany := m_rowMany) (m_charAt := m_charAt) (m_charWide := m_charWide) (m_trail := m_trail) (m_isMatch := m_isMatch) (m_matchGroups := m_matchGroups) (m_allFrom := m_allFrom) (m_allBefore := m_allBefore) (m_founds := m_founds) (m_pieces := m_pieces) (m_writtenMany := m_writtenMany) (m_templateWide := m_templateWide) (m_tooMuch := m_tooMuch) (K := K) (O := O) (Fi := Fi) (Be := Be) (Z := Z) (k := (K (QL m_depth))) (w := (O (QL m_depth))) (zs := (Z (QL m_depth))) h80 h94 h95 h96 h97 h100 (by omega) (by omega)) (fun oc G2 h => by rcases h with ⟨h, _⟩ <;> exact ⟨_, h⟩) (by omega) m_MO_node ml_MO_269 im_MO_node se_MO_node c_MO h80.2.2 (Nat.le_of_ble_eq_true rfl) d_MO_repeat_33 rfl ?_
  intro v G5 hq
  rcases hq with ⟨hv, hfk, hlk, hsk, hN80, hN94, hN95, hN96, hN97, hN100⟩
  cases hv
  have h98 := hfk.get h98 (by decide)
  have h99 := hfk.get h99 (by decide)
  have h101 := hfk.get h101 (by decide)
  have h90 := hfk.get h90 (by decide)
  have h89 := hfk.get h89 (by decide)
  have h105 := hfk.get h105 (by decide)
  have h106 := hfk.get h106 (by decide)
  have h107 := hfk.get h107 (by decide)
  have h108 := hfk.get h108 (by decide)
  have h109 := hfk.get h109 (by decide)
  have h102 := hfk.get h102 (by decide)
  have h103 := hfk.get h103 (by decide)
  have h104 := hfk.get h104 (by decide)
  have hfr := hfr.tr hfk (by decide)
  have hlen := hlk.trans hlen
  have hsl := hsk.trans hsl
  have h80 := hN80
  have h94 := hN94
  have h95 := hN95
  have h96 := hN96
  have h97 := hN97
  have h100 := hN100
  change ab_W _ _ _ G5 36 [some (vR 80), some (vz le), some (vz mo), some (vz lz), some (vz (QL m_depth)), none, none, none] [vz m_nodes] _
  refine ab_istore d_MO_repeat_36 (Nat.le_of_ble_eq_true rfl) (Nat.le_of_ble_eq_true rfl) rfl ?_
  change ab_W _ _ _ G5 38 [some (vR 80), some (vz le), some (vz mo), some (vz lz), some (vz (QL m_depth)), some (vz m_nodes), none, none] [] _
  refine ab_aload_n d_MO_repeat_38 rfl ?_
  refine ab_getf (fs := mof m_thrown m_taped m_length m_out m_wide m_gathered m_sets m_ranges (m_nodes + 1) m_at m_flags m_fault m_place m_numbered m_depth m_value m_isNot m_least0 m_most0 m_slot m_work m_got m_rowMany m_charAt m_charWide m_trail m_isMatch m_matchGroups m_allFrom m_allBefore m_founds m_pieces m_writtenMany m_templateWide m_tooMuch) f_MO_56 d_MO_repeat_39 h80.2.2 rfl ?_
  refine ab_iload d_MO_repeat_42 rfl ?_
  refine ab_aload_n d_MO_repeat_44 rfl ?_
  refine ab_getf (fs := mof m_thrown m_taped m_length m_out m_wide m_gathered m_sets m_ranges (m_nodes + 1) m_at m_flags m_fault m_place m_numbered m_depth m_value m_isNot m_least0 m_most0 m_slot m_work m_got m_rowMany m_charAt m_charWide m_trail m_isMatch m_matchGroups m_allFrom m_allBefore m_founds m_pieces m_writtenMany m_templateWide m_tooMuch) f_MO_56 d_MO_repeat_45 h80.2.2 rfl ?_
  refine ab_iload d_MO_repeat_48 rfl ?_
  refine zz_iald d_MO_repeat_50 h96 (by omega) ?_
  refine zz_top (zu_ne (by omega)) ?_
  have hq6 := jfi (QL m_depth) (by omega) (by omega)
  refine zz_iast d_MO_repeat_51 h96 (by omega) (h96.2.1 (by decide)) ?_
  obtain ⟨G7, eG7⟩ : ∃ z : ab_G, z = List.set G5 96 (za 4200 (zu (zu Fi m_nodes (-1)) m_nodes (Fi (QL m_depth)))) := ⟨_, rfl⟩
  have h80 := h80.keep h96 eG7 (by decide)
  have h94 := h94.keep h96 eG7 (by decide)
  have h95 := h95.keep h96 eG7 (by decide)
  have h97 := h97.keep h96 eG7 (by decide)
  have h98 := h98.keep h96 eG7 (by decide)
  have h99 := h99.keep h96 eG7 (by decide)
  have h100 := h100.keep h96 eG7 (by decide)
  have h101 := h101.keep h96 eG7 (by decide)
  have h90 := h90.keep h96 eG7 (by decide)
  have h89 := h89.keep h96 eG7 (by decide)
  have h105 := h105.keep h96 eG7 (by decide)
  have h106 := h106.keep h96 eG7 (by decide)
  have h107 := h107.keep h96 eG7 (by decide)
  have h108 := h108.keep h96 eG7 (by decide)
  have h109 := h109.keep h96 eG7 (by decide)
  have h102 := h102.keep h96 eG7 (by decide)
  have h103 := h103.keep h96 eG7 (by decide)
  have h104 := h104.keep h96 eG7 (by decide)
  have hlen := (z_len eG7).trans hlen
  have hsl := (z_sl h96 eG7 rfl).trans hsl
  have hfr := hfr.wr h96 eG7 (by decide)
  have h96 := h96.kept eG7
  change ab_W _ _ _ (List.set G5 96 (za 4200 (zu (zu Fi m_nodes (-1)) m_nodes (Fi (QL m_depth))))) 52 [some (vR 80), some (vz le), some (vz mo), some (vz lz), some (vz (QL m_depth)), some (vz m_nodes), none, none] [] _
  rw [← eG7]
  refine ab_aload_n d_MO_repeat_52 rfl ?_
  refine ab_getf (fs := mof m_thrown m_taped m_length m_out m_wide m_gathered m_sets m_ranges (m_nodes + 1) m_at m_flags m_fault m_place m_numbered m_depth m_value m_isNot m_least0 m_most0 m_slot m_work m_got m_rowMany m_charAt m_charWide m_trail m_isMatch m_matchGroups m_allFrom m_allBefore m_founds m_pieces m_writtenMany m_templateWide m_tooMuch) f_MO_62 d_MO_repeat_53 h80.2.2 rfl ?_
  refine ab_iload d_MO_repeat_56 rfl ?_
  refine ab_aload_n d_MO_repeat_58 rfl ?_
  refine ab_getf (fs := mof m_thrown m_taped m_length m_out m_wide m_gathered m_sets m_ranges (m_nodes + 1) m_at m_flags m_fault m_place m_numbered m_depth m_value m_isNot m_least0 m_most0 m_slot m_work m_got m_rowMany m_charAt m_charWide m_trail m_isMatch m_matchGroups m_allFrom m_allBefore m_founds m_pieces m_writtenMany m_templateWide m_tooMuch) f_MO_62 d_MO_repeat_59 h80.2.2 rfl ?_
  refine ab_iload d_MO_repeat_62 rfl ?_
  refine zz_iald d_MO_repeat_64 h98 (by omega) ?_
  have hq8 := jle (QL m_depth) (by omega) (by omega)
  refine zz_iast d_MO_repeat_65 h98 (by omega) (h98.2.1 (by decide)) ?_
  obtain ⟨G9, eG9⟩ : ∃ z : ab_G, z = List.set G7 98 (za 4200 (zu Le m_nodes (Le (QL m_depth)))) := ⟨_, rfl⟩
  have h80 := h80.keep h98 eG9 (by decide)
  have h94 := h94.keep h98 eG9 (by decide)
  have h95 := h95.keep h98 eG9 (by decide)
  have h96 := h96.keep h98 eG9 (by decide)
  have h97 := h97.keep h98 eG9 (by decide)
  have h99 := h99.keep h98 eG9 (by decide)
  have h100 := h100.keep h98 eG9 (by decide)
  have h101 := h101.keep h98 eG9 (by decide)
  have h90 := h90.keep h98 eG9 (by decide)
  have h89 := h89.keep h98 eG9 (by decide)
  have h105 := h105.keep h98 eG9 (by decide)
  have h106 := h106.keep h98 eG9 (by decide)
  have h107 := h107.keep h98 eG9 (by decide)
  have h108 := h108.keep h98 eG9 (by decide)
  have h109 := h109.keep h98 eG9 (by decide)
  have h102 := h102.keep h98 eG9 (by decide)
  have h103 := h103.keep h98 eG9 (by decide)
  have h104 := h104.keep h98 eG9 (by decide)
  have hlen := (z_len eG9).trans hlen
  have hsl := (z_sl h98 eG9 rfl).trans hsl
  have hfr := hfr.wr h98 eG9 (by decide)
  have h98 := h98.kept eG9
  change ab_W _ _ _ (List.set G7 98 (za 4200 (zu Le m_nodes (Le (QL m_depth))))) 66 [some (vR 80), some (vz le), some (vz mo), some (vz lz), some (vz (QL m_depth)), some (vz m_nodes), none, none] [] _
  rw [← eG9]
  refine ab_aload_n d_MO_repeat_66 rfl ?_
  refine ab_getf (fs := mof m_thrown m_taped m_length m_out m_wide m_gathered m_sets m_ranges (m_nodes + 1) m_at m_flags m_fault m_place m_numbered m_depth m_value m_isNot m_least0 m_most0 m_slot m_work m_got m_rowMany m_charAt m_charWide m_trail m_isMatch m_matchGroups m_allFrom m_allBefore m_founds m_pieces m_writtenMany m_templateWide m_tooMuch) f_MO_65 d_MO_repeat_67 h80.2.2 rfl ?_
  refine ab_iload d_MO_repeat_70 rfl ?_
  refine ab_aload_n d_MO_repeat_72 rfl ?_
  refine ab_getf (fs := mof m_thrown m_taped m_length m_out m_wide m_gathered m_sets m_ranges (m_nodes + 1) m_at m_flags m_fault m_place m_numbered m_depth m_value m_isNot m_least0 m_most0 m_slot m_work m_got m_rowMany m_charAt m_charWide m_trail m_isMatch m_matchGroups m_allFrom m_allBefore m_founds m_pieces m_writtenMany m_templateWide m_tooMuch) f_MO_65 d_MO_repeat_73 h80.2.2 rfl ?_
  refine ab_iload d_MO_repeat_76 rfl ?_
  refine zz_iald d_MO_repeat_78 h99 (by omega) ?_
  have hq10 := jmo (QL m_depth) (by omega) (by omega)
  refine zz_iast d_MO_repeat_79 h99 (by omega) (h99.2.1 (by decide)) ?_
  obtain ⟨G11, eG11⟩ : ∃ z : ab_G, z = List.set G9 99 (za 4200 (zu Mo m_nodes (Mo (QL m_depth)))) := ⟨_, rfl⟩
  have h80 := h80.keep h99 eG11 (by decide)
  have h94 := h94.keep h99 eG11 (by decide)
  have h95 := h95.keep h99 eG11 (by decide)
  have h96 := h96.keep h99 eG11 (by decide)
  have h97 := h97.keep h99 eG11 (by decide)
  have h98 := h98.keep h99 eG11 (by decide)
  have h100 := h100.keep h99 eG11 (by decide)
  have h101 := h101.keep h99 eG11 (by decide)
  have h90 := h90.keep h99 eG11 (by decide)
  have h89 := h89.keep h99 eG11 (by decide)
  have h105 := h105.keep h99 eG11 (by decide)
  have h106 := h106.keep h99 eG11 (by decide)
  have h107 := h107.keep h99 eG11 (by decide)
  have h108 := h108.keep h99 eG11 (by decide)
  have h109 := h109.keep h99 eG11 (by decide)
  have h102 := h102.keep h99 eG11 (by decide)
  have h103 := h103.keep h99 eG11 (by decide)
  have h104 := h104.keep h99 eG11 (by decide)
  have hlen := (z_len eG11).trans hlen
  have hsl := (z_sl h99 eG11 rfl).trans hsl
  have hfr := hfr.wr h99 eG11 (by decide)
  have h99 := h99.kept eG11
  change ab_W _ _ _ (List.set G9 99 (za 4200 (zu Mo m_nodes (Mo (QL m_depth))))) 80 [some (vR 80), some (vz le), some (vz mo), some (vz lz), some (vz (QL m_depth)), some (vz m_nodes), none, none] [] _
  rw [← eG11]
  refine ab_aload_n d_MO_repeat_80 rfl ?_
  refine ab_getf (fs := mof m_thrown m_taped m_length m_out m_wide m_gathered m_sets m_ranges (m_nodes + 1) m_at m_flags m_fault m_place m_numbered m_depth m_value m_isNot m_least0 m_most0 m_slot m_work m_got m_rowMany m_charAt m_charWide m_trail m_isMatch m_matchGroups m_allFrom m_allBefore m_founds m_pieces m_writtenMany m_templateWide m_tooMuch) f_MO_72 d_MO_repeat_81 h80.2.2 rfl ?_
  refine ab_iload d_MO_repeat_84 rfl ?_
  refine ab_aload_n d_MO_repeat_86 rfl ?_
  refine ab_getf (fs := mof m_thrown m_taped m_length m_out m_wide m_gathered m_sets m_ranges (m_nodes + 1) m_at m_flags m_fault m_place m_numbered m_depth m_value m_isNot m_least0 m_most0 m_slot m_work m_got m_rowMany m_charAt m_charWide m_trail m_isMatch m_matchGroups m_allFrom m_allBefore m_founds m_pieces m_writtenMany m_templateWide m_tooMuch) f_MO_72 d_MO_repeat_87 h80.2.2 rfl ?_
  refine ab_iload d_MO_repeat_90 rfl ?_
  refine zz_zald d_MO_repeat_92 h101 (by omega) ?_
  have hq12 := jlz (QL m_depth) (by omega) (by omega)
  refine zz_zast d_MO_repeat_93 h101 (by omega) (by omega) (h101.2.1 (by decide)) ?_
  obtain ⟨G13, eG13⟩ : ∃ z : ab_G, z = List.set G11 101 (zb 4200 (zu LZ m_nodes (LZ (QL m_depth)))) := ⟨_, rfl⟩
  have h80 := h80.keep h101 eG13 (by decide)
  have h94 := h94.keep h101 eG13 (by decide)
  have h95 := h95.keep h101 eG13 (by decide)
  have h96 := h96.keep h101 eG13 (by decide)
  have h97 := h97.keep h101 eG13 (by decide)
  have h98 := h98.keep h101 eG13 (by decide)
  have h99 := h99.keep h101 eG13 (by decide)
  have h100 := h100.keep h101 eG13 (by decide)
  have h90 := h90.keep h101 eG13 (by decide)
  have h89 := h89.keep h101 eG13 (by decide)
  have h105 := h105.keep h101 eG13 (by decide)
  have h106 := h106.keep h101 eG13 (by decide)
  have h107 := h107.keep h101 eG13 (by decide)
  have h108 := h108.keep h101 eG13 (by decide)
  have h109 := h109.keep h101 eG13 (by decide)
  have h102 := h102.keep h101 eG13 (by decide)
  have h103 := h103.keep h101 eG13 (by decide)
  have h104 := h104.keep h101 eG13 (by decide)
  have hlen := (z_len eG13).trans hlen
  have hsl := (z_sl h101 eG13 rfl).trans hsl
  have hfr := hfr.wr h101 eG13 (by decide)
  have h101 := h101.kept eG13
  change ab_W _ _ _ (List.set G11 101 (zb 4200 (zu LZ m_nodes (LZ (QL m_depth))))) 94 [some (vR 80), some (vz le), some (vz mo), some (vz lz), some (vz (QL m_depth)), some (vz m_nodes), none, none] [] _
  rw [← eG13]
  refine ab_aload_n d_MO_repeat_94 rfl ?_
  refine ab_getf (fs := mof m_thrown m_taped m_length m_out m_wide m_gathered m_sets m_ranges (m_nodes + 1) m_at m_flags m_fault m_place m_numbered m_depth m_value m_isNot m_least0 m_most0 m_slot m_work m_got m_rowMany m_charAt m_charWide m_trail m_isMatch m_matchGroups m_allFrom m_allBefore m_founds m_pieces m_writtenMany m_templateWide m_tooMuch) f_MO_68 d_MO_repeat_95 h80.2.2 rfl ?_
  refine ab_iload d_MO_repeat_98 rfl ?_
  refine zz_lald d_MO_repeat_100 h100 (by omega) ?_
  refine zz_topj (zu_ne (by omega)) ?_
  have hq14 := jz (QL m_depth) (by omega) (by omega)
  refine ab_lstore d_MO_repeat_101 (Nat.le_of_ble_eq_true rfl) (Nat.le_of_ble_eq_true rfl) rfl ?_
  change ab_W _ _ _ G13 103 [some (vR 80), some (vz le), some (vz mo), some (vz lz), some (vz (QL m_depth)), some (vz m_nodes), some (vj (Z (QL m_depth))), none] [] _
  refine ab_aload_n d_MO_repeat_103 rfl ?_
  refine ab_getf (fs := mof m_thrown m_taped m_length m_out m_wide m_gathered m_sets m_ranges (m_nodes + 1) m_at m_flags m_fault m_place m_numbered m_depth m_value m_isNot m_least0 m_most0 m_slot m_work m_got m_rowMany m_charAt m_charWide m_trail m_isMatch m_matchGroups m_allFrom m_allBefore m_founds m_pieces m_writtenMany m_templateWide m_tooMuch) f_MO_50 d_MO_repeat_104 h80.2.2 rfl ?_
  refine ab_iload d_MO_repeat_107 rfl ?_
  refine zz_bipush d_MO_repeat_109 (by decide) ?_
  refine zz_iast d_MO_repeat_111 h94 (by omega) (h94.2.1 (by decide)) ?_
  obtain ⟨G15, eG15⟩ : ∃ z : ab_G, z = List.set G13 94 (za 4200 (zu (zu K m_nodes (K (QL m_depth))) (QL m_depth) 7)) := ⟨_, rfl⟩
  have h80 := h80.keep h94 eG15 (by decide)
  have h95 := h95.keep h94 eG15 (by decide)
  have h96 := h96.keep h94 eG15 (by decide)
  have h97 := h97.keep h94 eG15 (by decide)
  have h98 := h98.keep h94 eG15 (by decide)
  have h99 := h99.keep h94 eG15 (by decide)
  have h100 := h100.keep h94 eG15 (by decide)
  have h101 := h101.keep h94 eG15 (by decide)
  have h90 := h90.keep h94 eG15 (by decide)
  have h89 := h89.keep h94 eG15 (by decide)
  have h105 := h105.keep h94 eG15 (by decide)
  have h106 := h106.keep h94 eG15 (by decide)
  have h107 := h107.keep h94 eG15 (by decide)
  have h108 := h108.keep h94 eG15 (by decide)
  have h109 := h109.keep h94 eG15 (by decide)
  have h102 := h102.keep h94 eG15 (by decide)
  have h103 := h103.keep h94 eG15 (by decide)
  have h104 := h104.keep h94 eG15 (by decide)
  have hlen := (z_len eG15).trans hlen
  have hsl := (z_sl h94 eG15 rfl).trans hsl
  have hfr := hfr.wr h94 eG15 (by decide)
  have h94 := h94.kept eG15
  change ab_W _ _ _ (List.set G13 94 (za 4200 (zu (zu K m_nodes (K (QL m_depth))) (QL m_depth) 7))) 112 [some (vR 80), some (vz le), some (vz mo), some (vz lz), some (vz (QL m_depth)), some (vz m_nodes), some (vj (Z (QL m_depth))), none] [] _
  rw [← eG15]
  refine ab_aload_n d_MO_repeat_112 rfl ?_
  refine ab_getf (fs := mof m_thrown m_taped m_length m_out m_wide m_gathered m_sets m_ranges (m_nodes + 1) m_at m_flags m_fault m_place m_numbered m_depth m_value m_isNot m_least0 m_most0 m_slot m_work m_got m_rowMany m_charAt m_charWide m_trail m_isMatch m_matchGroups m_allFrom m_allBefore m_founds m_pieces m_writtenMany m_templateWide m_tooMuch) f_MO_56 d_MO_repeat_113 h80.2.2 rfl ?_
  refine ab_iload d_MO_repeat_116 rfl ?_
  refine ab_iload d_MO_repeat_118 rfl ?_
  refine zz_iast d_MO_repeat_120 h96 (by omega) (h96.2.1 (by decide)) ?_
  obtain ⟨G16, eG16⟩ : ∃ z : ab_G, z = List.set G15 96 (za 4200 (zu (zu (zu Fi m_nodes (-1)) m_nodes (Fi (QL m_depth))) (QL m_depth) m_nodes)) := ⟨_, rfl⟩
  have h80 := h80.keep h96 eG16 (by decide)
  have h94 := h94.keep h96 eG16 (by decide)
  have h95 := h95.keep h96 eG16 (by decide)
  have h97 := h97.keep h96 eG16 (by decide)
  have h98 := h98.keep h96 eG16 (by decide)
  have h99 := h99.keep h96 eG16 (by decide)
  have h100 := h100.keep h96 eG16 (by decide)
  have h101 := h101.keep h96 eG16 (by decide)
  have h90 := h90.keep h96 eG16 (by decide)
  have h89 := h89.keep h96 eG16 (by decide)
  have h105 := h105.keep h96 eG16 (by decide)
  have h106 := h106.keep h96 eG16 (by decide)
  have h107 := h107.keep h96 eG16 (by decide)
  have h108 := h108.keep h96 eG16 (by decide)
  have h109 := h109.keep h96 eG16 (by decide)
  have h102 := h102.keep h96 eG16 (by decide)
  have h103 := h103.keep h96 eG16 (by decide)
  have h104 := h104.keep h96 eG16 (by decide)
  have hlen := (z_len eG16).trans hlen
  have hsl := (z_sl h96 eG16 rfl).trans hsl
  have hfr := hfr.wr h96 eG16 (by decide)
  have h96 := h96.kept eG16
  change ab_W _ _ _ (List.set G15 96 (za 4200 (zu (zu (zu Fi m_nodes (-1)) m_nodes (Fi (QL m_depth))) (QL m_depth) m_nodes))) 121 [some (vR 80), some (vz le), some (vz mo), some (vz lz), some (vz (QL m_depth)), some (vz m_nodes), some (vj (Z (QL m_depth))), none] [] _
  rw [← eG16]
  refine ab_aload_n d_MO_repeat_121 rfl ?_
  refine ab_getf (fs := mof m_thrown m_taped m_length m_out m_wide m_gathered m_sets m_ranges (m_nodes + 1) m_at m_flags m_fault m_place m_numbered m_depth m_value m_isNot m_least0 m_most0 m_slot m_work m_got m_rowMany m_charAt m_charWide m_trail m_isMatch m_matchGroups m_allFrom m_allBefore m_founds m_pieces m_writtenMany m_templateWide m_tooMuch) f_MO_68 d_MO_repeat_122 h80.2.2 rfl ?_
  refine ab_iload d_MO_repeat_125 rfl ?_
  refine ab_iload_n d_MO_repeat_127 rfl ?_
  refine zz_if_ge (tgt := 155) d_MO_repeat_128 (by decide) (by omega) (fun c17 => ?_) (fun c17 => ?_)
  · refine ab_iload_n d_MO_repeat_155 rfl ?_
    refine zz_i2l d_MO_repeat_156 (by omega) ?_
    refine ab_lload d_MO_repeat_157 rfl ?_
    refine zz_lmul d_MO_repeat_159 ?_
    obtain ⟨v18, hv18⟩ : ∃ z : Int, z = mo * (Z (QL m_depth)) := ⟨_, rfl⟩
    rw [← hv18]
    have hv18b := z_mulb (a := mo) (b := (Z (QL m_depth))) (A := 100) (B := 1000000000000) (by omega) (by omega)
    rw [← hv18] at hv18b
    change ab_W _ _ _ G16 160 [some (vR 80), some (vz le), some (vz mo), some (vz lz), some (vz (QL m_depth)), some (vz m_nodes), some (vj (Z (QL m_depth))), none] [vj v18, vz (QL m_depth), vR 100] _
    refine ab_iload_n d_MO_repeat_160 rfl ?_
    refine zz_i2l d_MO_repeat_161 (by omega) ?_
    refine zz_ladd d_MO_repeat_162 ?_
    refine ab_iload_n d_MO_repeat_163 rfl ?_
    refine zz_i2l d_MO_repeat_164 (by omega) ?_
    refine zz_lsub d_MO_repeat_165 ?_
    refine ab_callS (d' := d - 1) (as := [vj ((v18 + mo) - le)]) (st := [vz (QL m_depth), vR 100]) (z_MO_atMost (o := o) (x := ((v18 + mo) - le)) (by omega)) (fun oc G2 h => by rcases h with ⟨h, _⟩ | ⟨h, _⟩ <;> exact ⟨_, h⟩) (by omega) m_MO_atMost ml_MO_288 st_MO_atMost (Nat.le_of_ble_eq_true rfl) d_MO_repeat_166 rfl ?_
    intro v G19 hq
    rcases hq with ⟨hv, hGe, hq20⟩ | ⟨hv, hGe, hq21⟩
    · cases hv
      rw [hGe]
      change ab_W _ _ _ G16 169 [some (vR 80), some (vz le), some (vz mo), some (vz lz), some (vz (QL m_depth)), some (vz m_nodes), some (vj (Z (QL m_depth))), none] [vj ((v18 + mo) - le), vz (QL m_depth), vR 100] _
      refine zz_last d_MO_repeat_169 h100 (by omega) (h100.2.1 (by decide)) ?_
      obtain ⟨G22, eG22⟩ : ∃ z : ab_G, z = List.set G16 100 (zl 4200 (zu (zu Z m_nodes (Z (QL m_depth))) (QL m_depth) ((v18 + mo) - le))) := ⟨_, rfl⟩
      have h80 := h80.keep h100 eG22 (by decide)
      have h94 := h94.keep h100 eG22 (by decide)
      have h95 := h95.keep h100 eG22 (by decide)
      have h96 := h96.keep h100 eG22 (by decide)
      have h97 := h97.keep h100 eG22 (by decide)
      have h98 := h98.keep h100 eG22 (by decide)
      have h99 := h99.keep h100 eG22 (by decide)
      have h101 := h101.keep h100 eG22 (by decide)
      have h90 := h90.keep h100 eG22 (by decide)
      have h89 := h89.keep h100 eG22 (by decide)
      have h105 := h105.keep h100 eG22 (by decide)
      have h106 := h106.keep h100 eG22 (by decide)
      have h107 := h107.keep h100 eG22 (by decide)
      have h108 := h108.keep h100 eG22 (by decide)
      have h109 := h109.keep h100 eG22 (by decide)
      have h102 := h102.keep h100 eG22 (by decide)
      have h103 := h103.keep h100 eG22 (by decide)
      have h104 := h104.keep h100 eG22 (by decide)
      have hlen := (z_len eG22).trans hlen
      have hsl := (z_sl h100 eG22 rfl).trans hsl
      have hfr := hfr.wr h100 eG22 (by decide)
      have h100 := h100.kept eG22
      change ab_W _ _ _ (List.set G16 100 (zl 4200 (zu (zu Z m_nodes (Z (QL m_depth))) (QL m_depth) ((v18 + mo) - le)))) 170 [some (vR 80), some (vz le), some (vz mo), some (vz lz), some (vz (QL m_depth)), some (vz m_nodes), some (vj (Z (QL m_depth))), none] [] _
      rw [← eG22]
      refine ab_aload_n d_MO_repeat_170 rfl ?_
      refine ab_getf (fs := mof m_thrown m_taped m_length m_out m_wide m_gathered m_sets m_ranges (m_nodes + 1) m_at m_flags m_fault m_place m_numbered m_depth m_value m_isNot m_least0 m_most0 m_slot m_work m_got m_rowMany m_charAt m_charWide m_trail m_isMatch m_matchGroups m_allFrom m_allBefore m_founds m_pieces m_writtenMany m_templateWide m_tooMuch) f_MO_62 d_MO_repeat_171 h80.2.2 rfl ?_
      refine ab_iload d_MO_repeat_174 rfl ?_
      refine ab_iload_n d_MO_repeat_176 rfl ?_
      refine zz_iast d_MO_repeat_177 h98 (by omega) (h98.2.1 (by decide)) ?_
      obtain ⟨G23, eG23⟩ : ∃ z : ab_G, z = List.set G22 98 (za 4200 (zu (zu Le m_nodes (Le (QL m_depth))) (QL m_depth) le)) := ⟨_, rfl⟩
      have h80 := h80.keep h98 eG23 (by decide)
      have h94 := h94.keep h98 eG23 (by decide)
      have h95 := h95.keep h98 eG23 (by decide)
      have h96 := h96.keep h98 eG23 (by decide)
      have h97 := h97.keep h98 eG23 (by decide)
      have h99 := h99.keep h98 eG23 (by decide)
      have h100 := h100.keep h98 eG23 (by decide)
      have h101 := h101.keep h98 eG23 (by decide)
      have h90 := h90.keep h98 eG23 (by decide)
      have h89 := h89.keep h98 eG23 (by decide)
      have h105 := h105.keep h98 eG23 (by decide)
      have h106 := h106.keep h98 eG23 (by decide)
      have h107 := h107.keep h98 eG23 (by decide)
      have h108 := h108.keep h98 eG23 (by decide)
      have h109 := h109.keep h98 eG23 (by decide)
      have h102 := h102.keep h98 eG23 (by decide)
      have h103 := h103.keep h98 eG23 (by decide)
      have h104 := h104.keep h98 eG23 (by decide)
      have hlen := (z_len eG23).trans hlen
      have hsl := (z_sl h98 eG23 rfl).trans hsl
      have hfr := hfr.wr h98 eG23 (by decide)
      have h98 := h98.kept eG23
      change ab_W _ _ _ (List.set G22 98 (za 4200 (zu (zu Le m_nodes (Le (QL m_depth))) (QL m_depth) le))) 178 [some (vR 80), some (vz le), some (vz mo), some (vz lz), some (vz (QL m_depth)), some (vz m_nodes), some (vj (Z (QL m_depth))), none] [] _
      rw [← eG23]
      refine ab_aload_n d_MO_repeat_178 rfl ?_
      refine ab_getf (fs := mof m_thrown m_taped m_length m_out m_wide m_gathered m_sets m_ranges (m_nodes + 1) m_at m_flags m_fault m_place m_numbered m_depth m_value m_isNot m_least0 m_most0 m_slot m_work m_got m_rowMany m_charAt m_charWide m_trail m_isMatch m_matchGroups m_allFrom m_allBefore m_founds m_pieces m_writtenMany m_templateWide m_tooMuch) f_MO_65 d_MO_repeat_179 h80.2.2 rfl ?_
      refine ab_iload d_MO_repeat_182 rfl ?_
      refine ab_iload_n d_MO_repeat_184 rfl ?_
      refine zz_iast d_MO_repeat_185 h99 (by omega) (h99.2.1 (by decide)) ?_
      obtain ⟨G24, eG24⟩ : ∃ z : ab_G, z = List.set G23 99 (za 4200 (zu (zu Mo m_nodes (Mo (QL m_depth))) (QL m_depth) mo)) := ⟨_, rfl⟩
      have h80 := h80.keep h99 eG24 (by decide)
      have h94 := h94.keep h99 eG24 (by decide)
      have h95 := h95.keep h99 eG24 (by decide)
      have h96 := h96.keep h99 eG24 (by decide)
      have h97 := h97.keep h99 eG24 (by decide)
      have h98 := h98.keep h99 eG24 (by decide)
      have h100 := h100.keep h99 eG24 (by decide)
      have h101 := h101.keep h99 eG24 (by decide)
      have h90 := h90.keep h99 eG24 (by decide)
      have h89 := h89.keep h99 eG24 (by decide)
      have h105 := h105.keep h99 eG24 (by decide)
      have h106 := h106.keep h99 eG24 (by decide)
      have h107 := h107.keep h99 eG24 (by decide)
      have h108 := h108.keep h99 eG24 (by decide)
      have h109 := h109.keep h99 eG24 (by decide)
      have h102 := h102.keep h99 eG24 (by decide)
      have h103 := h103.keep h99 eG24 (by decide)
      have h104 := h104.keep h99 eG24 (by decide)
      have hlen := (z_len eG24).trans hlen
      have hsl := (z_sl h99 eG24 rfl).trans hsl
      have hfr := hfr.wr h99 eG24 (by decide)
      have h99 := h99.kept eG24
      change ab_W _ _ _ (List.set G23 99 (za 4200 (zu (zu Mo m_nodes (Mo (QL m_depth))) (QL m_depth) mo))) 186 [some (vR 80), some (vz le), some (vz mo), some (vz lz), some (vz (QL m_depth)), some (vz m_nodes), some (vj (Z (QL m_depth))), none] [] _
      rw [← eG24]
      refine ab_aload_n d_MO_repeat_186 rfl ?_
      refine ab_getf (fs := mof m_thrown m_taped m_length m_out m_wide m_gathered m_sets m_ranges (m_nodes + 1) m_at m_flags m_fault m_place m_numbered m_depth m_value m_isNot m_least0 m_most0 m_slot m_work m_got m_rowMany m_charAt m_charWide m_trail m_isMatch m_matchGroups m_allFrom m_allBefore m_founds m_pieces m_writtenMany m_templateWide m_tooMuch) f_MO_72 d_MO_repeat_187 h80.2.2 rfl ?_
      refine ab_iload d_MO_repeat_190 rfl ?_
      refine ab_iload_n d_MO_repeat_192 rfl ?_
      refine zz_zast d_MO_repeat_193 h101 (by omega) (by omega) (h101.2.1 (by decide)) ?_
      obtain ⟨G25, eG25⟩ : ∃ z : ab_G, z = List.set G24 101 (zb 4200 (zu (zu LZ m_nodes (LZ (QL m_depth))) (QL m_depth) lz)) := ⟨_, rfl⟩
      have h80 := h80.keep h101 eG25 (by decide)
      have h94 := h94.keep h101 eG25 (by decide)
      have h95 := h95.keep h101 eG25 (by decide)
      have h96 := h96.keep h101 eG25 (by decide)
      have h97 := h97.keep h101 eG25 (by decide)
      have h98 := h98.keep h101 eG25 (by decide)
      have h99 := h99.keep h101 eG25 (by decide)
      have h100 := h100.keep h101 eG25 (by decide)
      have h90 := h90.keep h101 eG25 (by decide)
      have h89 := h89.keep h101 eG25 (by decide)
      have h105 := h105.keep h101 eG25 (by decide)
      have h106 := h106.keep h101 eG25 (by decide)
      have h107 := h107.keep h101 eG25 (by decide)
      have h108 := h108.keep h101 eG25 (by decide)
      have h109 := h109.keep h101 eG25 (by decide)
      have h102 := h102.keep h101 eG25 (by decide)
      have h103 := h103.keep h101 eG25 (by decide)
      have h104 := h104.keep h101 eG25 (by decide)
      have hlen := (z_len eG25).trans hlen
      have hsl := (z_sl h101 eG25 rfl).trans hsl
      have hfr := hfr.wr h101 eG25 (by decide)
      have h101 := h101.kept eG25
      change ab_W _ _ _ (List.set G24 101 (zb 4200 (zu (zu LZ m_nodes (LZ (QL m_depth))) (QL m_depth) lz))) 194 [some (vR 80), some (vz le), some (vz mo), some (vz lz), some (vz (QL m_depth)), some (vz m_nodes), some (vj (Z (QL m_depth))), none] [] _
      rw [← eG25]
      refine ab_aload_n d_MO_repeat_194 rfl ?_
      refine ab_getf (fs := mof m_thrown m_taped m_length m_out m_wide m_gathered m_sets m_ranges (m_nodes + 1) m_at m_flags m_fault m_place m_numbered m_depth m_value m_isNot m_least0 m_most0 m_slot m_work m_got m_rowMany m_charAt m_charWide m_trail m_isMatch m_matchGroups m_allFrom m_allBefore m_founds m_pieces m_writtenMany m_templateWide m_tooMuch) f_MO_100 d_MO_repeat_195 h80.2.2 rfl ?_
      refine ab_aload_n d_MO_repeat_198 rfl ?_
      refine ab_getf (fs := mof m_thrown m_taped m_length m_out m_wide m_gathered m_sets m_ranges (m_nodes + 1) m_at m_flags m_fault m_place m_numbered m_depth m_value m_isNot m_least0 m_most0 m_slot m_work m_got m_rowMany m_charAt m_charWide m_trail m_isMatch m_matchGroups m_allFrom m_allBefore m_founds m_pieces m_writtenMany m_templateWide m_tooMuch) f_MO_282 d_MO_repeat_199 h80.2.2 rfl ?_
      refine zz_iconst d_MO_repeat_202 ?_
      refine zz_iast d_MO_repeat_203 h109 (by omega) (h109.2.1 (by decide)) ?_
      obtain ⟨G26, eG26⟩ : ∃ z : ab_G, z = List.set G25 109 (za 32 (zu SD m_depth 2)) := ⟨_, rfl⟩
      have h80 := h80.keep h109 eG26 (by decide)
      have h94 := h94.keep h109 eG26 (by decide)
      have h95 := h95.keep h109 eG26 (by decide)
      have h96 := h96.keep h109 eG26 (by decide)
      have h97 := h97.keep h109 eG26 (by decide)
      have h98 := h98.keep h109 eG26 (by decide)
      have h99 := h99.keep h109 eG26 (by decide)
      have h100 := h100.keep h109 eG26 (by decide)
      have h101 := h101.keep h109 eG26 (by decide)
      have h90 := h90.keep h109 eG26 (by decide)
      have h89 := h89.keep h109 eG26 (by decide)
      have h105 := h105.keep h109 eG26 (by decide)
      have h106 := h106.keep h109 eG26 (by decide)
      have h107 := h107.keep h109 eG26 (by decide)
      have h108 := h108.keep h109 eG26 (by decide)
      have h102 := h102.keep h109 eG26 (by decide)
      have h103 := h103.keep h109 eG26 (by decide)
      have h104 := h104.keep h109 eG26 (by decide)
      have hlen := (z_len eG26).trans hlen
      have hsl := (z_sl h109 eG26 rfl).trans hsl
      have hfr := hfr.wr h109 eG26 (by decide)
      have h109 := h109.kept eG26
      change ab_W _ _ _ (List.set G25 109 (za 32 (zu SD m_depth 2))) 204 [some (vR 80), some (vz le), some (vz mo), some (vz lz), some (vz (QL m_depth)), some (vz m_nodes), some (vj (Z (QL m_depth))), none] [] _
      rw [← eG26]
      have ptrI_0 : trI o G26 0 (m_nodes + 1) m_sets (m_depth + 1) (-1) 0 0 ((a1_, b1_, c1_, d1_, (e1_ - ls + (tms le mo9 * ls + mre le mo9))) :: t1_) 0 0 0 SV ((ao1_, (mnC ro (mnR le mo9 lz vv))) :: ts1_) mnI mnI mnI RL RH m_ranges 0 0 := ⟨(zu (zu K m_nodes (K (QL m_depth))) (QL m_depth) 7), (zu O m_nodes (O (QL m_depth))), (zu (zu (zu Fi m_nodes (-1)) m_nodes (Fi (QL m_depth))) (QL m_depth) m_nodes), (zu Be m_nodes (-1)), (zu (zu Le m_nodes (Le (QL m_depth))) (QL m_depth) le), (zu (zu Mo m_nodes (Mo (QL m_depth))) (QL m_depth) mo), (zu (zu Z m_nodes (Z (QL m_depth))) (QL m_depth) ((v18 + mo) - le)), (zu (zu LZ m_nodes (LZ (QL m_depth))) (QL m_depth) lz), SM, SA, QF, QL, AF, AL, (zu SD m_depth 2), OA, OF, ON, h94, h95, h96, h97, h98, h99, h100, h101, h90, h89, h105, h106, h107, h108, h109, h102, h103, h104, (rgs_zu (rgs_zu jk (by omega)) (by omega)), (rgs_zu jo (by omega)), (rgs_zu (rgs_zu (rgs_zu jfi (by omega)) (by omega)) (by omega)), (rgs_zu jbe (by omega)), (rgs_zu (rgs_zu jle (by omega)) (by omega)), (rgs_zu (rgs_zu jmo (by omega)) (by omega)), (rgs_zu (rgs_zu jz (by omega)) (by omega)), (rgs_zu (rgs_zu jlz (by omega)) (by omega)), jsm, jsa, jqf, jql, jaf, jal, (rgs_zu jsd (by omega)), joa, jof, jon, (by rw [zu_zu]; exact rtk_rep jt (by omega) rfl hrs_ (by omega) (by omega) (by omega) (by omega) (fun h => absurd h (by omega)) (fun _ => by rw [← hv18]; omega) (rep_wf (v := v18) (by omega) (by omega) jls_.1 jls_.2 (by omega) hv18 (by omega)) (by unfold moE; split <;> omega)), (by omega), (fun h => absurd h (by decide)), (fun h => absurd h (by decide)), (fun h => absurd h (by decide)), (fun h => absurd h (by decide)), (fun h => absurd h (by decide)), (fun h => absurd h (by decide)), jss, jsv⟩
      refine ab_vret rfl d_MO_repeat_204 ?_
      rw [hQ]; exact ⟨rfl, hfr, hlen, hsl, h80, ptrI_0⟩
    · cases hv
      rw [hGe]
      change ab_W _ _ _ G16 169 [some (vR 80), some (vz le), some (vz mo), some (vz lz), some (vz (QL m_depth)), some (vz m_nodes), some (vj (Z (QL m_depth))), none] [vj 1000000000000, vz (QL m_depth), vR 100] _
      refine zz_last d_MO_repeat_169 h100 (by omega) (h100.2.1 (by decide)) ?_
      obtain ⟨G27, eG27⟩ : ∃ z : ab_G, z = List.set G16 100 (zl 4200 (zu (zu Z m_nodes (Z (QL m_depth))) (QL m_depth) 1000000000000)) := ⟨_, rfl⟩
      have h80 := h80.keep h100 eG27 (by decide)
      have h94 := h94.keep h100 eG27 (by decide)
      have h95 := h95.keep h100 eG27 (by decide)
      have h96 := h96.keep h100 eG27 (by decide)
      have h97 := h97.keep h100 eG27 (by decide)
      have h98 := h98.keep h100 eG27 (by decide)
      have h99 := h99.keep h100 eG27 (by decide)
      have h101 := h101.keep h100 eG27 (by decide)
      have h90 := h90.keep h100 eG27 (by decide)
      have h89 := h89.keep h100 eG27 (by decide)
      have h105 := h105.keep h100 eG27 (by decide)
      have h106 := h106.keep h100 eG27 (by decide)
      have h107 := h107.keep h100 eG27 (by decide)
      have h108 := h108.keep h100 eG27 (by decide)
      have h109 := h109.keep h100 eG27 (by decide)
      have h102 := h102.keep h100 eG27 (by decide)
      have h103 := h103.keep h100 eG27 (by decide)
      have h104 := h104.keep h100 eG27 (by decide)
      have hlen := (z_len eG27).trans hlen
      have hsl := (z_sl h100 eG27 rfl).trans hsl
      have hfr := hfr.wr h100 eG27 (by decide)
      have h100 := h100.kept eG27
      change ab_W _ _ _ (List.set G16 100 (zl 4200 (zu (zu Z m_nodes (Z (QL m_depth))) (QL m_depth) 1000000000000))) 170 [some (vR 80), some (vz le), some (vz mo), some (vz lz), some (vz (QL m_depth)), some (vz m_nodes), some (vj (Z (QL m_depth))), none] [] _
      rw [← eG27]
      refine ab_aload_n d_MO_repeat_170 rfl ?_
      refine ab_getf (fs := mof m_thrown m_taped m_length m_out m_wide m_gathered m_sets m_ranges (m_nodes + 1) m_at m_flags m_fault m_place m_numbered m_depth m_value m_isNot m_least0 m_most0 m_slot m_work m_got m_rowMany m_charAt m_charWide m_trail m_isMatch m_matchGroups m_allFrom m_allBefore m_founds m_pieces m_writtenMany m_templateWide m_tooMuch) f_MO_62 d_MO_repeat_171 h80.2.2 rfl ?_
      refine ab_iload d_MO_repeat_174 rfl ?_
      refine ab_iload_n d_MO_repeat_176 rfl ?_
      refine zz_iast d_MO_repeat_177 h98 (by omega) (h98.2.1 (by decide)) ?_
      obtain ⟨G28, eG28⟩ : ∃ z : ab_G, z = List.set G27 98 (za 4200 (zu (zu Le m_nodes (Le (QL m_depth))) (QL m_depth) le)) := ⟨_, rfl⟩
      have h80 := h80.keep h98 eG28 (by decide)
      have h94 := h94.keep h98 eG28 (by decide)
      have h95 := h95.keep h98 eG28 (by decide)
      have h96 := h96.keep h98 eG28 (by decide)
      have h97 := h97.keep h98 eG28 (by decide)
      have h99 := h99.keep h98 eG28 (by decide)
      have h100 := h100.keep h98 eG28 (by decide)
      have h101 := h101.keep h98 eG28 (by decide)
      have h90 := h90.keep h98 eG28 (by decide)
      have h89 := h89.keep h98 eG28 (by decide)
      have h105 := h105.keep h98 eG28 (by decide)
      have h106 := h106.keep h98 eG28 (by decide)
      have h107 := h107.keep h98 eG28 (by decide)
      have h108 := h108.keep h98 eG28 (by decide)
      have h109 := h109.keep h98 eG28 (by decide)
      have h102 := h102.keep h98 eG28 (by decide)
      have h103 := h103.keep h98 eG28 (by decide)
      have h104 := h104.keep h98 eG28 (by decide)
      have hlen := (z_len eG28).trans hlen
      have hsl := (z_sl h98 eG28 rfl).trans hsl
      have hfr := hfr.wr h98 eG28 (by decide)
      have h98 := h98.kept eG28
      change ab_W _ _ _ (List.set G27 98 (za 4200 (zu (zu Le m_nodes (Le (QL m_depth))) (QL m_depth) le))) 178 [some (vR 80), some (vz le), some (vz mo), some (vz lz), some (vz (QL m_depth)), some (vz m_nodes), some (vj (Z (QL m_depth))), none] [] _
      rw [← eG28]
      refine ab_aload_n d_MO_repeat_178 rfl ?_
      refine ab_getf (fs := mof m_thrown m_taped m_length m_out m_wide m_gathered m_sets m_ranges (m_nodes + 1) m_at m_flags m_fault m_place m_numbered m_depth m_value m_isNot m_least0 m_most0 m_slot m_work m_got m_rowMany m_charAt m_charWide m_trail m_isMatch m_matchGroups m_allFrom m_allBefore m_founds m_pieces m_writtenMany m_templateWide m_tooMuch) f_MO_65 d_MO_repeat_179 h80.2.2 rfl ?_
      refine ab_iload d_MO_repeat_182 rfl ?_
      refine ab_iload_n d_MO_repeat_184 rfl ?_
      refine zz_iast d_MO_repeat_185 h99 (by omega) (h99.2.1 (by decide)) ?_
      obtain ⟨G29, eG29⟩ : ∃ z : ab_G, z = List.set G28 99 (za 4200 (zu (zu Mo m_nodes (Mo (QL m_depth))) (QL m_depth) mo)) := ⟨_, rfl⟩
      have h80 := h80.keep h99 eG29 (by decide)
      have h94 := h94.keep h99 eG29 (by decide)
      have h95 := h95.keep h99 eG29 (by decide)
      have h96 := h96.keep h99 eG29 (by decide)
      have h97 := h97.keep h99 eG29 (by decide)
      have h98 := h98.keep h99 eG29 (by decide)
      have h100 := h100.keep h99 eG29 (by decide)
      have h101 := h101.keep h99 eG29 (by decide)
      have h90 := h90.keep h99 eG29 (by decide)
      have h89 := h89.keep h99 eG29 (by decide)
      have h105 := h105.keep h99 eG29 (by decide)
      have h106 := h106.keep h99 eG29 (by decide)
      have h107 := h107.keep h99 eG29 (by decide)
      have h108 := h108.keep h99 eG29 (by decide)
      have h109 := h109.keep h99 eG29 (by decide)
      have h102 := h102.keep h99 eG29 (by decide)
      have h103 := h103.keep h99 eG29 (by decide)
      have h104 := h104.keep h99 eG29 (by decide)
      have hlen := (z_len eG29).trans hlen
      have hsl := (z_sl h99 eG29 rfl).trans hsl
      have hfr := hfr.wr h99 eG29 (by decide)
      have h99 := h99.kept eG29
      change ab_W _ _ _ (List.set G28 99 (za 4200 (zu (zu Mo m_nodes (Mo (QL m_depth))) (QL m_depth) mo))) 186 [some (vR 80), some (vz le), some (vz mo), some (vz lz), some (vz (QL m_depth)), some (vz m_nodes), some (vj (Z (QL m_depth))), none] [] _
      rw [← eG29]
      refine ab_aload_n d_MO_repeat_186 rfl ?_
      refine ab_getf (fs := mof m_thrown m_taped m_length m_out m_wide m_gathered m_sets m_ranges (m_nodes + 1) m_at m_flags m_fault m_place m_numbered m_depth m_value m_isNot m_least0 m_most0 m_slot m_work m_got m_rowMany m_charAt m_charWide m_trail m_isMatch m_matchGroups m_allFrom m_allBefore m_founds m_pieces m_writtenMany m_templateWide m_tooMuch) f_MO_72 d_MO_repeat_187 h80.2.2 rfl ?_
      refine ab_iload d_MO_repeat_190 rfl ?_
      refine ab_iload_n d_MO_repeat_192 rfl ?_
      refine zz_zast d_MO_repeat_193 h101 (by omega) (by omega) (h101.2.1 (by decide)) ?_
      obtain ⟨G30, eG30⟩ : ∃ z : ab_G, z = List.set G29 101 (zb 4200 (zu (zu LZ m_nodes (LZ (QL m_depth))) (QL m_depth) lz)) := ⟨_, rfl⟩
      have h80 := h80.keep h101 eG30 (by decide)
      have h94 := h94.keep h101 eG30 (by decide)
      have h95 := h95.keep h101 eG30 (by decide)
      have h96 := h96.keep h101 eG30 (by decide)
      have h97 := h97.keep h101 eG30 (by decide)
      have h98 := h98.keep h101 eG30 (by decide)
      have h99 := h99.keep h101 eG30 (by decide)
      have h100 := h100.keep h101 eG30 (by decide)
      have h90 := h90.keep h101 eG30 (by decide)
      have h89 := h89.keep h101 eG30 (by decide)
      have h105 := h105.keep h101 eG30 (by decide)
      have h106 := h106.keep h101 eG30 (by decide)
      have h107 := h107.keep h101 eG30 (by decide)
      have h108 := h108.keep h101 eG30 (by decide)
      have h109 := h109.keep h101 eG30 (by decide)
      have h102 := h102.keep h101 eG30 (by decide)
      have h103 := h103.keep h101 eG30 (by decide)
      have h104 := h104.keep h101 eG30 (by decide)
      have hlen := (z_len eG30).trans hlen
      have hsl := (z_sl h101 eG30 rfl).trans hsl
      have hfr := hfr.wr h101 eG30 (by decide)
      have h101 := h101.kept eG30
      change ab_W _ _ _ (List.set G29 101 (zb 4200 (zu (zu LZ m_nodes (LZ (QL m_depth))) (QL m_depth) lz))) 194 [some (vR 80), some (vz le), some (vz mo), some (vz lz), some (vz (QL m_depth)), some (vz m_nodes), some (vj (Z (QL m_depth))), none] [] _
      rw [← eG30]
      refine ab_aload_n d_MO_repeat_194 rfl ?_
      refine ab_getf (fs := mof m_thrown m_taped m_length m_out m_wide m_gathered m_sets m_ranges (m_nodes + 1) m_at m_flags m_fault m_place m_numbered m_depth m_value m_isNot m_least0 m_most0 m_slot m_work m_got m_rowMany m_charAt m_charWide m_trail m_isMatch m_matchGroups m_allFrom m_allBefore m_founds m_pieces m_writtenMany m_templateWide m_tooMuch) f_MO_100 d_MO_repeat_195 h80.2.2 rfl ?_
      refine ab_aload_n d_MO_repeat_198 rfl ?_
      refine ab_getf (fs := mof m_thrown m_taped m_length m_out m_wide m_gathered m_sets m_ranges (m_nodes + 1) m_at m_flags m_fault m_place m_numbered m_depth m_value m_isNot m_least0 m_most0 m_slot m_work m_got m_rowMany m_charAt m_charWide m_trail m_isMatch m_matchGroups m_allFrom m_allBefore m_founds m_pieces m_writtenMany m_templateWide m_tooMuch) f_MO_282 d_MO_repeat_199 h80.2.2 rfl ?_
      refine zz_iconst d_MO_repeat_202 ?_
      refine zz_iast d_MO_repeat_203 h109 (by omega) (h109.2.1 (by decide)) ?_
      obtain ⟨G31, eG31⟩ : ∃ z : ab_G, z = List.set G30 109 (za 32 (zu SD m_depth 2)) := ⟨_, rfl⟩
      have h80 := h80.keep h109 eG31 (by decide)
      have h94 := h94.keep h109 eG31 (by decide)
      have h95 := h95.keep h109 eG31 (by decide)
      have h96 := h96.keep h109 eG31 (by decide)
      have h97 := h97.keep h109 eG31 (by decide)
      have h98 := h98.keep h109 eG31 (by decide)
      have h99 := h99.keep h109 eG31 (by decide)
      have h100 := h100.keep h109 eG31 (by decide)
      have h101 := h101.keep h109 eG31 (by decide)
      have h90 := h90.keep h109 eG31 (by decide)
      have h89 := h89.keep h109 eG31 (by decide)
      have h105 := h105.keep h109 eG31 (by decide)
      have h106 := h106.keep h109 eG31 (by decide)
      have h107 := h107.keep h109 eG31 (by decide)
      have h108 := h108.keep h109 eG31 (by decide)
      have h102 := h102.keep h109 eG31 (by decide)
      have h103 := h103.keep h109 eG31 (by decide)
      have h104 := h104.keep h109 eG31 (by decide)
      have hlen := (z_len eG31).trans hlen
      have hsl := (z_sl h109 eG31 rfl).trans hsl
      have hfr := hfr.wr h109 eG31 (by decide)
      have h109 := h109.kept eG31
      change ab_W _ _ _ (List.set G30 109 (za 32 (zu SD m_depth 2))) 204 [some (vR 80), some (vz le), some (vz mo), some (vz lz), some (vz (QL m_depth)), some (vz m_nodes), some (vj (Z (QL m_depth))), none] [] _
      rw [← eG31]
      have ptrI_0 : trI o G31 0 (m_nodes + 1) m_sets (m_depth + 1) (-1) 0 0 ((a1_, b1_, c1_, d1_, (e1_ - ls + (tms le mo9 * ls + mre le mo9))) :: t1_) 0 0 0 SV ((ao1_, (mnC ro (mnR le mo9 lz vv))) :: ts1_) mnI mnI mnI RL RH m_ranges 0 0 := ⟨(zu (zu K m_nodes (K (QL m_depth))) (QL m_depth) 7), (zu O m_nodes (O (QL m_depth))), (zu (zu (zu Fi m_nodes (-1)) m_nodes (Fi (QL m_depth))) (QL m_depth) m_nodes), (zu Be m_nodes (-1)), (zu (zu Le m_nodes (Le (QL m_depth))) (QL m_depth) le), (zu (zu Mo m_nodes (Mo (QL m_depth))) (QL m_depth) mo), (zu (zu Z m_nodes (Z (QL m_depth))) (QL m_depth) 1000000000000), (zu (zu LZ m_nodes (LZ (QL m_depth))) (QL m_depth) lz), SM, SA, QF, QL, AF, AL, (zu SD m_depth 2), OA, OF, ON, h94, h95, h96, h97, h98, h99, h100, h101, h90, h89, h105, h106, h107, h108, h109, h102, h103, h104, (rgs_zu (rgs_zu jk (by omega)) (by omega)), (rgs_zu jo (by omega)), (rgs_zu (rgs_zu (rgs_zu jfi (by omega)) (by omega)) (by omega)), (rgs_zu jbe (by omega)), (rgs_zu (rgs_zu jle (by omega)) (by omega)), (rgs_zu (rgs_zu jmo (by omega)) (by omega)), (rgs_zu (rgs_zu jz (by omega)) (by omega)), (rgs_zu (rgs_zu jlz (by omega)) (by omega)), jsm, jsa, jqf, jql, jaf, jal, (rgs_zu jsd (by omega)), joa, jof, jon, (by rw [zu_zu]; exact rtk_rep jt (by omega) rfl hrs_ (by omega) (by omega) (by omega) (by omega) (fun h => absurd h (by omega)) (fun _ => by rw [← hv18]; omega) (rep_wf (v := v18) (by omega) (by omega) jls_.1 jls_.2 (by omega) hv18 (by omega)) (by unfold moE; split <;> omega)), (by omega), (fun h => absurd h (by decide)), (fun h => absurd h (by decide)), (fun h => absurd h (by decide)), (fun h => absurd h (by decide)), (fun h => absurd h (by decide)), (fun h => absurd h (by decide)), jss, jsv⟩
      refine ab_vret rfl d_MO_repeat_204 ?_
      rw [hQ]; exact ⟨rfl, hfr, hlen, hsl, h80, ptrI_0⟩
  · refine ab_iload_n d_MO_repeat_131 rfl ?_
    refine zz_if_ne (tgt := 142) d_MO_repeat_132 (by decide) (by omega) (fun c32 => ?_) (fun c32 => ?_)
    · refine ab_iload_n d_MO_repeat_142 rfl ?_
      refine zz_i2l d_MO_repeat_143 (by omega) ?_
      refine ab_lload d_MO_repeat_144 rfl ?_
      refine zz_lmul d_MO_repeat_146 ?_
      obtain ⟨v33, hv33⟩ : ∃ z : Int, z = le * (Z (QL m_depth)) := ⟨_, rfl⟩
      rw [← hv33]
      have hv33b := z_mulb (a := le) (b := (Z (QL m_depth))) (A := 100) (B := 1000000000000) (by omega) (by omega)
      rw [← hv33] at hv33b
      change ab_W _ _ _ G16 147 [some (vR 80), some (vz le), some (vz mo), some (vz lz), some (vz (QL m_depth)), some (vz m_nodes), some (vj (Z (QL m_depth))), none] [vj v33, vz (QL m_depth), vR 100] _
      refine ab_lload d_MO_repeat_147 rfl ?_
      refine zz_ladd d_MO_repeat_149 ?_
      refine zz_lconst d_MO_repeat_150 ?_
      change ab_W _ _ _ G16 151 [some (vR 80), some (vz le), some (vz mo), some (vz lz), some (vz (QL m_depth)), some (vz m_nodes), some (vj (Z (QL m_depth))), none] [vj 1, vj (v33 + (Z (QL m_depth))), vz (QL m_depth), vR 100] _
      refine zz_ladd d_MO_repeat_151 ?_
      refine ab_goto (tgt := 166) d_MO_repeat_152 (by decide) ?_
      refine ab_callS (d' := d - 1) (as := [vj ((v33 + (Z (QL m_depth))) + 1)]) (st := [vz (QL m_depth), vR 100]) (z_MO_atMost (o := o) (x := ((v33 + (Z (QL m_depth))) + 1)) (by omega)) (fun oc G2 h => by rcases h with ⟨h, _⟩ | ⟨h, _⟩ <;> exact ⟨_, h⟩) (by omega) m_MO_atMost ml_MO_288 st_MO_atMost (Nat.le_of_ble_eq_true rfl) d_MO_repeat_166 rfl ?_
      intro v G34 hq
      rcases hq with ⟨hv, hGe, hq35⟩ | ⟨hv, hGe, hq36⟩
      · cases hv
        rw [hGe]
        change ab_W _ _ _ G16 169 [some (vR 80), some (vz le), some (vz mo), some (vz lz), some (vz (QL m_depth)), some (vz m_nodes), some (vj (Z (QL m_depth))), none] [vj ((v33 + (Z (QL m_depth))) + 1), vz (QL m_depth), vR 100] _
        refine zz_last d_MO_repeat_169 h100 (by omega) (h100.2.1 (by decide)) ?_
        obtain ⟨G37, eG37⟩ : ∃ z : ab_G, z = List.set G16 100 (zl 4200 (zu (zu Z m_nodes (Z (QL m_depth))) (QL m_depth) ((v33 + (Z (QL m_depth))) + 1))) := ⟨_, rfl⟩
        have h80 := h80.keep h100 eG37 (by decide)
        have h94 := h94.keep h100 eG37 (by decide)
        have h95 := h95.keep h100 eG37 (by decide)
        have h96 := h96.keep h100 eG37 (by decide)
        have h97 := h97.keep h100 eG37 (by decide)
        have h98 := h98.keep h100 eG37 (by decide)
        have h99 := h99.keep h100 eG37 (by decide)
        have h101 := h101.keep h100 eG37 (by decide)
        have h90 := h90.keep h100 eG37 (by decide)
        have h89 := h89.keep h100 eG37 (by decide)
        have h105 := h105.keep h100 eG37 (by decide)
        have h106 := h106.keep h100 eG37 (by decide)
        have h107 := h107.keep h100 eG37 (by decide)
        have h108 := h108.keep h100 eG37 (by decide)
        have h109 := h109.keep h100 eG37 (by decide)
        have h102 := h102.keep h100 eG37 (by decide)
        have h103 := h103.keep h100 eG37 (by decide)
        have h104 := h104.keep h100 eG37 (by decide)
        have hlen := (z_len eG37).trans hlen
        have hsl := (z_sl h100 eG37 rfl).trans hsl
        have hfr := hfr.wr h100 eG37 (by decide)
        have h100 := h100.kept eG37
        change ab_W _ _ _ (List.set G16 100 (zl 4200 (zu (zu Z m_nodes (Z (QL m_depth))) (QL m_depth) ((v33 + (Z (QL m_depth))) + 1)))) 170 [some (vR 80), some (vz le), some (vz mo), some (vz lz), some (vz (QL m_depth)), some (vz m_nodes), some (vj (Z (QL m_depth))), none] [] _
        rw [← eG37]
        refine ab_aload_n d_MO_repeat_170 rfl ?_
        refine ab_getf (fs := mof m_thrown m_taped m_length m_out m_wide m_gathered m_sets m_ranges (m_nodes + 1) m_at m_flags m_fault m_place m_numbered m_depth m_value m_isNot m_least0 m_most0 m_slot m_work m_got m_rowMany m_charAt m_charWide m_trail m_isMatch m_matchGroups m_allFrom m_allBefore m_founds m_pieces m_writtenMany m_templateWide m_tooMuch) f_MO_62 d_MO_repeat_171 h80.2.2 rfl ?_
        refine ab_iload d_MO_repeat_174 rfl ?_
        refine ab_iload_n d_MO_repeat_176 rfl ?_
        refine zz_iast d_MO_repeat_177 h98 (by omega) (h98.2.1 (by decide)) ?_
        obtain ⟨G38, eG38⟩ : ∃ z : ab_G, z = List.set G37 98 (za 4200 (zu (zu Le m_nodes (Le (QL m_depth))) (QL m_depth) le)) := ⟨_, rfl⟩
        have h80 := h80.keep h98 eG38 (by decide)
        have h94 := h94.keep h98 eG38 (by decide)
        have h95 := h95.keep h98 eG38 (by decide)
        have h96 := h96.keep h98 eG38 (by decide)
        have h97 := h97.keep h98 eG38 (by decide)
        have h99 := h99.keep h98 eG38 (by decide)
        have h100 := h100.keep h98 eG38 (by decide)
        have h101 := h101.keep h98 eG38 (by decide)
        have h90 := h90.keep h98 eG38 (by decide)
        have h89 := h89.keep h98 eG38 (by decide)
        have h105 := h105.keep h98 eG38 (by decide)
        have h106 := h106.keep h98 eG38 (by decide)
        have h107 := h107.keep h98 eG38 (by decide)
        have h108 := h108.keep h98 eG38 (by decide)
        have h109 := h109.keep h98 eG38 (by decide)
        have h102 := h102.keep h98 eG38 (by decide)
        have h103 := h103.keep h98 eG38 (by decide)
        have h104 := h104.keep h98 eG38 (by decide)
        have hlen := (z_len eG38).trans hlen
        have hsl := (z_sl h98 eG38 rfl).trans hsl
        have hfr := hfr.wr h98 eG38 (by decide)
        have h98 := h98.kept eG38
        change ab_W _ _ _ (List.set G37 98 (za 4200 (zu (zu Le m_nodes (Le (QL m_depth))) (QL m_depth) le))) 178 [some (vR 80), some (vz le), some (vz mo), some (vz lz), some (vz (QL m_depth)), some (vz m_nodes), some (vj (Z (QL m_depth))), none] [] _
        rw [← eG38]
        refine ab_aload_n d_MO_repeat_178 rfl ?_
        refine ab_getf (fs := mof m_thrown m_taped m_length m_out m_wide m_gathered m_sets m_ranges (m_nodes + 1) m_at m_flags m_fault m_place m_numbered m_depth m_value m_isNot m_least0 m_most0 m_slot m_work m_got m_rowMany m_charAt m_charWide m_trail m_isMatch m_matchGroups m_allFrom m_allBefore m_founds m_pieces m_writtenMany m_templateWide m_tooMuch) f_MO_65 d_MO_repeat_179 h80.2.2 rfl ?_
        refine ab_iload d_MO_repeat_182 rfl ?_
        refine ab_iload_n d_MO_repeat_184 rfl ?_
        refine zz_iast d_MO_repeat_185 h99 (by omega) (h99.2.1 (by decide)) ?_
        obtain ⟨G39, eG39⟩ : ∃ z : ab_G, z = List.set G38 99 (za 4200 (zu (zu Mo m_nodes (Mo (QL m_depth))) (QL m_depth) mo)) := ⟨_, rfl⟩
        have h80 := h80.keep h99 eG39 (by decide)
        have h94 := h94.keep h99 eG39 (by decide)
        have h95 := h95.keep h99 eG39 (by decide)
        have h96 := h96.keep h99 eG39 (by decide)
        have h97 := h97.keep h99 eG39 (by decide)
        have h98 := h98.keep h99 eG39 (by decide)
        have h100 := h100.keep h99 eG39 (by decide)
        have h101 := h101.keep h99 eG39 (by decide)
        have h90 := h90.keep h99 eG39 (by decide)
        have h89 := h89.keep h99 eG39 (by decide)
        have h105 := h105.keep h99 eG39 (by decide)
        have h106 := h106.keep h99 eG39 (by decide)
        have h107 := h107.keep h99 eG39 (by decide)
        have h108 := h108.keep h99 eG39 (by decide)
        have h109 := h109.keep h99 eG39 (by decide)
        have h102 := h102.keep h99 eG39 (by decide)
        have h103 := h103.keep h99 eG39 (by decide)
        have h104 := h104.keep h99 eG39 (by decide)
        have hlen := (z_len eG39).trans hlen
        have hsl := (z_sl h99 eG39 rfl).trans hsl
        have hfr := hfr.wr h99 eG39 (by decide)
        have h99 := h99.kept eG39
        change ab_W _ _ _ (List.set G38 99 (za 4200 (zu (zu Mo m_nodes (Mo (QL m_depth))) (QL m_depth) mo))) 186 [some (vR 80), some (vz le), some (vz mo), some (vz lz), some (vz (QL m_depth)), some (vz m_nodes), some (vj (Z (QL m_depth))), none] [] _
        rw [← eG39]
        refine ab_aload_n d_MO_repeat_186 rfl ?_
        refine ab_getf (fs := mof m_thrown m_taped m_length m_out m_wide m_gathered m_sets m_ranges (m_nodes + 1) m_at m_flags m_fault m_place m_numbered m_depth m_value m_isNot m_least0 m_most0 m_slot m_work m_got m_rowMany m_charAt m_charWide m_trail m_isMatch m_matchGroups m_allFrom m_allBefore m_founds m_pieces m_writtenMany m_templateWide m_tooMuch) f_MO_72 d_MO_repeat_187 h80.2.2 rfl ?_
        refine ab_iload d_MO_repeat_190 rfl ?_
        refine ab_iload_n d_MO_repeat_192 rfl ?_
        refine zz_zast d_MO_repeat_193 h101 (by omega) (by omega) (h101.2.1 (by decide)) ?_
        obtain ⟨G40, eG40⟩ : ∃ z : ab_G, z = List.set G39 101 (zb 4200 (zu (zu LZ m_nodes (LZ (QL m_depth))) (QL m_depth) lz)) := ⟨_, rfl⟩
        have h80 := h80.keep h101 eG40 (by decide)
        have h94 := h94.keep h101 eG40 (by decide)
        have h95 := h95.keep h101 eG40 (by decide)
        have h96 := h96.keep h101 eG40 (by decide)
        have h97 := h97.keep h101 eG40 (by decide)
        have h98 := h98.keep h101 eG40 (by decide)
        have h99 := h99.keep h101 eG40 (by decide)
        have h100 := h100.keep h101 eG40 (by decide)
        have h90 := h90.keep h101 eG40 (by decide)
        have h89 := h89.keep h101 eG40 (by decide)
        have h105 := h105.keep h101 eG40 (by decide)
        have h106 := h106.keep h101 eG40 (by decide)
        have h107 := h107.keep h101 eG40 (by decide)
        have h108 := h108.keep h101 eG40 (by decide)
        have h109 := h109.keep h101 eG40 (by decide)
        have h102 := h102.keep h101 eG40 (by decide)
        have h103 := h103.keep h101 eG40 (by decide)
        have h104 := h104.keep h101 eG40 (by decide)
        have hlen := (z_len eG40).trans hlen
        have hsl := (z_sl h101 eG40 rfl).trans hsl
        have hfr := hfr.wr h101 eG40 (by decide)
        have h101 := h101.kept eG40
        change ab_W _ _ _ (List.set G39 101 (zb 4200 (zu (zu LZ m_nodes (LZ (QL m_depth))) (QL m_depth) lz))) 194 [some (vR 80), some (vz le), some (vz mo), some (vz lz), some (vz (QL m_depth)), some (vz m_nodes), some (vj (Z (QL m_depth))), none] [] _
        rw [← eG40]
        refine ab_aload_n d_MO_repeat_194 rfl ?_
        refine ab_getf (fs := mof m_thrown m_taped m_length m_out m_wide m_gathered m_sets m_ranges (m_nodes + 1) m_at m_flags m_fault m_place m_numbered m_depth m_value m_isNot m_least0 m_most0 m_slot m_work m_got m_rowMany m_charAt m_charWide m_trail m_isMatch m_matchGroups m_allFrom m_allBefore m_founds m_pieces m_writtenMany m_templateWide m_tooMuch) f_MO_100 d_MO_repeat_195 h80.2.2 rfl ?_
        refine ab_aload_n d_MO_repeat_198 rfl ?_
        refine ab_getf (fs := mof m_thrown m_taped m_length m_out m_wide m_gathered m_sets m_ranges (m_nodes + 1) m_at m_flags m_fault m_place m_numbered m_depth m_value m_isNot m_least0 m_most0 m_slot m_work m_got m_rowMany m_charAt m_charWide m_trail m_isMatch m_matchGroups m_allFrom m_allBefore m_founds m_pieces m_writtenMany m_templateWide m_tooMuch) f_MO_282 d_MO_repeat_199 h80.2.2 rfl ?_
        refine zz_iconst d_MO_repeat_202 ?_
        refine zz_iast d_MO_repeat_203 h109 (by omega) (h109.2.1 (by decide)) ?_
        obtain ⟨G41, eG41⟩ : ∃ z : ab_G, z = List.set G40 109 (za 32 (zu SD m_depth 2)) := ⟨_, rfl⟩
        have h80 := h80.keep h109 eG41 (by decide)
        have h94 := h94.keep h109 eG41 (by decide)
        have h95 := h95.keep h109 eG41 (by decide)
        have h96 := h96.keep h109 eG41 (by decide)
        have h97 := h97.keep h109 eG41 (by decide)
        have h98 := h98.keep h109 eG41 (by decide)
        have h99 := h99.keep h109 eG41 (by decide)
        have h100 := h100.keep h109 eG41 (by decide)
        have h101 := h101.keep h109 eG41 (by decide)
        have h90 := h90.keep h109 eG41 (by decide)
        have h89 := h89.keep h109 eG41 (by decide)
        have h105 := h105.keep h109 eG41 (by decide)
        have h106 := h106.keep h109 eG41 (by decide)
        have h107 := h107.keep h109 eG41 (by decide)
        have h108 := h108.keep h109 eG41 (by decide)
        have h102 := h102.keep h109 eG41 (by decide)
        have h103 := h103.keep h109 eG41 (by decide)
        have h104 := h104.keep h109 eG41 (by decide)
        have hlen := (z_len eG41).trans hlen
        have hsl := (z_sl h109 eG41 rfl).trans hsl
        have hfr := hfr.wr h109 eG41 (by decide)
        have h109 := h109.kept eG41
        change ab_W _ _ _ (List.set G40 109 (za 32 (zu SD m_depth 2))) 204 [some (vR 80), some (vz le), some (vz mo), some (vz lz), some (vz (QL m_depth)), some (vz m_nodes), some (vj (Z (QL m_depth))), none] [] _
        rw [← eG41]
        have ptrI_0 : trI o G41 0 (m_nodes + 1) m_sets (m_depth + 1) (-1) 0 0 ((a1_, b1_, c1_, d1_, (e1_ - ls + (tms le mo9 * ls + mre le mo9))) :: t1_) 0 0 0 SV ((ao1_, (mnC ro (mnR le mo9 lz vv))) :: ts1_) mnI mnI mnI RL RH m_ranges 0 0 := ⟨(zu (zu K m_nodes (K (QL m_depth))) (QL m_depth) 7), (zu O m_nodes (O (QL m_depth))), (zu (zu (zu Fi m_nodes (-1)) m_nodes (Fi (QL m_depth))) (QL m_depth) m_nodes), (zu Be m_nodes (-1)), (zu (zu Le m_nodes (Le (QL m_depth))) (QL m_depth) le), (zu (zu Mo m_nodes (Mo (QL m_depth))) (QL m_depth) mo), (zu (zu Z m_nodes (Z (QL m_depth))) (QL m_depth) ((v33 + (Z (QL m_depth))) + 1)), (zu (zu LZ m_nodes (LZ (QL m_depth))) (QL m_depth) lz), SM, SA, QF, QL, AF, AL, (zu SD m_depth 2), OA, OF, ON, h94, h95, h96, h97, h98, h99, h100, h101, h90, h89, h105, h106, h107, h108, h109, h102, h103, h104, (rgs_zu (rgs_zu jk (by omega)) (by omega)), (rgs_zu jo (by omega)), (rgs_zu (rgs_zu (rgs_zu jfi (by omega)) (by omega)) (by omega)), (rgs_zu jbe (by omega)), (rgs_zu (rgs_zu jle (by omega)) (by omega)), (rgs_zu (rgs_zu jmo (by omega)) (by omega)), (rgs_zu (rgs_zu jz (by omega)) (by omega)), (rgs_zu (rgs_zu jlz (by omega)) (by omega)), jsm, jsa, jqf, jql, jaf, jal, (rgs_zu jsd (by omega)), joa, jof, jon, (by rw [zu_zu]; exact rtk_rep jt (by omega) rfl hrs_ (by omega) (by omega) (by omega) (by omega) (fun _ => by rw [Int.add_mul, Int.one_mul, ← hv33]; omega) (fun h => absurd h (by omega)) (rep_wi (v := v33) (by omega) jls_.1 jls_.2 (by omega) hv33 (by omega)) (by unfold moE; split <;> omega)), (by omega), (fun h => absurd h (by decide)), (fun h => absurd h (by decide)), (fun h => absurd h (by decide)), (fun h => absurd h (by decide)), (fun h => absurd h (by decide)), (fun h => absurd h (by decide)), jss, jsv⟩
        refine ab_vret rfl d_MO_repeat_204 ?_
        rw [hQ]; exact ⟨rfl, hfr, hlen, hsl, h80, ptrI_0⟩
      · cases hv
        rw [hGe]
        change ab_W _ _ _ G16 169 [some (vR 80), some (vz le), some (vz mo), some (vz lz), some (vz (QL m_depth)), some (vz m_nodes), some (vj (Z (QL m_depth))), none] [vj 1000000000000, vz (QL m_depth), vR 100] _
        refine zz_last d_MO_repeat_169 h100 (by omega) (h100.2.1 (by decide)) ?_
        obtain ⟨G42, eG42⟩ : ∃ z : ab_G, z = List.set G16 100 (zl 4200 (zu (zu Z m_nodes (Z (QL m_depth))) (QL m_depth) 1000000000000)) := ⟨_, rfl⟩
        have h80 := h80.keep h100 eG42 (by decide)
        have h94 := h94.keep h100 eG42 (by decide)
        have h95 := h95.keep h100 eG42 (by decide)
        have h96 := h96.keep h100 eG42 (by decide)
        have h97 := h97.keep h100 eG42 (by decide)
        have h98 := h98.keep h100 eG42 (by decide)
        have h99 := h99.keep h100 eG42 (by decide)
        have h101 := h101.keep h100 eG42 (by decide)
        have h90 := h90.keep h100 eG42 (by decide)
        have h89 := h89.keep h100 eG42 (by decide)
        have h105 := h105.keep h100 eG42 (by decide)
        have h106 := h106.keep h100 eG42 (by decide)
        have h107 := h107.keep h100 eG42 (by decide)
        have h108 := h108.keep h100 eG42 (by decide)
        have h109 := h109.keep h100 eG42 (by decide)
        have h102 := h102.keep h100 eG42 (by decide)
        have h103 := h103.keep h100 eG42 (by decide)
        have h104 := h104.keep h100 eG42 (by decide)
        have hlen := (z_len eG42).trans hlen
        have hsl := (z_sl h100 eG42 rfl).trans hsl
        have hfr := hfr.wr h100 eG42 (by decide)
        have h100 := h100.kept eG42
        change ab_W _ _ _ (List.set G16 100 (zl 4200 (zu (zu Z m_nodes (Z (QL m_depth))) (QL m_depth) 1000000000000))) 170 [some (vR 80), some (vz le), some (vz mo), some (vz lz), some (vz (QL m_depth)), some (vz m_nodes), some (vj (Z (QL m_depth))), none] [] _
        rw [← eG42]
        refine ab_aload_n d_MO_repeat_170 rfl ?_
        refine ab_getf (fs := mof m_thrown m_taped m_length m_out m_wide m_gathered m_sets m_ranges (m_nodes + 1) m_at m_flags m_fault m_place m_numbered m_depth m_value m_isNot m_least0 m_most0 m_slot m_work m_got m_rowMany m_charAt m_charWide m_trail m_isMatch m_matchGroups m_allFrom m_allBefore m_founds m_pieces m_writtenMany m_templateWide m_tooMuch) f_MO_62 d_MO_repeat_171 h80.2.2 rfl ?_
        refine ab_iload d_MO_repeat_174 rfl ?_
        refine ab_iload_n d_MO_repeat_176 rfl ?_
        refine zz_iast d_MO_repeat_177 h98 (by omega) (h98.2.1 (by decide)) ?_
        obtain ⟨G43, eG43⟩ : ∃ z : ab_G, z = List.set G42 98 (za 4200 (zu (zu Le m_nodes (Le (QL m_depth))) (QL m_depth) le)) := ⟨_, rfl⟩
        have h80 := h80.keep h98 eG43 (by decide)
        have h94 := h94.keep h98 eG43 (by decide)
        have h95 := h95.keep h98 eG43 (by decide)
        have h96 := h96.keep h98 eG43 (by decide)
        have h97 := h97.keep h98 eG43 (by decide)
        have h99 := h99.keep h98 eG43 (by decide)
        have h100 := h100.keep h98 eG43 (by decide)
        have h101 := h101.keep h98 eG43 (by decide)
        have h90 := h90.keep h98 eG43 (by decide)
        have h89 := h89.keep h98 eG43 (by decide)
        have h105 := h105.keep h98 eG43 (by decide)
        have h106 := h106.keep h98 eG43 (by decide)
        have h107 := h107.keep h98 eG43 (by decide)
        have h108 := h108.keep h98 eG43 (by decide)
        have h109 := h109.keep h98 eG43 (by decide)
        have h102 := h102.keep h98 eG43 (by decide)
        have h103 := h103.keep h98 eG43 (by decide)
        have h104 := h104.keep h98 eG43 (by decide)
        have hlen := (z_len eG43).trans hlen
        have hsl := (z_sl h98 eG43 rfl).trans hsl
        have hfr := hfr.wr h98 eG43 (by decide)
        have h98 := h98.kept eG43
        change ab_W _ _ _ (List.set G42 98 (za 4200 (zu (zu Le m_nodes (Le (QL m_depth))) (QL m_depth) le))) 178 [some (vR 80), some (vz le), some (vz mo), some (vz lz), some (vz (QL m_depth)), some (vz m_nodes), some (vj (Z (QL m_depth))), none] [] _
        rw [← eG43]
        refine ab_aload_n d_MO_repeat_178 rfl ?_
        refine ab_getf (fs := mof m_thrown m_taped m_length m_out m_wide m_gathered m_sets m_ranges (m_nodes + 1) m_at m_flags m_fault m_place m_numbered m_depth m_value m_isNot m_least0 m_most0 m_slot m_work m_got m_rowMany m_charAt m_charWide m_trail m_isMatch m_matchGroups m_allFrom m_allBefore m_founds m_pieces m_writtenMany m_templateWide m_tooMuch) f_MO_65 d_MO_repeat_179 h80.2.2 rfl ?_
        refine ab_iload d_MO_repeat_182 rfl ?_
        refine ab_iload_n d_MO_repeat_184 rfl ?_
        refine zz_iast d_MO_repeat_185 h99 (by omega) (h99.2.1 (by decide)) ?_
        obtain ⟨G44, eG44⟩ : ∃ z : ab_G, z = List.set G43 99 (za 4200 (zu (zu Mo m_nodes (Mo (QL m_depth))) (QL m_depth) mo)) := ⟨_, rfl⟩
        have h80 := h80.keep h99 eG44 (by decide)
        have h94 := h94.keep h99 eG44 (by decide)
        have h95 := h95.keep h99 eG44 (by decide)
        have h96 := h96.keep h99 eG44 (by decide)
        have h97 := h97.keep h99 eG44 (by decide)
        have h98 := h98.keep h99 eG44 (by decide)
        have h100 := h100.keep h99 eG44 (by decide)
        have h101 := h101.keep h99 eG44 (by decide)
        have h90 := h90.keep h99 eG44 (by decide)
        have h89 := h89.keep h99 eG44 (by decide)
        have h105 := h105.keep h99 eG44 (by decide)
        have h106 := h106.keep h99 eG44 (by decide)
        have h107 := h107.keep h99 eG44 (by decide)
        have h108 := h108.keep h99 eG44 (by decide)
        have h109 := h109.keep h99 eG44 (by decide)
        have h102 := h102.keep h99 eG44 (by decide)
        have h103 := h103.keep h99 eG44 (by decide)
        have h104 := h104.keep h99 eG44 (by decide)
        have hlen := (z_len eG44).trans hlen
        have hsl := (z_sl h99 eG44 rfl).trans hsl
        have hfr := hfr.wr h99 eG44 (by decide)
        have h99 := h99.kept eG44
        change ab_W _ _ _ (List.set G43 99 (za 4200 (zu (zu Mo m_nodes (Mo (QL m_depth))) (QL m_depth) mo))) 186 [some (vR 80), some (vz le), some (vz mo), some (vz lz), some (vz (QL m_depth)), some (vz m_nodes), some (vj (Z (QL m_depth))), none] [] _
        rw [← eG44]
        refine ab_aload_n d_MO_repeat_186 rfl ?_
        refine ab_getf (fs := mof m_thrown m_taped m_length m_out m_wide m_gathered m_sets m_ranges (m_nodes + 1) m_at m_flags m_fault m_place m_numbered m_depth m_value m_isNot m_least0 m_most0 m_slot m_work m_got m_rowMany m_charAt m_charWide m_trail m_isMatch m_matchGroups m_allFrom m_allBefore m_founds m_pieces m_writtenMany m_templateWide m_tooMuch) f_MO_72 d_MO_repeat_187 h80.2.2 rfl ?_
        refine ab_iload d_MO_repeat_190 rfl ?_
        refine ab_iload_n d_MO_repeat_192 rfl ?_
        refine zz_zast d_MO_repeat_193 h101 (by omega) (by omega) (h101.2.1 (by decide)) ?_
        obtain ⟨G45, eG45⟩ : ∃ z : ab_G, z = List.set G44 101 (zb 4200 (zu (zu LZ m_nodes (LZ (QL m_depth))) (QL m_depth) lz)) := ⟨_, rfl⟩
        have h80 := h80.keep h101 eG45 (by decide)
        have h94 := h94.keep h101 eG45 (by decide)
        have h95 := h95.keep h101 eG45 (by decide)
        have h96 := h96.keep h101 eG45 (by decide)
        have h97 := h97.keep h101 eG45 (by decide)
        have h98 := h98.keep h101 eG45 (by decide)
        have h99 := h99.keep h101 eG45 (by decide)
        have h100 := h100.keep h101 eG45 (by decide)
        have h90 := h90.keep h101 eG45 (by decide)
        have h89 := h89.keep h101 eG45 (by decide)
        have h105 := h105.keep h101 eG45 (by decide)
        have h106 := h106.keep h101 eG45 (by decide)
        have h107 := h107.keep h101 eG45 (by decide)
        have h108 := h108.keep h101 eG45 (by decide)
        have h109 := h109.keep h101 eG45 (by decide)
        have h102 := h102.keep h101 eG45 (by decide)
        have h103 := h103.keep h101 eG45 (by decide)
        have h104 := h104.keep h101 eG45 (by decide)
        have hlen := (z_len eG45).trans hlen
        have hsl := (z_sl h101 eG45 rfl).trans hsl
        have hfr := hfr.wr h101 eG45 (by decide)
        have h101 := h101.kept eG45
        change ab_W _ _ _ (List.set G44 101 (zb 4200 (zu (zu LZ m_nodes (LZ (QL m_depth))) (QL m_depth) lz))) 194 [some (vR 80), some (vz le), some (vz mo), some (vz lz), some (vz (QL m_depth)), some (vz m_nodes), some (vj (Z (QL m_depth))), none] [] _
        rw [← eG45]
        refine ab_aload_n d_MO_repeat_194 rfl ?_
        refine ab_getf (fs := mof m_thrown m_taped m_length m_out m_wide m_gathered m_sets m_ranges (m_nodes + 1) m_at m_flags m_fault m_place m_numbered m_depth m_value m_isNot m_least0 m_most0 m_slot m_work m_got m_rowMany m_charAt m_charWide m_trail m_isMatch m_matchGroups m_allFrom m_allBefore m_founds m_pieces m_writtenMany m_templateWide m_tooMuch) f_MO_100 d_MO_repeat_195 h80.2.2 rfl ?_
        refine ab_aload_n d_MO_repeat_198 rfl ?_
        refine ab_getf (fs := mof m_thrown m_taped m_length m_out m_wide m_gathered m_sets m_ranges (m_nodes + 1) m_at m_flags m_fault m_place m_numbered m_depth m_value m_isNot m_least0 m_most0 m_slot m_work m_got m_rowMany m_charAt m_charWide m_trail m_isMatch m_matchGroups m_allFrom m_allBefore m_founds m_pieces m_writtenMany m_templateWide m_tooMuch) f_MO_282 d_MO_repeat_199 h80.2.2 rfl ?_
        refine zz_iconst d_MO_repeat_202 ?_
        refine zz_iast d_MO_repeat_203 h109 (by omega) (h109.2.1 (by decide)) ?_
        obtain ⟨G46, eG46⟩ : ∃ z : ab_G, z = List.set G45 109 (za 32 (zu SD m_depth 2)) := ⟨_, rfl⟩
        have h80 := h80.keep h109 eG46 (by decide)
        have h94 := h94.keep h109 eG46 (by decide)
        have h95 := h95.keep h109 eG46 (by decide)
        have h96 := h96.keep h109 eG46 (by decide)
        have h97 := h97.keep h109 eG46 (by decide)
        have h98 := h98.keep h109 eG46 (by decide)
        have h99 := h99.keep h109 eG46 (by decide)
        have h100 := h100.keep h109 eG46 (by decide)
        have h101 := h101.keep h109 eG46 (by decide)
        have h90 := h90.keep h109 eG46 (by decide)
        have h89 := h89.keep h109 eG46 (by decide)
        have h105 := h105.keep h109 eG46 (by decide)
        have h106 := h106.keep h109 eG46 (by decide)
        have h107 := h107.keep h109 eG46 (by decide)
        have h108 := h108.keep h109 eG46 (by decide)
        have h102 := h102.keep h109 eG46 (by decide)
        have h103 := h103.keep h109 eG46 (by decide)
        have h104 := h104.keep h109 eG46 (by decide)
        have hlen := (z_len eG46).trans hlen
        have hsl := (z_sl h109 eG46 rfl).trans hsl
        have hfr := hfr.wr h109 eG46 (by decide)
        have h109 := h109.kept eG46
        change ab_W _ _ _ (List.set G45 109 (za 32 (zu SD m_depth 2))) 204 [some (vR 80), some (vz le), some (vz mo), some (vz lz), some (vz (QL m_depth)), some (vz m_nodes), some (vj (Z (QL m_depth))), none] [] _
        rw [← eG46]
        have ptrI_0 : trI o G46 0 (m_nodes + 1) m_sets (m_depth + 1) (-1) 0 0 ((a1_, b1_, c1_, d1_, (e1_ - ls + (tms le mo9 * ls + mre le mo9))) :: t1_) 0 0 0 SV ((ao1_, (mnC ro (mnR le mo9 lz vv))) :: ts1_) mnI mnI mnI RL RH m_ranges 0 0 := ⟨(zu (zu K m_nodes (K (QL m_depth))) (QL m_depth) 7), (zu O m_nodes (O (QL m_depth))), (zu (zu (zu Fi m_nodes (-1)) m_nodes (Fi (QL m_depth))) (QL m_depth) m_nodes), (zu Be m_nodes (-1)), (zu (zu Le m_nodes (Le (QL m_depth))) (QL m_depth) le), (zu (zu Mo m_nodes (Mo (QL m_depth))) (QL m_depth) mo), (zu (zu Z m_nodes (Z (QL m_depth))) (QL m_depth) 1000000000000), (zu (zu LZ m_nodes (LZ (QL m_depth))) (QL m_depth) lz), SM, SA, QF, QL, AF, AL, (zu SD m_depth 2), OA, OF, ON, h94, h95, h96, h97, h98, h99, h100, h101, h90, h89, h105, h106, h107, h108, h109, h102, h103, h104, (rgs_zu (rgs_zu jk (by omega)) (by omega)), (rgs_zu jo (by omega)), (rgs_zu (rgs_zu (rgs_zu jfi (by omega)) (by omega)) (by omega)), (rgs_zu jbe (by omega)), (rgs_zu (rgs_zu jle (by omega)) (by omega)), (rgs_zu (rgs_zu jmo (by omega)) (by omega)), (rgs_zu (rgs_zu jz (by omega)) (by omega)), (rgs_zu (rgs_zu jlz (by omega)) (by omega)), jsm, jsa, jqf, jql, jaf, jal, (rgs_zu jsd (by omega)), joa, jof, jon, (by rw [zu_zu]; exact rtk_rep jt (by omega) rfl hrs_ (by omega) (by omega) (by omega) (by omega) (fun _ => by rw [Int.add_mul, Int.one_mul, ← hv33]; omega) (fun h => absurd h (by omega)) (rep_wi (v := v33) (by omega) jls_.1 jls_.2 (by omega) hv33 (by omega)) (by unfold moE; split <;> omega)), (by omega), (fun h => absurd h (by decide)), (fun h => absurd h (by decide)), (fun h => absurd h (by decide)), (fun h => absurd h (by decide)), (fun h => absurd h (by decide)), (fun h => absurd h (by decide)), jss, jsv⟩
        refine ab_vret rfl d_MO_repeat_204 ?_
        rw [hQ]; exact ⟨rfl, hfr, hlen, hsl, h80, ptrI_0⟩
    · refine ab_lload d_MO_repeat_135 rfl ?_
      refine zz_lconst d_MO_repeat_137 ?_
      change ab_W _ _ _ G16 138 [some (vR 80), some (vz le), some (vz mo), some (vz lz), some (vz (QL m_depth)), some (vz m_nodes), some (vj (Z (QL m_depth))), none] [vj 1, vj (Z (QL m_depth)), vz (QL m_depth), vR 100] _
      refine zz_ladd d_MO_repeat_138 ?_
      refine ab_goto (tgt := 166) d_MO_repeat_139 (by decide) ?_
      refine ab_callS (d' := d - 1) (as := [vj ((Z (QL m_depth)) + 1)]) (st := [vz (QL m_depth), vR 100]) (z_MO_atMost (o := o) (x := ((Z (QL m_depth)) + 1)) (by omega)) (fun oc G2 h => by rcases h with ⟨h, _⟩ | ⟨h, _⟩ <;> exact ⟨_, h⟩) (by omega) m_MO_atMost ml_MO_288 st_MO_atMost (Nat.le_of_ble_eq_true rfl) d_MO_repeat_166 rfl ?_
      intro v G47 hq
      rcases hq with ⟨hv, hGe, hq48⟩ | ⟨hv, hGe, hq49⟩
      · cases hv
        rw [hGe]
        change ab_W _ _ _ G16 169 [some (vR 80), some (vz le), some (vz mo), some (vz lz), some (vz (QL m_depth)), some (vz m_nodes), some (vj (Z (QL m_depth))), none] [vj ((Z (QL m_depth)) + 1), vz (QL m_depth), vR 100] _
        refine zz_last d_MO_repeat_169 h100 (by omega) (h100.2.1 (by decide)) ?_
        obtain ⟨G50, eG50⟩ : ∃ z : ab_G, z = List.set G16 100 (zl 4200 (zu (zu Z m_nodes (Z (QL m_depth))) (QL m_depth) ((Z (QL m_depth)) + 1))) := ⟨_, rfl⟩
        have h80 := h80.keep h100 eG50 (by decide)
        have h94 := h94.keep h100 eG50 (by decide)
        have h95 := h95.keep h100 eG50 (by decide)
        have h96 := h96.keep h100 eG50 (by decide)
        have h97 := h97.keep h100 eG50 (by decide)
        have h98 := h98.keep h100 eG50 (by decide)
        have h99 := h99.keep h100 eG50 (by decide)
        have h101 := h101.keep h100 eG50 (by decide)
        have h90 := h90.keep h100 eG50 (by decide)
        have h89 := h89.keep h100 eG50 (by decide)
        have h105 := h105.keep h100 eG50 (by decide)
        have h106 := h106.keep h100 eG50 (by decide)
        have h107 := h107.keep h100 eG50 (by decide)
        have h108 := h108.keep h100 eG50 (by decide)
        have h109 := h109.keep h100 eG50 (by decide)
        have h102 := h102.keep h100 eG50 (by decide)
        have h103 := h103.keep h100 eG50 (by decide)
        have h104 := h104.keep h100 eG50 (by decide)
        have hlen := (z_len eG50).trans hlen
        have hsl := (z_sl h100 eG50 rfl).trans hsl
        have hfr := hfr.wr h100 eG50 (by decide)
        have h100 := h100.kept eG50
        change ab_W _ _ _ (List.set G16 100 (zl 4200 (zu (zu Z m_nodes (Z (QL m_depth))) (QL m_depth) ((Z (QL m_depth)) + 1)))) 170 [some (vR 80), some (vz le), some (vz mo), some (vz lz), some (vz (QL m_depth)), some (vz m_nodes), some (vj (Z (QL m_depth))), none] [] _
        rw [← eG50]
        refine ab_aload_n d_MO_repeat_170 rfl ?_
        refine ab_getf (fs := mof m_thrown m_taped m_length m_out m_wide m_gathered m_sets m_ranges (m_nodes + 1) m_at m_flags m_fault m_place m_numbered m_depth m_value m_isNot m_least0 m_most0 m_slot m_work m_got m_rowMany m_charAt m_charWide m_trail m_isMatch m_matchGroups m_allFrom m_allBefore m_founds m_pieces m_writtenMany m_templateWide m_tooMuch) f_MO_62 d_MO_repeat_171 h80.2.2 rfl ?_
        refine ab_iload d_MO_repeat_174 rfl ?_
        refine ab_iload_n d_MO_repeat_176 rfl ?_
        refine zz_iast d_MO_repeat_177 h98 (by omega) (h98.2.1 (by decide)) ?_
        obtain ⟨G51, eG51⟩ : ∃ z : ab_G, z = List.set G50 98 (za 4200 (zu (zu Le m_nodes (Le (QL m_depth))) (QL m_depth) le)) := ⟨_, rfl⟩
        have h80 := h80.keep h98 eG51 (by decide)
        have h94 := h94.keep h98 eG51 (by decide)
        have h95 := h95.keep h98 eG51 (by decide)
        have h96 := h96.keep h98 eG51 (by decide)
        have h97 := h97.keep h98 eG51 (by decide)
        have h99 := h99.keep h98 eG51 (by decide)
        have h100 := h100.keep h98 eG51 (by decide)
        have h101 := h101.keep h98 eG51 (by decide)
        have h90 := h90.keep h98 eG51 (by decide)
        have h89 := h89.keep h98 eG51 (by decide)
        have h105 := h105.keep h98 eG51 (by decide)
        have h106 := h106.keep h98 eG51 (by decide)
        have h107 := h107.keep h98 eG51 (by decide)
        have h108 := h108.keep h98 eG51 (by decide)
        have h109 := h109.keep h98 eG51 (by decide)
        have h102 := h102.keep h98 eG51 (by decide)
        have h103 := h103.keep h98 eG51 (by decide)
        have h104 := h104.keep h98 eG51 (by decide)
        have hlen := (z_len eG51).trans hlen
        have hsl := (z_sl h98 eG51 rfl).trans hsl
        have hfr := hfr.wr h98 eG51 (by decide)
        have h98 := h98.kept eG51
        change ab_W _ _ _ (List.set G50 98 (za 4200 (zu (zu Le m_nodes (Le (QL m_depth))) (QL m_depth) le))) 178 [some (vR 80), some (vz le), some (vz mo), some (vz lz), some (vz (QL m_depth)), some (vz m_nodes), some (vj (Z (QL m_depth))), none] [] _
        rw [← eG51]
        refine ab_aload_n d_MO_repeat_178 rfl ?_
        refine ab_getf (fs := mof m_thrown m_taped m_length m_out m_wide m_gathered m_sets m_ranges (m_nodes + 1) m_at m_flags m_fault m_place m_numbered m_depth m_value m_isNot m_least0 m_most0 m_slot m_work m_got m_rowMany m_charAt m_charWide m_trail m_isMatch m_matchGroups m_allFrom m_allBefore m_founds m_pieces m_writtenMany m_templateWide m_tooMuch) f_MO_65 d_MO_repeat_179 h80.2.2 rfl ?_
        refine ab_iload d_MO_repeat_182 rfl ?_
        refine ab_iload_n d_MO_repeat_184 rfl ?_
        refine zz_iast d_MO_repeat_185 h99 (by omega) (h99.2.1 (by decide)) ?_
        obtain ⟨G52, eG52⟩ : ∃ z : ab_G, z = List.set G51 99 (za 4200 (zu (zu Mo m_nodes (Mo (QL m_depth))) (QL m_depth) mo)) := ⟨_, rfl⟩
        have h80 := h80.keep h99 eG52 (by decide)
        have h94 := h94.keep h99 eG52 (by decide)
        have h95 := h95.keep h99 eG52 (by decide)
        have h96 := h96.keep h99 eG52 (by decide)
        have h97 := h97.keep h99 eG52 (by decide)
        have h98 := h98.keep h99 eG52 (by decide)
        have h100 := h100.keep h99 eG52 (by decide)
        have h101 := h101.keep h99 eG52 (by decide)
        have h90 := h90.keep h99 eG52 (by decide)
        have h89 := h89.keep h99 eG52 (by decide)
        have h105 := h105.keep h99 eG52 (by decide)
        have h106 := h106.keep h99 eG52 (by decide)
        have h107 := h107.keep h99 eG52 (by decide)
        have h108 := h108.keep h99 eG52 (by decide)
        have h109 := h109.keep h99 eG52 (by decide)
        have h102 := h102.keep h99 eG52 (by decide)
        have h103 := h103.keep h99 eG52 (by decide)
        have h104 := h104.keep h99 eG52 (by decide)
        have hlen := (z_len eG52).trans hlen
        have hsl := (z_sl h99 eG52 rfl).trans hsl
        have hfr := hfr.wr h99 eG52 (by decide)
        have h99 := h99.kept eG52
        change ab_W _ _ _ (List.set G51 99 (za 4200 (zu (zu Mo m_nodes (Mo (QL m_depth))) (QL m_depth) mo))) 186 [some (vR 80), some (vz le), some (vz mo), some (vz lz), some (vz (QL m_depth)), some (vz m_nodes), some (vj (Z (QL m_depth))), none] [] _
        rw [← eG52]
        refine ab_aload_n d_MO_repeat_186 rfl ?_
        refine ab_getf (fs := mof m_thrown m_taped m_length m_out m_wide m_gathered m_sets m_ranges (m_nodes + 1) m_at m_flags m_fault m_place m_numbered m_depth m_value m_isNot m_least0 m_most0 m_slot m_work m_got m_rowMany m_charAt m_charWide m_trail m_isMatch m_matchGroups m_allFrom m_allBefore m_founds m_pieces m_writtenMany m_templateWide m_tooMuch) f_MO_72 d_MO_repeat_187 h80.2.2 rfl ?_
        refine ab_iload d_MO_repeat_190 rfl ?_
        refine ab_iload_n d_MO_repeat_192 rfl ?_
        refine zz_zast d_MO_repeat_193 h101 (by omega) (by omega) (h101.2.1 (by decide)) ?_
        obtain ⟨G53, eG53⟩ : ∃ z : ab_G, z = List.set G52 101 (zb 4200 (zu (zu LZ m_nodes (LZ (QL m_depth))) (QL m_depth) lz)) := ⟨_, rfl⟩
        have h80 := h80.keep h101 eG53 (by decide)
        have h94 := h94.keep h101 eG53 (by decide)
        have h95 := h95.keep h101 eG53 (by decide)
        have h96 := h96.keep h101 eG53 (by decide)
        have h97 := h97.keep h101 eG53 (by decide)
        have h98 := h98.keep h101 eG53 (by decide)
        have h99 := h99.keep h101 eG53 (by decide)
        have h100 := h100.keep h101 eG53 (by decide)
        have h90 := h90.keep h101 eG53 (by decide)
        have h89 := h89.keep h101 eG53 (by decide)
        have h105 := h105.keep h101 eG53 (by decide)
        have h106 := h106.keep h101 eG53 (by decide)
        have h107 := h107.keep h101 eG53 (by decide)
        have h108 := h108.keep h101 eG53 (by decide)
        have h109 := h109.keep h101 eG53 (by decide)
        have h102 := h102.keep h101 eG53 (by decide)
        have h103 := h103.keep h101 eG53 (by decide)
        have h104 := h104.keep h101 eG53 (by decide)
        have hlen := (z_len eG53).trans hlen
        have hsl := (z_sl h101 eG53 rfl).trans hsl
        have hfr := hfr.wr h101 eG53 (by decide)
        have h101 := h101.kept eG53
        change ab_W _ _ _ (List.set G52 101 (zb 4200 (zu (zu LZ m_nodes (LZ (QL m_depth))) (QL m_depth) lz))) 194 [some (vR 80), some (vz le), some (vz mo), some (vz lz), some (vz (QL m_depth)), some (vz m_nodes), some (vj (Z (QL m_depth))), none] [] _
        rw [← eG53]
        refine ab_aload_n d_MO_repeat_194 rfl ?_
        refine ab_getf (fs := mof m_thrown m_taped m_length m_out m_wide m_gathered m_sets m_ranges (m_nodes + 1) m_at m_flags m_fault m_place m_numbered m_depth m_value m_isNot m_least0 m_most0 m_slot m_work m_got m_rowMany m_charAt m_charWide m_trail m_isMatch m_matchGroups m_allFrom m_allBefore m_founds m_pieces m_writtenMany m_templateWide m_tooMuch) f_MO_100 d_MO_repeat_195 h80.2.2 rfl ?_
        refine ab_aload_n d_MO_repeat_198 rfl ?_
        refine ab_getf (fs := mof m_thrown m_taped m_length m_out m_wide m_gathered m_sets m_ranges (m_nodes + 1) m_at m_flags m_fault m_place m_numbered m_depth m_value m_isNot m_least0 m_most0 m_slot m_work m_got m_rowMany m_charAt m_charWide m_trail m_isMatch m_matchGroups m_allFrom m_allBefore m_founds m_pieces m_writtenMany m_templateWide m_tooMuch) f_MO_282 d_MO_repeat_199 h80.2.2 rfl ?_
        refine zz_iconst d_MO_repeat_202 ?_
        refine zz_iast d_MO_repeat_203 h109 (by omega) (h109.2.1 (by decide)) ?_
        obtain ⟨G54, eG54⟩ : ∃ z : ab_G, z = List.set G53 109 (za 32 (zu SD m_depth 2)) := ⟨_, rfl⟩
        have h80 := h80.keep h109 eG54 (by decide)
        have h94 := h94.keep h109 eG54 (by decide)
        have h95 := h95.keep h109 eG54 (by decide)
        have h96 := h96.keep h109 eG54 (by decide)
        have h97 := h97.keep h109 eG54 (by decide)
        have h98 := h98.keep h109 eG54 (by decide)
        have h99 := h99.keep h109 eG54 (by decide)
        have h100 := h100.keep h109 eG54 (by decide)
        have h101 := h101.keep h109 eG54 (by decide)
        have h90 := h90.keep h109 eG54 (by decide)
        have h89 := h89.keep h109 eG54 (by decide)
        have h105 := h105.keep h109 eG54 (by decide)
        have h106 := h106.keep h109 eG54 (by decide)
        have h107 := h107.keep h109 eG54 (by decide)
        have h108 := h108.keep h109 eG54 (by decide)
        have h102 := h102.keep h109 eG54 (by decide)
        have h103 := h103.keep h109 eG54 (by decide)
        have h104 := h104.keep h109 eG54 (by decide)
        have hlen := (z_len eG54).trans hlen
        have hsl := (z_sl h109 eG54 rfl).trans hsl
        have hfr := hfr.wr h109 eG54 (by decide)
        have h109 := h109.kept eG54
        change ab_W _ _ _ (List.set G53 109 (za 32 (zu SD m_depth 2))) 204 [some (vR 80), some (vz le), some (vz mo), some (vz lz), some (vz (QL m_depth)), some (vz m_nodes), some (vj (Z (QL m_depth))), none] [] _
        rw [← eG54]
        have ptrI_0 : trI o G54 0 (m_nodes + 1) m_sets (m_depth + 1) (-1) 0 0 ((a1_, b1_, c1_, d1_, (e1_ - ls + (tms le mo9 * ls + mre le mo9))) :: t1_) 0 0 0 SV ((ao1_, (mnC ro (mnR le mo9 lz vv))) :: ts1_) mnI mnI mnI RL RH m_ranges 0 0 := ⟨(zu (zu K m_nodes (K (QL m_depth))) (QL m_depth) 7), (zu O m_nodes (O (QL m_depth))), (zu (zu (zu Fi m_nodes (-1)) m_nodes (Fi (QL m_depth))) (QL m_depth) m_nodes), (zu Be m_nodes (-1)), (zu (zu Le m_nodes (Le (QL m_depth))) (QL m_depth) le), (zu (zu Mo m_nodes (Mo (QL m_depth))) (QL m_depth) mo), (zu (zu Z m_nodes (Z (QL m_depth))) (QL m_depth) ((Z (QL m_depth)) + 1)), (zu (zu LZ m_nodes (LZ (QL m_depth))) (QL m_depth) lz), SM, SA, QF, QL, AF, AL, (zu SD m_depth 2), OA, OF, ON, h94, h95, h96, h97, h98, h99, h100, h101, h90, h89, h105, h106, h107, h108, h109, h102, h103, h104, (rgs_zu (rgs_zu jk (by omega)) (by omega)), (rgs_zu jo (by omega)), (rgs_zu (rgs_zu (rgs_zu jfi (by omega)) (by omega)) (by omega)), (rgs_zu jbe (by omega)), (rgs_zu (rgs_zu jle (by omega)) (by omega)), (rgs_zu (rgs_zu jmo (by omega)) (by omega)), (rgs_zu (rgs_zu jz (by omega)) (by omega)), (rgs_zu (rgs_zu jlz (by omega)) (by omega)), jsm, jsa, jqf, jql, jaf, jal, (rgs_zu jsd (by omega)), joa, jof, jon, (by rw [zu_zu]; exact rtk_rep jt (by omega) rfl hrs_ (by omega) (by omega) (by omega) (by omega) (fun _ => by rw [show le = 0 by omega, Int.zero_add, Int.one_mul]; omega) (fun h => absurd h (by omega)) (rep_wi (v := 0) (by omega) jls_.1 jls_.2 (by omega) (by rw [show le = 0 by omega, Int.zero_mul]) (by omega)) (by unfold moE; split <;> omega)), (by omega), (fun h => absurd h (by decide)), (fun h => absurd h (by decide)), (fun h => absurd h (by decide)), (fun h => absurd h (by decide)), (fun h => absurd h (by decide)), (fun h => absurd h (by decide)), jss, jsv⟩
        refine ab_vret rfl d_MO_repeat_204 ?_
        rw [hQ]; exact ⟨rfl, hfr, hlen, hsl, h80, ptrI_0⟩
      · cases hv
        rw [hGe]
        change ab_W _ _ _ G16 169 [some (vR 80), some (vz le), some (vz mo), some (vz lz), some (vz (QL m_depth)), some (vz m_nodes), some (vj (Z (QL m_depth))), none] [vj 1000000000000, vz (QL m_depth), vR 100] _
        refine zz_last d_MO_repeat_169 h100 (by omega) (h100.2.1 (by decide)) ?_
        obtain ⟨G55, eG55⟩ : ∃ z : ab_G, z = List.set G16 100 (zl 4200 (zu (zu Z m_nodes (Z (QL m_depth))) (QL m_depth) 1000000000000)) := ⟨_, rfl⟩
        have h80 := h80.keep h100 eG55 (by decide)
        have h94 := h94.keep h100 eG55 (by decide)
        have h95 := h95.keep h100 eG55 (by decide)
        have h96 := h96.keep h100 eG55 (by decide)
        have h97 := h97.keep h100 eG55 (by decide)
        have h98 := h98.keep h100 eG55 (by decide)
        have h99 := h99.keep h100 eG55 (by decide)
        have h101 := h101.keep h100 eG55 (by decide)
        have h90 := h90.keep h100 eG55 (by decide)
        have h89 := h89.keep h100 eG55 (by decide)
        have h105 := h105.keep h100 eG55 (by decide)
        have h106 := h106.keep h100 eG55 (by decide)
        have h107 := h107.keep h100 eG55 (by decide)
        have h108 := h108.keep h100 eG55 (by decide)
        have h109 := h109.keep h100 eG55 (by decide)
        have h102 := h102.keep h100 eG55 (by decide)
        have h103 := h103.keep h100 eG55 (by decide)
        have h104 := h104.keep h100 eG55 (by decide)
        have hlen := (z_len eG55).trans hlen
        have hsl := (z_sl h100 eG55 rfl).trans hsl
        have hfr := hfr.wr h100 eG55 (by decide)
        have h100 := h100.kept eG55
        change ab_W _ _ _ (List.set G16 100 (zl 4200 (zu (zu Z m_nodes (Z (QL m_depth))) (QL m_depth) 1000000000000))) 170 [some (vR 80), some (vz le), some (vz mo), some (vz lz), some (vz (QL m_depth)), some (vz m_nodes), some (vj (Z (QL m_depth))), none] [] _
        rw [← eG55]
        refine ab_aload_n d_MO_repeat_170 rfl ?_
        refine ab_getf (fs := mof m_thrown m_taped m_length m_out m_wide m_gathered m_sets m_ranges (m_nodes + 1) m_at m_flags m_fault m_place m_numbered m_depth m_value m_isNot m_least0 m_most0 m_slot m_work m_got m_rowMany m_charAt m_charWide m_trail m_isMatch m_matchGroups m_allFrom m_allBefore m_founds m_pieces m_writtenMany m_templateWide m_tooMuch) f_MO_62 d_MO_repeat_171 h80.2.2 rfl ?_
        refine ab_iload d_MO_repeat_174 rfl ?_
        refine ab_iload_n d_MO_repeat_176 rfl ?_
        refine zz_iast d_MO_repeat_177 h98 (by omega) (h98.2.1 (by decide)) ?_
        obtain ⟨G56, eG56⟩ : ∃ z : ab_G, z = List.set G55 98 (za 4200 (zu (zu Le m_nodes (Le (QL m_depth))) (QL m_depth) le)) := ⟨_, rfl⟩
        have h80 := h80.keep h98 eG56 (by decide)
        have h94 := h94.keep h98 eG56 (by decide)
        have h95 := h95.keep h98 eG56 (by decide)
        have h96 := h96.keep h98 eG56 (by decide)
        have h97 := h97.keep h98 eG56 (by decide)
        have h99 := h99.keep h98 eG56 (by decide)
        have h100 := h100.keep h98 eG56 (by decide)
        have h101 := h101.keep h98 eG56 (by decide)
        have h90 := h90.keep h98 eG56 (by decide)
        have h89 := h89.keep h98 eG56 (by decide)
        have h105 := h105.keep h98 eG56 (by decide)
        have h106 := h106.keep h98 eG56 (by decide)
        have h107 := h107.keep h98 eG56 (by decide)
        have h108 := h108.keep h98 eG56 (by decide)
        have h109 := h109.keep h98 eG56 (by decide)
        have h102 := h102.keep h98 eG56 (by decide)
        have h103 := h103.keep h98 eG56 (by decide)
        have h104 := h104.keep h98 eG56 (by decide)
        have hlen := (z_len eG56).trans hlen
        have hsl := (z_sl h98 eG56 rfl).trans hsl
        have hfr := hfr.wr h98 eG56 (by decide)
        have h98 := h98.kept eG56
        change ab_W _ _ _ (List.set G55 98 (za 4200 (zu (zu Le m_nodes (Le (QL m_depth))) (QL m_depth) le))) 178 [some (vR 80), some (vz le), some (vz mo), some (vz lz), some (vz (QL m_depth)), some (vz m_nodes), some (vj (Z (QL m_depth))), none] [] _
        rw [← eG56]
        refine ab_aload_n d_MO_repeat_178 rfl ?_
        refine ab_getf (fs := mof m_thrown m_taped m_length m_out m_wide m_gathered m_sets m_ranges (m_nodes + 1) m_at m_flags m_fault m_place m_numbered m_depth m_value m_isNot m_least0 m_most0 m_slot m_work m_got m_rowMany m_charAt m_charWide m_trail m_isMatch m_matchGroups m_allFrom m_allBefore m_founds m_pieces m_writtenMany m_templateWide m_tooMuch) f_MO_65 d_MO_repeat_179 h80.2.2 rfl ?_
        refine ab_iload d_MO_repeat_182 rfl ?_
        refine ab_iload_n d_MO_repeat_184 rfl ?_
        refine zz_iast d_MO_repeat_185 h99 (by omega) (h99.2.1 (by decide)) ?_
        obtain ⟨G57, eG57⟩ : ∃ z : ab_G, z = List.set G56 99 (za 4200 (zu (zu Mo m_nodes (Mo (QL m_depth))) (QL m_depth) mo)) := ⟨_, rfl⟩
        have h80 := h80.keep h99 eG57 (by decide)
        have h94 := h94.keep h99 eG57 (by decide)
        have h95 := h95.keep h99 eG57 (by decide)
        have h96 := h96.keep h99 eG57 (by decide)
        have h97 := h97.keep h99 eG57 (by decide)
        have h98 := h98.keep h99 eG57 (by decide)
        have h100 := h100.keep h99 eG57 (by decide)
        have h101 := h101.keep h99 eG57 (by decide)
        have h90 := h90.keep h99 eG57 (by decide)
        have h89 := h89.keep h99 eG57 (by decide)
        have h105 := h105.keep h99 eG57 (by decide)
        have h106 := h106.keep h99 eG57 (by decide)
        have h107 := h107.keep h99 eG57 (by decide)
        have h108 := h108.keep h99 eG57 (by decide)
        have h109 := h109.keep h99 eG57 (by decide)
        have h102 := h102.keep h99 eG57 (by decide)
        have h103 := h103.keep h99 eG57 (by decide)
        have h104 := h104.keep h99 eG57 (by decide)
        have hlen := (z_len eG57).trans hlen
        have hsl := (z_sl h99 eG57 rfl).trans hsl
        have hfr := hfr.wr h99 eG57 (by decide)
        have h99 := h99.kept eG57
        change ab_W _ _ _ (List.set G56 99 (za 4200 (zu (zu Mo m_nodes (Mo (QL m_depth))) (QL m_depth) mo))) 186 [some (vR 80), some (vz le), some (vz mo), some (vz lz), some (vz (QL m_depth)), some (vz m_nodes), some (vj (Z (QL m_depth))), none] [] _
        rw [← eG57]
        refine ab_aload_n d_MO_repeat_186 rfl ?_
        refine ab_getf (fs := mof m_thrown m_taped m_length m_out m_wide m_gathered m_sets m_ranges (m_nodes + 1) m_at m_flags m_fault m_place m_numbered m_depth m_value m_isNot m_least0 m_most0 m_slot m_work m_got m_rowMany m_charAt m_charWide m_trail m_isMatch m_matchGroups m_allFrom m_allBefore m_founds m_pieces m_writtenMany m_templateWide m_tooMuch) f_MO_72 d_MO_repeat_187 h80.2.2 rfl ?_
        refine ab_iload d_MO_repeat_190 rfl ?_
        refine ab_iload_n d_MO_repeat_192 rfl ?_
        refine zz_zast d_MO_repeat_193 h101 (by omega) (by omega) (h101.2.1 (by decide)) ?_
        obtain ⟨G58, eG58⟩ : ∃ z : ab_G, z = List.set G57 101 (zb 4200 (zu (zu LZ m_nodes (LZ (QL m_depth))) (QL m_depth) lz)) := ⟨_, rfl⟩
        have h80 := h80.keep h101 eG58 (by decide)
        have h94 := h94.keep h101 eG58 (by decide)
        have h95 := h95.keep h101 eG58 (by decide)
        have h96 := h96.keep h101 eG58 (by decide)
        have h97 := h97.keep h101 eG58 (by decide)
        have h98 := h98.keep h101 eG58 (by decide)
        have h99 := h99.keep h101 eG58 (by decide)
        have h100 := h100.keep h101 eG58 (by decide)
        have h90 := h90.keep h101 eG58 (by decide)
        have h89 := h89.keep h101 eG58 (by decide)
        have h105 := h105.keep h101 eG58 (by decide)
        have h106 := h106.keep h101 eG58 (by decide)
        have h107 := h107.keep h101 eG58 (by decide)
        have h108 := h108.keep h101 eG58 (by decide)
        have h109 := h109.keep h101 eG58 (by decide)
        have h102 := h102.keep h101 eG58 (by decide)
        have h103 := h103.keep h101 eG58 (by decide)
        have h104 := h104.keep h101 eG58 (by decide)
        have hlen := (z_len eG58).trans hlen
        have hsl := (z_sl h101 eG58 rfl).trans hsl
        have hfr := hfr.wr h101 eG58 (by decide)
        have h101 := h101.kept eG58
        change ab_W _ _ _ (List.set G57 101 (zb 4200 (zu (zu LZ m_nodes (LZ (QL m_depth))) (QL m_depth) lz))) 194 [some (vR 80), some (vz le), some (vz mo), some (vz lz), some (vz (QL m_depth)), some (vz m_nodes), some (vj (Z (QL m_depth))), none] [] _
        rw [← eG58]
        refine ab_aload_n d_MO_repeat_194 rfl ?_
        refine ab_getf (fs := mof m_thrown m_taped m_length m_out m_wide m_gathered m_sets m_ranges (m_nodes + 1) m_at m_flags m_fault m_place m_numbered m_depth m_value m_isNot m_least0 m_most0 m_slot m_work m_got m_rowMany m_charAt m_charWide m_trail m_isMatch m_matchGroups m_allFrom m_allBefore m_founds m_pieces m_writtenMany m_templateWide m_tooMuch) f_MO_100 d_MO_repeat_195 h80.2.2 rfl ?_
        refine ab_aload_n d_MO_repeat_198 rfl ?_
        refine ab_getf (fs := mof m_thrown m_taped m_length m_out m_wide m_gathered m_sets m_ranges (m_nodes + 1) m_at m_flags m_fault m_place m_numbered m_depth m_value m_isNot m_least0 m_most0 m_slot m_work m_got m_rowMany m_charAt m_charWide m_trail m_isMatch m_matchGroups m_allFrom m_allBefore m_founds m_pieces m_writtenMany m_templateWide m_tooMuch) f_MO_282 d_MO_repeat_199 h80.2.2 rfl ?_
        refine zz_iconst d_MO_repeat_202 ?_
        refine zz_iast d_MO_repeat_203 h109 (by omega) (h109.2.1 (by decide)) ?_
        obtain ⟨G59, eG59⟩ : ∃ z : ab_G, z = List.set G58 109 (za 32 (zu SD m_depth 2)) := ⟨_, rfl⟩
        have h80 := h80.keep h109 eG59 (by decide)
        have h94 := h94.keep h109 eG59 (by decide)
        have h95 := h95.keep h109 eG59 (by decide)
        have h96 := h96.keep h109 eG59 (by decide)
        have h97 := h97.keep h109 eG59 (by decide)
        have h98 := h98.keep h109 eG59 (by decide)
        have h99 := h99.keep h109 eG59 (by decide)
        have h100 := h100.keep h109 eG59 (by decide)
        have h101 := h101.keep h109 eG59 (by decide)
        have h90 := h90.keep h109 eG59 (by decide)
        have h89 := h89.keep h109 eG59 (by decide)
        have h105 := h105.keep h109 eG59 (by decide)
        have h106 := h106.keep h109 eG59 (by decide)
        have h107 := h107.keep h109 eG59 (by decide)
        have h108 := h108.keep h109 eG59 (by decide)
        have h102 := h102.keep h109 eG59 (by decide)
        have h103 := h103.keep h109 eG59 (by decide)
        have h104 := h104.keep h109 eG59 (by decide)
        have hlen := (z_len eG59).trans hlen
        have hsl := (z_sl h109 eG59 rfl).trans hsl
        have hfr := hfr.wr h109 eG59 (by decide)
        have h109 := h109.kept eG59
        change ab_W _ _ _ (List.set G58 109 (za 32 (zu SD m_depth 2))) 204 [some (vR 80), some (vz le), some (vz mo), some (vz lz), some (vz (QL m_depth)), some (vz m_nodes), some (vj (Z (QL m_depth))), none] [] _
        rw [← eG59]
        have ptrI_0 : trI o G59 0 (m_nodes + 1) m_sets (m_depth + 1) (-1) 0 0 ((a1_, b1_, c1_, d1_, (e1_ - ls + (tms le mo9 * ls + mre le mo9))) :: t1_) 0 0 0 SV ((ao1_, (mnC ro (mnR le mo9 lz vv))) :: ts1_) mnI mnI mnI RL RH m_ranges 0 0 := ⟨(zu (zu K m_nodes (K (QL m_depth))) (QL m_depth) 7), (zu O m_nodes (O (QL m_depth))), (zu (zu (zu Fi m_nodes (-1)) m_nodes (Fi (QL m_depth))) (QL m_depth) m_nodes), (zu Be m_nodes (-1)), (zu (zu Le m_nodes (Le (QL m_depth))) (QL m_depth) le), (zu (zu Mo m_nodes (Mo (QL m_depth))) (QL m_depth) mo), (zu (zu Z m_nodes (Z (QL m_depth))) (QL m_depth) 1000000000000), (zu (zu LZ m_nodes (LZ (QL m_depth))) (QL m_depth) lz), SM, SA, QF, QL, AF, AL, (zu SD m_depth 2), OA, OF, ON, h94, h95, h96, h97, h98, h99, h100, h101, h90, h89, h105, h106, h107, h108, h109, h102, h103, h104, (rgs_zu (rgs_zu jk (by omega)) (by omega)), (rgs_zu jo (by omega)), (rgs_zu (rgs_zu (rgs_zu jfi (by omega)) (by omega)) (by omega)), (rgs_zu jbe (by omega)), (rgs_zu (rgs_zu jle (by omega)) (by omega)), (rgs_zu (rgs_zu jmo (by omega)) (by omega)), (rgs_zu (rgs_zu jz (by omega)) (by omega)), (rgs_zu (rgs_zu jlz (by omega)) (by omega)), jsm, jsa, jqf, jql, jaf, jal, (rgs_zu jsd (by omega)), joa, jof, jon, (by rw [zu_zu]; exact rtk_rep jt (by omega) rfl hrs_ (by omega) (by omega) (by omega) (by omega) (fun _ => by rw [show le = 0 by omega, Int.zero_add, Int.one_mul]; omega) (fun h => absurd h (by omega)) (rep_wi (v := 0) (by omega) jls_.1 jls_.2 (by omega) (by rw [show le = 0 by omega, Int.zero_mul]) (by omega)) (by unfold moE; split <;> omega)), (by omega), (fun h => absurd h (by decide)), (fun h => absurd h (by decide)), (fun h => absurd h (by decide)), (fun h => absurd h (by decide)), (fun h => absurd h (by decide)), (fun h => absurd h (by decide)), jss, jsv⟩
        refine ab_vret rfl d_MO_repeat_204 ?_
        rw [hQ]; exact ⟨rfl, hfr, hlen, hsl, h80, ptrI_0⟩
