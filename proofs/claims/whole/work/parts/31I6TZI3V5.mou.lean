set_option maxRecDepth 100000 in
set_option maxHeartbeats 4000000 in
theorem z_MO_bit {X : ab_X} {d : Nat} {o : Nat → Nat} {G : ab_G} {a : Nat} {l : Nat} {A : Int → Int} {p : Int} {k : Int} (ha : cc o G a l (zl 392196 A)) (cpk : 0 ≤ p ∧ p ≤ 2000 ∧ 0 ≤ k ∧ k < 12500) : ab_F X d y_MO_bit (.code y_MO_bit b_MO_bit 3 (some (.boolean))) [vR a, vz p, vz k] G (fun oc G2 => (oc = .returned (some (vz 1)) ∧ G2 = G ∧ (nbit A p k)) ∨ (oc = .returned (some (vz 0)) ∧ G2 = G ∧ (¬ nbit A p k))) := by
  refine ab_F_of (by decide +kernel) (Nat.le_of_ble_eq_true rfl) ?_
  obtain ⟨Q, hQ⟩ : ∃ z : Outcome → ab_G → Prop, z = (fun oc G2 => (oc = .returned (some (vz 1)) ∧ G2 = G ∧ (nbit A p k)) ∨ (oc = .returned (some (vz 0)) ∧ G2 = G ∧ (¬ nbit A p k))) := ⟨_, rfl⟩
  rw [← hQ]
  change ab_W X (ab_pl y_MO_bit b_MO_bit 3 (some (.boolean))) d G 0 [some (vR a), some (vz p), some (vz k)] [] Q
  have hfr : fx o o [] G G := fx.rf
  have hlen : G.length = G.length := rfl
  have hsl : ab_slots G = ab_slots G := rfl
  refine ab_aload_n d_MO_bit_0 rfl ?_
  refine zz_sipush d_MO_bit_1 (by decide) ?_
  refine ab_iload_n d_MO_bit_4 rfl ?_
  refine zz_imul d_MO_bit_5 ?_
  refine ab_iload_n d_MO_bit_6 rfl ?_
  refine zz_bipush d_MO_bit_7 (by decide) ?_
  refine zz_idiv d_MO_bit_9 (by omega) ?_
  refine zz_iadd d_MO_bit_10 ?_
  refine zz_lald d_MO_bit_11 ha (by omega) ?_
  refine ab_iload_n d_MO_bit_12 rfl ?_
  refine zz_bipush d_MO_bit_13 (by decide) ?_
  refine zz_irem d_MO_bit_15 (by omega) ?_
  refine zz_bit d_MO_bit_16 d_MO_bit_17 d_MO_bit_18 d_MO_bit_19 d_MO_bit_20 (by omega) (fun hb_ => ?_) (fun hb_ => ?_)
  · change ab_W _ _ _ G 21 [some (vR a), some (vz p), some (vz k)] [vz 0] _
    refine zz_if_ne (tgt := 28) d_MO_bit_21 (by decide) (by decide) (fun c1 => absurd c1 (by decide)) (fun c1 => ?_)
    refine zz_iconst d_MO_bit_24 ?_
    refine ab_goto (tgt := 29) d_MO_bit_25 (by decide) ?_
    refine zz_bret rfl (by decide) d_MO_bit_29 ?_
    rw [hQ]; exact (Or.inl ⟨rfl, rfl, (by exact hb_)⟩)
  · change ab_W _ _ _ G 21 [some (vR a), some (vz p), some (vz k)] [vz (-1)] _
    refine zz_if_ne (tgt := 28) d_MO_bit_21 (by decide) (by decide) (fun c2 => ?_) (fun c2 => absurd c2 (by decide))
    refine zz_iconst d_MO_bit_28 ?_
    refine zz_bret rfl (by decide) d_MO_bit_29 ?_
    rw [hQ]; exact (Or.inr ⟨rfl, rfl, (by exact hb_)⟩)
set_option maxRecDepth 100000 in
set_option maxHeartbeats 4000000 in
theorem z_MO_mark {X : ab_X} {d : Nat} {o : Nat → Nat} {G : ab_G} {a : Nat} {l : Nat} {A : Int → Int} {p : Int} {k : Int} (ha : cc o G a l (zl 392196 A)) (cpk : 0 ≤ p ∧ p ≤ 2000 ∧ 0 ≤ k ∧ k < 12500) (cl : ab_n0 ≤ l) : ab_F X d y_MO_mark (.code y_MO_mark b_MO_mark 3 none) [vR a, vz p, vz k] G (fun oc G2 => ∃ B : Int → Int, oc = .returned none ∧ fx o o [l] G G2 ∧ G2.length = G.length ∧ ab_slots G2 = ab_slots G ∧ cc o G2 a l (zl 392196 B) ∧ (∀ p2 k2 : Int, 0 ≤ k2 → k2 < 12544 → (nbit B p2 k2 ↔ nbit A p2 k2 ∨ (p2 = p ∧ k2 = k)))) := by
  refine ab_F_of (by decide +kernel) (Nat.le_of_ble_eq_true rfl) ?_
  obtain ⟨Q, hQ⟩ : ∃ z : Outcome → ab_G → Prop, z = (fun oc G2 => ∃ B : Int → Int, oc = .returned none ∧ fx o o [l] G G2 ∧ G2.length = G.length ∧ ab_slots G2 = ab_slots G ∧ cc o G2 a l (zl 392196 B) ∧ (∀ p2 k2 : Int, 0 ≤ k2 → k2 < 12544 → (nbit B p2 k2 ↔ nbit A p2 k2 ∨ (p2 = p ∧ k2 = k)))) := ⟨_, rfl⟩
  rw [← hQ]
  change ab_W X (ab_pl y_MO_mark b_MO_mark 3 none) d G 0 [some (vR a), some (vz p), some (vz k)] [] Q
  have hfr : fx o o [l] G G := fx.rf
  have hlen : G.length = G.length := rfl
  have hsl : ab_slots G = ab_slots G := rfl
  refine ab_aload_n d_MO_mark_0 rfl ?_
  refine zz_sipush d_MO_mark_1 (by decide) ?_
  refine ab_iload_n d_MO_mark_4 rfl ?_
  refine zz_imul d_MO_mark_5 ?_
  refine ab_iload_n d_MO_mark_6 rfl ?_
  refine zz_bipush d_MO_mark_7 (by decide) ?_
  refine zz_idiv d_MO_mark_9 (by omega) ?_
  refine zz_iadd d_MO_mark_10 ?_
  refine ab_aload_n d_MO_mark_11 rfl ?_
  refine zz_sipush d_MO_mark_12 (by decide) ?_
  refine ab_iload_n d_MO_mark_15 rfl ?_
  refine zz_imul d_MO_mark_16 ?_
  refine ab_iload_n d_MO_mark_17 rfl ?_
  refine zz_bipush d_MO_mark_18 (by decide) ?_
  refine zz_idiv d_MO_mark_20 (by omega) ?_
  refine zz_iadd d_MO_mark_21 ?_
  refine zz_lald d_MO_mark_22 ha (by omega) ?_
  refine zz_lconst d_MO_mark_23 ?_
  change ab_W _ _ _ G 24 [some (vR a), some (vz p), some (vz k)] [vj 1, vj (A ((196 * p) + (k / 64))), vz ((196 * p) + (k / 64)), vR a] _
  refine ab_iload_n d_MO_mark_24 rfl ?_
  refine zz_bipush d_MO_mark_25 (by decide) ?_
  refine zz_irem d_MO_mark_27 (by omega) ?_
  refine zz_setb d_MO_mark_28 d_MO_mark_29 (by omega) ?_
  change ab_W _ _ _ G 30 [some (vR a), some (vz p), some (vz k)] [vj (stb6 (A ((196 * p) + (k / 64))) (k % 64)), vz ((196 * p) + (k / 64)), vR a] _
  refine zz_last d_MO_mark_30 ha (by omega) (ha.2.1 (by first | omega | exact (show 18 ≤ _ by omega))) ?_
  obtain ⟨G1, eG1⟩ : ∃ z : ab_G, z = List.set G a (zl 392196 (zu A ((196 * p) + (k / 64)) (stb6 (A ((196 * p) + (k / 64))) (k % 64)))) := ⟨_, rfl⟩
  have hlen := (z_len eG1).trans hlen
  have hsl := (z_sl ha eG1 rfl).trans hsl
  have hfr := hfr.wr ha eG1 (by simp)
  have ha := ha.kept eG1
  change ab_W _ _ _ (List.set G a (zl 392196 (zu A ((196 * p) + (k / 64)) (stb6 (A ((196 * p) + (k / 64))) (k % 64))))) 31 [some (vR a), some (vz p), some (vz k)] [] _
  rw [← eG1]
  refine ab_vret rfl d_MO_mark_31 ?_
  rw [hQ]; exact ⟨_, rfl, hfr, hlen, hsl, ha, (by exact fun p2 k2 h0 h1 => nbit_mark (by omega) ⟨h0, h1⟩)⟩
set_option maxRecDepth 100000 in
set_option maxHeartbeats 4000000 in
theorem z_MO_byteOf {X : ab_X} {d : Nat} {o : Nat → Nat} {G : ab_G} {a : Nat} {l : Nat} {m : Nat} {f : Int → Int} {n : Int} {p : Int} (ha : cc o G a l (za m f)) (c0 : 0 ≤ n ∧ n ≤ ↑m ∧ ↑m ≤ (2000 : Int) ∧ 0 ≤ p ∧ p ≤ 10000) (hf : rgs f ↑m 0 255) : ab_F X d y_MO_byteOf (.code y_MO_byteOf b_MO_byteOf 3 (some (.int))) [vR a, vz n, vz p] G (fun oc G2 => ∃ v : Int, oc = .returned (some (vz v)) ∧ G2 = G ∧ (0 ≤ v ∧ v ≤ 255) ∧ (n ≤ p → v = 0) ∧ (v = cb f n p)) := by
  refine ab_F_of (by decide +kernel) (Nat.le_of_ble_eq_true rfl) ?_
  obtain ⟨Q, hQ⟩ : ∃ z : Outcome → ab_G → Prop, z = (fun oc G2 => ∃ v : Int, oc = .returned (some (vz v)) ∧ G2 = G ∧ (0 ≤ v ∧ v ≤ 255) ∧ (n ≤ p → v = 0) ∧ (v = cb f n p)) := ⟨_, rfl⟩
  rw [← hQ]
  change ab_W X (ab_pl y_MO_byteOf b_MO_byteOf 3 (some (.int))) d G 0 [some (vR a), some (vz n), some (vz p)] [] Q
  have hfr : fx o o [] G G := fx.rf
  have hlen : G.length = G.length := rfl
  have hsl : ab_slots G = ab_slots G := rfl
  refine ab_iload_n d_MO_byteOf_0 rfl ?_
  refine ab_iload_n d_MO_byteOf_1 rfl ?_
  refine zz_icmp_ge (tgt := 11) d_MO_byteOf_2 (by decide) (by omega) (by omega) (fun c1 => ?_) (fun c1 => ?_)
  · refine zz_iconst d_MO_byteOf_11 ?_
    refine zz_iret rfl d_MO_byteOf_12 ?_
    rw [hQ]; exact ⟨_, rfl, rfl, (by omega), (by intro _; omega), (by unfold cb; rw [if_neg (by omega)])⟩
  · refine ab_aload_n d_MO_byteOf_5 rfl ?_
    refine ab_iload_n d_MO_byteOf_6 rfl ?_
    refine zz_iald d_MO_byteOf_7 ha (by omega) ?_
    have hq2 := hf p (by omega) (by omega)
    refine ab_goto (tgt := 12) d_MO_byteOf_8 (by decide) ?_
    refine zz_iret rfl d_MO_byteOf_12 ?_
    rw [hQ]; exact ⟨_, rfl, rfl, (by omega), (by intro _; omega), (by unfold cb; rw [if_pos (by omega)])⟩
set_option maxRecDepth 100000 in
set_option maxHeartbeats 4000000 in
theorem z_MO_character {X : ab_X} {d : Nat} {o : Nat → Nat} {G : ab_G} {m_thrown : Int} {m_taped : Int} {m_length : Int} {m_out : Int} {m_wide : Int} {m_gathered : Int} {m_sets : Int} {m_ranges : Int} {m_nodes : Int} {m_at : Int} {m_flags : Int} {m_fault : Int} {m_place : Int} {m_numbered : Int} {m_depth : Int} {m_value : Int} {m_isNot : Int} {m_least0 : Int} {m_most0 : Int} {m_slot : Int} {m_work : Int} {m_got : Int} {m_rowMany : Int} {m_charAt : Int} {m_charWide : Int} {m_trail : Int} {m_isMatch : Int} {m_matchGroups : Int} {m_allFrom : Int} {m_allBefore : Int} {m_founds : Int} {m_pieces : Int} {m_writtenMany : Int} {m_templateWide : Int} {m_tooMuch : Int} {a : Nat} {l : Nat} {m : Nat} {f : Int → Int} {n : Int} {p : Int} (h80 : cc o G 80 280 (ab_ob 12 (mof m_thrown m_taped m_length m_out m_wide m_gathered m_sets m_ranges m_nodes m_at m_flags m_fault m_place m_numbered m_depth m_value m_isNot m_least0 m_most0 m_slot m_work m_got m_rowMany m_charAt m_charWide m_trail m_isMatch m_matchGroups m_allFrom m_allBefore m_founds m_pieces m_writtenMany m_templateWide m_tooMuch))) (ha : cc o G a l (za m f)) (n18 : ab_n0 = 18) (cl : 281 ≤ l) (c0 : 0 ≤ n ∧ n ≤ ↑m ∧ ↑m ≤ (2000 : Int) ∧ 0 ≤ p ∧ p ≤ 9990) (hf : rgs f ↑m 0 255) (hd : 1 ≤ d) : ab_F X d y_MO_character (.code y_MO_character b_MO_character 11 (some (.int))) [vR 80, vR a, vz n, vz p] G (fun oc G2 => (oc = .returned (some (vz (-1))) ∧ fx o o [280] G G2 ∧ G2.length = G.length ∧ ab_slots G2 = ab_slots G ∧ cc o G2 80 280 (ab_ob 12 (mof m_thrown m_taped m_length m_out 1 m_gathered m_sets m_ranges m_nodes m_at m_flags m_fault m_place m_numbered m_depth m_value m_isNot m_least0 m_most0 m_slot m_work m_got m_rowMany m_charAt m_charWide m_trail m_isMatch m_matchGroups m_allFrom m_allBefore m_founds m_pieces m_writtenMany m_templateWide m_tooMuch)) ∧ (mchr f n p (-1) 1)) ∨ (∃ v : Int, ∃ w : Int, oc = .returned (some (vz v)) ∧ fx o o [280] G G2 ∧ G2.length = G.length ∧ ab_slots G2 = ab_slots G ∧ cc o G2 80 280 (ab_ob 12 (mof m_thrown m_taped m_length m_out w m_gathered m_sets m_ranges m_nodes m_at m_flags m_fault m_place m_numbered m_depth m_value m_isNot m_least0 m_most0 m_slot m_work m_got m_rowMany m_charAt m_charWide m_trail m_isMatch m_matchGroups m_allFrom m_allBefore m_founds m_pieces m_writtenMany m_templateWide m_tooMuch)) ∧ (0 ≤ v ∧ v ≤ 1114111 ∧ 1 ≤ w ∧ w ≤ 4 ∧ p + w ≤ n) ∧ (mchr f n p v w))) := by
  refine ab_F_of (by decide +kernel) (Nat.le_of_ble_eq_true rfl) ?_
  obtain ⟨Q, hQ⟩ : ∃ z : Outcome → ab_G → Prop, z = (fun oc G2 => (oc = .returned (some (vz (-1))) ∧ fx o o [280] G G2 ∧ G2.length = G.length ∧ ab_slots G2 = ab_slots G ∧ cc o G2 80 280 (ab_ob 12 (mof m_thrown m_taped m_length m_out 1 m_gathered m_sets m_ranges m_nodes m_at m_flags m_fault m_place m_numbered m_depth m_value m_isNot m_least0 m_most0 m_slot m_work m_got m_rowMany m_charAt m_charWide m_trail m_isMatch m_matchGroups m_allFrom m_allBefore m_founds m_pieces m_writtenMany m_templateWide m_tooMuch)) ∧ (mchr f n p (-1) 1)) ∨ (∃ v : Int, ∃ w : Int, oc = .returned (some (vz v)) ∧ fx o o [280] G G2 ∧ G2.length = G.length ∧ ab_slots G2 = ab_slots G ∧ cc o G2 80 280 (ab_ob 12 (mof m_thrown m_taped m_length m_out w m_gathered m_sets m_ranges m_nodes m_at m_flags m_fault m_place m_numbered m_depth m_value m_isNot m_least0 m_most0 m_slot m_work m_got m_rowMany m_charAt m_charWide m_trail m_isMatch m_matchGroups m_allFrom m_allBefore m_founds m_pieces m_writtenMany m_templateWide m_tooMuch)) ∧ (0 ≤ v ∧ v ≤ 1114111 ∧ 1 ≤ w ∧ w ≤ 4 ∧ p + w ≤ n) ∧ (mchr f n p v w))) := ⟨_, rfl⟩
  rw [← hQ]
  change ab_W X (ab_pl y_MO_character b_MO_character 11 (some (.int))) d G 0 [some (vR 80), some (vR a), some (vz n), some (vz p), none, none, none, none, none, none, none] [] Q
  have hfr : fx o o [280] G G := fx.rf
  have hlen : G.length = G.length := rfl
  have hsl : ab_slots G = ab_slots G := rfl
  refine ab_aload_n d_MO_character_0 rfl ?_
  refine zz_iconst d_MO_character_1 ?_
  refine ab_putf (fs := mof m_thrown m_taped m_length m_out m_wide m_gathered m_sets m_ranges m_nodes m_at m_flags m_fault m_place m_numbered m_depth m_value m_isNot m_least0 m_most0 m_slot m_work m_got m_rowMany m_charAt m_charWide m_trail m_isMatch m_matchGroups m_allFrom m_allBefore m_founds m_pieces m_writtenMany m_templateWide m_tooMuch) f_MO_226 (Or.inl rfl) d_MO_character_2 h80.2.2 (Nat.le_of_ble_eq_true rfl) (fun _ => ⟨rfl, rfl⟩) (h80.2.1 (by decide)) ?_
  obtain ⟨G1, eG1⟩ : ∃ z : ab_G, z = List.set G 80 (ab_ob 12 (mof m_thrown m_taped m_length m_out 1 m_gathered m_sets m_ranges m_nodes m_at m_flags m_fault m_place m_numbered m_depth m_value m_isNot m_least0 m_most0 m_slot m_work m_got m_rowMany m_charAt m_charWide m_trail m_isMatch m_matchGroups m_allFrom m_allBefore m_founds m_pieces m_writtenMany m_templateWide m_tooMuch)) := ⟨_, rfl⟩
  have ha := ha.keep h80 eG1 (by omega)
  have hlen := (z_len eG1).trans hlen
  have hsl := (z_sl h80 eG1 rfl).trans hsl
  have hfr := hfr.wr h80 eG1 (by decide)
  have h80 := h80.kept eG1
  change ab_W _ _ _ (List.set G 80 (ab_ob 12 (mof m_thrown m_taped m_length m_out 1 m_gathered m_sets m_ranges m_nodes m_at m_flags m_fault m_place m_numbered m_depth m_value m_isNot m_least0 m_most0 m_slot m_work m_got m_rowMany m_charAt m_charWide m_trail m_isMatch m_matchGroups m_allFrom m_allBefore m_founds m_pieces m_writtenMany m_templateWide m_tooMuch))) 5 [some (vR 80), some (vR a), some (vz n), some (vz p), none, none, none, none, none, none, none] [] _
  rw [← eG1]
  refine ab_aload_n d_MO_character_5 rfl ?_
  refine ab_iload_n d_MO_character_6 rfl ?_
  refine ab_iload_n d_MO_character_7 rfl ?_
  refine ab_callS (d' := d - 1) (as := [vR a, vz n, vz p]) (st := []) (z_MO_byteOf (o := o) (a := a) (l := l) (m := m) (f := f) (n := n) (p := p) ha (by omega) hf) (fun oc G2 h => by rcases h with ⟨_, h, _⟩ <;> exact ⟨_, h⟩) (by omega) m_MO_byteOf ml_MO_229 st_MO_byteOf (Nat.le_of_ble_eq_true rfl) d_MO_character_8 rfl ?_
  intro v G2 hq
  rcases hq with ⟨v3, hv, hGe, hq4, hq5, hq6⟩
  cases hv
  rw [hGe]
  change ab_W _ _ _ G1 11 [some (vR 80), some (vR a), some (vz n), some (vz p), none, none, none, none, none, none, none] [vz v3] _
  refine ab_istore d_MO_character_11 (Nat.le_of_ble_eq_true rfl) (Nat.le_of_ble_eq_true rfl) rfl ?_
  change ab_W _ _ _ G1 13 [some (vR 80), some (vR a), some (vz n), some (vz p), some (vz v3), none, none, none, none, none, none] [] _
  refine ab_iload_n d_MO_character_13 rfl ?_
  refine ab_iload_n d_MO_character_14 rfl ?_
  refine zz_icmp_lt (tgt := 20) d_MO_character_15 (by decide) (by omega) (by omega) (fun c7 => ?_) (fun c7 => ?_)
  · refine ab_iload d_MO_character_20 rfl ?_
    refine zz_sipush d_MO_character_22 (by decide) ?_
    refine zz_icmp_ge (tgt := 31) d_MO_character_25 (by decide) (by omega) (by decide) (fun c8 => ?_) (fun c8 => ?_)
    · refine ab_aload_n d_MO_character_31 rfl ?_
      refine ab_iload_n d_MO_character_32 rfl ?_
      refine ab_iload_n d_MO_character_33 rfl ?_
      refine zz_iconst d_MO_character_34 ?_
      refine zz_iadd d_MO_character_35 ?_
      refine ab_callS (d' := d - 1) (as := [vR a, vz n, vz (p + 1)]) (st := []) (z_MO_byteOf (o := o) (a := a) (l := l) (m := m) (f := f) (n := n) (p := (p + 1)) ha (by omega) hf) (fun oc G2 h => by rcases h with ⟨_, h, _⟩ <;> exact ⟨_, h⟩) (by omega) m_MO_byteOf ml_MO_229 st_MO_byteOf (Nat.le_of_ble_eq_true rfl) d_MO_character_36 rfl ?_
      intro v G9 hq
      rcases hq with ⟨v10, hv, hGe, hq11, hq12, hq13⟩
      cases hv
      rw [hGe]
      change ab_W _ _ _ G1 39 [some (vR 80), some (vR a), some (vz n), some (vz p), some (vz v3), none, none, none, none, none, none] [vz v10] _
      refine ab_istore d_MO_character_39 (Nat.le_of_ble_eq_true rfl) (Nat.le_of_ble_eq_true rfl) rfl ?_
      change ab_W _ _ _ G1 41 [some (vR 80), some (vR a), some (vz n), some (vz p), some (vz v3), some (vz v10), none, none, none, none, none] [] _
      refine ab_aload_n d_MO_character_41 rfl ?_
      refine ab_iload_n d_MO_character_42 rfl ?_
      refine ab_iload_n d_MO_character_43 rfl ?_
      refine zz_iconst d_MO_character_44 ?_
      refine zz_iadd d_MO_character_45 ?_
      refine ab_callS (d' := d - 1) (as := [vR a, vz n, vz (p + 2)]) (st := []) (z_MO_byteOf (o := o) (a := a) (l := l) (m := m) (f := f) (n := n) (p := (p + 2)) ha (by omega) hf) (fun oc G2 h => by rcases h with ⟨_, h, _⟩ <;> exact ⟨_, h⟩) (by omega) m_MO_byteOf ml_MO_229 st_MO_byteOf (Nat.le_of_ble_eq_true rfl) d_MO_character_46 rfl ?_
      intro v G14 hq
      rcases hq with ⟨v15, hv, hGe, hq16, hq17, hq18⟩
      cases hv
      rw [hGe]
      change ab_W _ _ _ G1 49 [some (vR 80), some (vR a), some (vz n), some (vz p), some (vz v3), some (vz v10), none, none, none, none, none] [vz v15] _
      refine ab_istore d_MO_character_49 (Nat.le_of_ble_eq_true rfl) (Nat.le_of_ble_eq_true rfl) rfl ?_
      change ab_W _ _ _ G1 51 [some (vR 80), some (vR a), some (vz n), some (vz p), some (vz v3), some (vz v10), some (vz v15), none, none, none, none] [] _
      refine ab_aload_n d_MO_character_51 rfl ?_
      refine ab_iload_n d_MO_character_52 rfl ?_
      refine ab_iload_n d_MO_character_53 rfl ?_
      refine zz_iconst d_MO_character_54 ?_
      refine zz_iadd d_MO_character_55 ?_
      refine ab_callS (d' := d - 1) (as := [vR a, vz n, vz (p + 3)]) (st := []) (z_MO_byteOf (o := o) (a := a) (l := l) (m := m) (f := f) (n := n) (p := (p + 3)) ha (by omega) hf) (fun oc G2 h => by rcases h with ⟨_, h, _⟩ <;> exact ⟨_, h⟩) (by omega) m_MO_byteOf ml_MO_229 st_MO_byteOf (Nat.le_of_ble_eq_true rfl) d_MO_character_56 rfl ?_
      intro v G19 hq
      rcases hq with ⟨v20, hv, hGe, hq21, hq22, hq23⟩
      cases hv
      rw [hGe]
      change ab_W _ _ _ G1 59 [some (vR 80), some (vR a), some (vz n), some (vz p), some (vz v3), some (vz v10), some (vz v15), none, none, none, none] [vz v20] _
      refine ab_istore d_MO_character_59 (Nat.le_of_ble_eq_true rfl) (Nat.le_of_ble_eq_true rfl) rfl ?_
      change ab_W _ _ _ G1 61 [some (vR 80), some (vR a), some (vz n), some (vz p), some (vz v3), some (vz v10), some (vz v15), some (vz v20), none, none, none] [] _
      refine ab_iload d_MO_character_61 rfl ?_
      refine zz_sipush d_MO_character_63 (by decide) ?_
      refine zz_icmp_lt (tgt := 81) d_MO_character_66 (by decide) (by omega) (by decide) (fun c24 => ?_) (fun c24 => ?_)
      · refine zz_iconst d_MO_character_81 ?_
        refine ab_istore d_MO_character_82 (Nat.le_of_ble_eq_true rfl) (Nat.le_of_ble_eq_true rfl) rfl ?_
        change ab_W _ _ _ G1 84 [some (vR 80), some (vR a), some (vz n), some (vz p), some (vz v3), some (vz v10), some (vz v15), some (vz v20), some (vz 0), none, none] [] _
        refine ab_iload d_MO_character_84 rfl ?_
        refine zz_if_eq (tgt := 109) d_MO_character_86 (by decide) (by decide) (fun c25 => ?_) (fun c25 => absurd c25 (by decide))
        refine zz_iconst d_MO_character_109 ?_
        refine ab_istore d_MO_character_110 (Nat.le_of_ble_eq_true rfl) (Nat.le_of_ble_eq_true rfl) rfl ?_
        change ab_W _ _ _ G1 112 [some (vR 80), some (vR a), some (vz n), some (vz p), some (vz v3), some (vz v10), some (vz v15), some (vz v20), some (vz 0), some (vz 0), none] [] _
        refine ab_iload d_MO_character_112 rfl ?_
        refine zz_sipush d_MO_character_114 (by decide) ?_
        refine zz_icmp_lt (tgt := 153) d_MO_character_117 (by decide) (by omega) (by decide) (fun c26 => ?_) (fun c26 => ?_)
        · refine ab_iload d_MO_character_153 rfl ?_
          refine zz_bipush d_MO_character_155 (by decide) ?_
          refine zz_iand 4 16 d_MO_character_157 (by decide) (by decide) (by decide) (by decide) ?_
          refine zz_bipush d_MO_character_158 (by decide) ?_
          refine zz_ishl 12 4096 d_MO_character_160 (by decide) (by decide) (by decide) ?_
          refine ab_iload d_MO_character_161 rfl ?_
          refine zz_bipush d_MO_character_163 (by decide) ?_
          refine zz_iand 6 64 d_MO_character_165 (by decide) (by decide) (by decide) (by decide) ?_
          refine zz_bipush d_MO_character_166 (by decide) ?_
          refine zz_ishl 6 64 d_MO_character_168 (by decide) (by decide) (by decide) ?_
          refine zz_iorX 12 4096 d_MO_character_169 (by decide) (by decide) (by omega) (by omega) ?_
          change ab_W _ _ _ G1 170 [some (vR 80), some (vR a), some (vz n), some (vz p), some (vz v3), some (vz v10), some (vz v15), some (vz v20), some (vz 0), some (vz 0), none] [vz (((v3 % 16) * 4096) + ((v10 % 64) * 64))] _
          refine ab_iload d_MO_character_170 rfl ?_
          refine zz_bipush d_MO_character_172 (by decide) ?_
          refine zz_iand 6 64 d_MO_character_174 (by decide) (by decide) (by decide) (by decide) ?_
          refine zz_iorX 6 64 d_MO_character_175 (by decide) (by decide) (by omega) (by omega) ?_
          change ab_W _ _ _ G1 176 [some (vR 80), some (vR a), some (vz n), some (vz p), some (vz v3), some (vz v10), some (vz v15), some (vz v20), some (vz 0), some (vz 0), none] [vz ((((v3 % 16) * 4096) + ((v10 % 64) * 64)) + (v15 % 64))] _
          refine ab_istore d_MO_character_176 (Nat.le_of_ble_eq_true rfl) (Nat.le_of_ble_eq_true rfl) rfl ?_
          change ab_W _ _ _ G1 178 [some (vR 80), some (vR a), some (vz n), some (vz p), some (vz v3), some (vz v10), some (vz v15), some (vz v20), some (vz 0), some (vz 0), some (vz ((((v3 % 16) * 4096) + ((v10 % 64) * 64)) + (v15 % 64)))] [] _
          refine ab_iload d_MO_character_178 rfl ?_
          refine zz_sipush d_MO_character_180 (by decide) ?_
          refine zz_icmp_lt (tgt := 229) d_MO_character_183 (by decide) (by omega) (by decide) (fun c27 => ?_) (fun c27 => absurd c27 (by omega))
          refine ab_iload d_MO_character_229 rfl ?_
          refine zz_bipush d_MO_character_231 (by decide) ?_
          refine zz_iand 3 8 d_MO_character_233 (by decide) (by decide) (by decide) (by decide) ?_
          refine zz_bipush d_MO_character_234 (by decide) ?_
          refine zz_ishl 18 262144 d_MO_character_236 (by decide) (by decide) (by decide) ?_
          refine ab_iload d_MO_character_237 rfl ?_
          refine zz_bipush d_MO_character_239 (by decide) ?_
          refine zz_iand 6 64 d_MO_character_241 (by decide) (by decide) (by decide) (by decide) ?_
          refine zz_bipush d_MO_character_242 (by decide) ?_
          refine zz_ishl 12 4096 d_MO_character_244 (by decide) (by decide) (by decide) ?_
          refine zz_iorX 18 262144 d_MO_character_245 (by decide) (by decide) (by omega) (by omega) ?_
          change ab_W _ _ _ G1 246 [some (vR 80), some (vR a), some (vz n), some (vz p), some (vz v3), some (vz v10), some (vz v15), some (vz v20), some (vz 0), some (vz 0), some (vz ((((v3 % 16) * 4096) + ((v10 % 64) * 64)) + (v15 % 64)))] [vz (((v3 % 8) * 262144) + ((v10 % 64) * 4096))] _
          refine ab_iload d_MO_character_246 rfl ?_
          refine zz_bipush d_MO_character_248 (by decide) ?_
          refine zz_iand 6 64 d_MO_character_250 (by decide) (by decide) (by decide) (by decide) ?_
          refine zz_bipush d_MO_character_251 (by decide) ?_
          refine zz_ishl 6 64 d_MO_character_253 (by decide) (by decide) (by decide) ?_
          refine zz_iorX 12 4096 d_MO_character_254 (by decide) (by decide) (by omega) (by omega) ?_
          change ab_W _ _ _ G1 255 [some (vR 80), some (vR a), some (vz n), some (vz p), some (vz v3), some (vz v10), some (vz v15), some (vz v20), some (vz 0), some (vz 0), some (vz ((((v3 % 16) * 4096) + ((v10 % 64) * 64)) + (v15 % 64)))] [vz ((((v3 % 8) * 262144) + ((v10 % 64) * 4096)) + ((v15 % 64) * 64))] _
          refine ab_iload d_MO_character_255 rfl ?_
          refine zz_bipush d_MO_character_257 (by decide) ?_
          refine zz_iand 6 64 d_MO_character_259 (by decide) (by decide) (by decide) (by decide) ?_
          refine zz_iorX 6 64 d_MO_character_260 (by decide) (by decide) (by omega) (by omega) ?_
          change ab_W _ _ _ G1 261 [some (vR 80), some (vR a), some (vz n), some (vz p), some (vz v3), some (vz v10), some (vz v15), some (vz v20), some (vz 0), some (vz 0), some (vz ((((v3 % 16) * 4096) + ((v10 % 64) * 64)) + (v15 % 64)))] [vz (((((v3 % 8) * 262144) + ((v10 % 64) * 4096)) + ((v15 % 64) * 64)) + (v20 % 64))] _
          refine ab_istore d_MO_character_261 (Nat.le_of_ble_eq_true rfl) (Nat.le_of_ble_eq_true rfl) rfl ?_
          change ab_W _ _ _ G1 263 [some (vR 80), some (vR a), some (vz n), some (vz p), some (vz v3), some (vz v10), some (vz v15), some (vz v20), some (vz 0), some (vz 0), some (vz (((((v3 % 8) * 262144) + ((v10 % 64) * 4096)) + ((v15 % 64) * 64)) + (v20 % 64)))] [] _
          refine ab_iload d_MO_character_263 rfl ?_
          refine zz_sipush d_MO_character_265 (by decide) ?_
          refine zz_icmp_lt (tgt := 322) d_MO_character_268 (by decide) (by omega) (by decide) (fun c28 => ?_) (fun c28 => absurd c28 (by omega))
          refine zz_iconst d_MO_character_322 ?_
          refine zz_iret rfl d_MO_character_323 ?_
          rw [hQ]; exact (Or.inl ⟨rfl, hfr, hlen, hsl, h80, (by refine Or.inr ⟨by omega, ?_⟩; rw [← hq6, ← hq13, ← hq18, ← hq23]; exact Or.inr (Or.inr (Or.inr (Or.inr ⟨by omega, by omega, by unfold cv3; omega, by unfold cv4; omega, rfl, rfl⟩))))⟩)
        · refine ab_iload d_MO_character_120 rfl ?_
          refine zz_sipush d_MO_character_122 (by decide) ?_
          refine zz_icmp_ge (tgt := 153) d_MO_character_125 (by decide) (by omega) (by decide) (fun c29 => ?_) (fun c29 => ?_)
          · refine ab_iload d_MO_character_153 rfl ?_
            refine zz_bipush d_MO_character_155 (by decide) ?_
            refine zz_iand 4 16 d_MO_character_157 (by decide) (by decide) (by decide) (by decide) ?_
            refine zz_bipush d_MO_character_158 (by decide) ?_
            refine zz_ishl 12 4096 d_MO_character_160 (by decide) (by decide) (by decide) ?_
            refine ab_iload d_MO_character_161 rfl ?_
            refine zz_bipush d_MO_character_163 (by decide) ?_
            refine zz_iand 6 64 d_MO_character_165 (by decide) (by decide) (by decide) (by decide) ?_
            refine zz_bipush d_MO_character_166 (by decide) ?_
            refine zz_ishl 6 64 d_MO_character_168 (by decide) (by decide) (by decide) ?_
            refine zz_iorX 12 4096 d_MO_character_169 (by decide) (by decide) (by omega) (by omega) ?_
            change ab_W _ _ _ G1 170 [some (vR 80), some (vR a), some (vz n), some (vz p), some (vz v3), some (vz v10), some (vz v15), some (vz v20), some (vz 0), some (vz 0), none] [vz (((v3 % 16) * 4096) + ((v10 % 64) * 64))] _
            refine ab_iload d_MO_character_170 rfl ?_
            refine zz_bipush d_MO_character_172 (by decide) ?_
            refine zz_iand 6 64 d_MO_character_174 (by decide) (by decide) (by decide) (by decide) ?_
            refine zz_iorX 6 64 d_MO_character_175 (by decide) (by decide) (by omega) (by omega) ?_
            change ab_W _ _ _ G1 176 [some (vR 80), some (vR a), some (vz n), some (vz p), some (vz v3), some (vz v10), some (vz v15), some (vz v20), some (vz 0), some (vz 0), none] [vz ((((v3 % 16) * 4096) + ((v10 % 64) * 64)) + (v15 % 64))] _
            refine ab_istore d_MO_character_176 (Nat.le_of_ble_eq_true rfl) (Nat.le_of_ble_eq_true rfl) rfl ?_
            change ab_W _ _ _ G1 178 [some (vR 80), some (vR a), some (vz n), some (vz p), some (vz v3), some (vz v10), some (vz v15), some (vz v20), some (vz 0), some (vz 0), some (vz ((((v3 % 16) * 4096) + ((v10 % 64) * 64)) + (v15 % 64)))] [] _
            refine ab_iload d_MO_character_178 rfl ?_
            refine zz_sipush d_MO_character_180 (by decide) ?_
            refine zz_icmp_lt (tgt := 229) d_MO_character_183 (by decide) (by omega) (by decide) (fun c30 => absurd c30 (by omega)) (fun c30 => ?_)
            refine ab_iload d_MO_character_186 rfl ?_
            refine zz_sipush d_MO_character_188 (by decide) ?_
            refine zz_icmp_ge (tgt := 229) d_MO_character_191 (by decide) (by omega) (by decide) (fun c31 => ?_) (fun c31 => ?_)
            · refine ab_iload d_MO_character_229 rfl ?_
              refine zz_bipush d_MO_character_231 (by decide) ?_
              refine zz_iand 3 8 d_MO_character_233 (by decide) (by decide) (by decide) (by decide) ?_
              refine zz_bipush d_MO_character_234 (by decide) ?_
              refine zz_ishl 18 262144 d_MO_character_236 (by decide) (by decide) (by decide) ?_
              refine ab_iload d_MO_character_237 rfl ?_
              refine zz_bipush d_MO_character_239 (by decide) ?_
              refine zz_iand 6 64 d_MO_character_241 (by decide) (by decide) (by decide) (by decide) ?_
              refine zz_bipush d_MO_character_242 (by decide) ?_
              refine zz_ishl 12 4096 d_MO_character_244 (by decide) (by decide) (by decide) ?_
              refine zz_iorX 18 262144 d_MO_character_245 (by decide) (by decide) (by omega) (by omega) ?_
              change ab_W _ _ _ G1 246 [some (vR 80), some (vR a), some (vz n), some (vz p), some (vz v3), some (vz v10), some (vz v15), some (vz v20), some (vz 0), some (vz 0), some (vz ((((v3 % 16) * 4096) + ((v10 % 64) * 64)) + (v15 % 64)))] [vz (((v3 % 8) * 262144) + ((v10 % 64) * 4096))] _
              refine ab_iload d_MO_character_246 rfl ?_
              refine zz_bipush d_MO_character_248 (by decide) ?_
              refine zz_iand 6 64 d_MO_character_250 (by decide) (by decide) (by decide) (by decide) ?_
              refine zz_bipush d_MO_character_251 (by decide) ?_
              refine zz_ishl 6 64 d_MO_character_253 (by decide) (by decide) (by decide) ?_
              refine zz_iorX 12 4096 d_MO_character_254 (by decide) (by decide) (by omega) (by omega) ?_
              change ab_W _ _ _ G1 255 [some (vR 80), some (vR a), some (vz n), some (vz p), some (vz v3), some (vz v10), some (vz v15), some (vz v20), some (vz 0), some (vz 0), some (vz ((((v3 % 16) * 4096) + ((v10 % 64) * 64)) + (v15 % 64)))] [vz ((((v3 % 8) * 262144) + ((v10 % 64) * 4096)) + ((v15 % 64) * 64))] _
              refine ab_iload d_MO_character_255 rfl ?_
              refine zz_bipush d_MO_character_257 (by decide) ?_
              refine zz_iand 6 64 d_MO_character_259 (by decide) (by decide) (by decide) (by decide) ?_
              refine zz_iorX 6 64 d_MO_character_260 (by decide) (by decide) (by omega) (by omega) ?_
              change ab_W _ _ _ G1 261 [some (vR 80), some (vR a), some (vz n), some (vz p), some (vz v3), some (vz v10), some (vz v15), some (vz v20), some (vz 0), some (vz 0), some (vz ((((v3 % 16) * 4096) + ((v10 % 64) * 64)) + (v15 % 64)))] [vz (((((v3 % 8) * 262144) + ((v10 % 64) * 4096)) + ((v15 % 64) * 64)) + (v20 % 64))] _
              refine ab_istore d_MO_character_261 (Nat.le_of_ble_eq_true rfl) (Nat.le_of_ble_eq_true rfl) rfl ?_
              change ab_W _ _ _ G1 263 [some (vR 80), some (vR a), some (vz n), some (vz p), some (vz v3), some (vz v10), some (vz v15), some (vz v20), some (vz 0), some (vz 0), some (vz (((((v3 % 8) * 262144) + ((v10 % 64) * 4096)) + ((v15 % 64) * 64)) + (v20 % 64)))] [] _
              refine ab_iload d_MO_character_263 rfl ?_
              refine zz_sipush d_MO_character_265 (by decide) ?_
              refine zz_icmp_lt (tgt := 322) d_MO_character_268 (by decide) (by omega) (by decide) (fun c32 => absurd c32 (by omega)) (fun c32 => ?_)
              refine ab_iload d_MO_character_271 rfl ?_
              refine zz_sipush d_MO_character_273 (by decide) ?_
              refine zz_icmp_ge (tgt := 322) d_MO_character_276 (by decide) (by omega) (by decide) (fun c33 => ?_) (fun c33 => ?_)
              · refine zz_iconst d_MO_character_322 ?_
                refine zz_iret rfl d_MO_character_323 ?_
                rw [hQ]; exact (Or.inl ⟨rfl, hfr, hlen, hsl, h80, (by refine Or.inr ⟨by omega, ?_⟩; rw [← hq6, ← hq13, ← hq18, ← hq23]; exact Or.inr (Or.inr (Or.inr (Or.inr ⟨by omega, by omega, by unfold cv3; omega, by unfold cv4; omega, rfl, rfl⟩))))⟩)
              · refine ab_iload d_MO_character_279 rfl ?_
                refine zz_if_eq (tgt := 322) d_MO_character_281 (by decide) (by decide) (fun c34 => ?_) (fun c34 => absurd c34 (by decide))
                refine zz_iconst d_MO_character_322 ?_
                refine zz_iret rfl d_MO_character_323 ?_
                rw [hQ]; exact (Or.inl ⟨rfl, hfr, hlen, hsl, h80, (by refine Or.inr ⟨by omega, ?_⟩; rw [← hq6, ← hq13, ← hq18, ← hq23]; exact Or.inr (Or.inr (Or.inr (Or.inr ⟨by omega, by omega, by unfold cv3; omega, by unfold cv4; omega, rfl, rfl⟩))))⟩)
            · refine ab_iload d_MO_character_194 rfl ?_
              refine zz_if_eq (tgt := 229) d_MO_character_196 (by decide) (by decide) (fun c35 => ?_) (fun c35 => absurd c35 (by decide))
              refine ab_iload d_MO_character_229 rfl ?_
              refine zz_bipush d_MO_character_231 (by decide) ?_
              refine zz_iand 3 8 d_MO_character_233 (by decide) (by decide) (by decide) (by decide) ?_
              refine zz_bipush d_MO_character_234 (by decide) ?_
              refine zz_ishl 18 262144 d_MO_character_236 (by decide) (by decide) (by decide) ?_
              refine ab_iload d_MO_character_237 rfl ?_
              refine zz_bipush d_MO_character_239 (by decide) ?_
              refine zz_iand 6 64 d_MO_character_241 (by decide) (by decide) (by decide) (by decide) ?_
              refine zz_bipush d_MO_character_242 (by decide) ?_
              refine zz_ishl 12 4096 d_MO_character_244 (by decide) (by decide) (by decide) ?_
              refine zz_iorX 18 262144 d_MO_character_245 (by decide) (by decide) (by omega) (by omega) ?_
              change ab_W _ _ _ G1 246 [some (vR 80), some (vR a), some (vz n), some (vz p), some (vz v3), some (vz v10), some (vz v15), some (vz v20), some (vz 0), some (vz 0), some (vz ((((v3 % 16) * 4096) + ((v10 % 64) * 64)) + (v15 % 64)))] [vz (((v3 % 8) * 262144) + ((v10 % 64) * 4096))] _
              refine ab_iload d_MO_character_246 rfl ?_
              refine zz_bipush d_MO_character_248 (by decide) ?_
              refine zz_iand 6 64 d_MO_character_250 (by decide) (by decide) (by decide) (by decide) ?_
              refine zz_bipush d_MO_character_251 (by decide) ?_
              refine zz_ishl 6 64 d_MO_character_253 (by decide) (by decide) (by decide) ?_
              refine zz_iorX 12 4096 d_MO_character_254 (by decide) (by decide) (by omega) (by omega) ?_
              change ab_W _ _ _ G1 255 [some (vR 80), some (vR a), some (vz n), some (vz p), some (vz v3), some (vz v10), some (vz v15), some (vz v20), some (vz 0), some (vz 0), some (vz ((((v3 % 16) * 4096) + ((v10 % 64) * 64)) + (v15 % 64)))] [vz ((((v3 % 8) * 262144) + ((v10 % 64) * 4096)) + ((v15 % 64) * 64))] _
              refine ab_iload d_MO_character_255 rfl ?_
              refine zz_bipush d_MO_character_257 (by decide) ?_
              refine zz_iand 6 64 d_MO_character_259 (by decide) (by decide) (by decide) (by decide) ?_
              refine zz_iorX 6 64 d_MO_character_260 (by decide) (by decide) (by omega) (by omega) ?_
              change ab_W _ _ _ G1 261 [some (vR 80), some (vR a), some (vz n), some (vz p), some (vz v3), some (vz v10), some (vz v15), some (vz v20), some (vz 0), some (vz 0), some (vz ((((v3 % 16) * 4096) + ((v10 % 64) * 64)) + (v15 % 64)))] [vz (((((v3 % 8) * 262144) + ((v10 % 64) * 4096)) + ((v15 % 64) * 64)) + (v20 % 64))] _
              refine ab_istore d_MO_character_261 (Nat.le_of_ble_eq_true rfl) (Nat.le_of_ble_eq_true rfl) rfl ?_
              change ab_W _ _ _ G1 263 [some (vR 80), some (vR a), some (vz n), some (vz p), some (vz v3), some (vz v10), some (vz v15), some (vz v20), some (vz 0), some (vz 0), some (vz (((((v3 % 8) * 262144) + ((v10 % 64) * 4096)) + ((v15 % 64) * 64)) + (v20 % 64)))] [] _
              refine ab_iload d_MO_character_263 rfl ?_
              refine zz_sipush d_MO_character_265 (by decide) ?_
              refine zz_icmp_lt (tgt := 322) d_MO_character_268 (by decide) (by omega) (by decide) (fun c36 => ?_) (fun c36 => absurd c36 (by omega))
              refine zz_iconst d_MO_character_322 ?_
              refine zz_iret rfl d_MO_character_323 ?_
              rw [hQ]; exact (Or.inl ⟨rfl, hfr, hlen, hsl, h80, (by refine Or.inr ⟨by omega, ?_⟩; rw [← hq6, ← hq13, ← hq18, ← hq23]; exact Or.inr (Or.inr (Or.inr (Or.inr ⟨by omega, by omega, by unfold cv3; omega, by unfold cv4; omega, rfl, rfl⟩))))⟩)
          · refine ab_iload d_MO_character_128 rfl ?_
            refine zz_if_eq (tgt := 153) d_MO_character_130 (by decide) (by decide) (fun c37 => ?_) (fun c37 => absurd c37 (by decide))
            refine ab_iload d_MO_character_153 rfl ?_
            refine zz_bipush d_MO_character_155 (by decide) ?_
            refine zz_iand 4 16 d_MO_character_157 (by decide) (by decide) (by decide) (by decide) ?_
            refine zz_bipush d_MO_character_158 (by decide) ?_
            refine zz_ishl 12 4096 d_MO_character_160 (by decide) (by decide) (by decide) ?_
            refine ab_iload d_MO_character_161 rfl ?_
            refine zz_bipush d_MO_character_163 (by decide) ?_
            refine zz_iand 6 64 d_MO_character_165 (by decide) (by decide) (by decide) (by decide) ?_
            refine zz_bipush d_MO_character_166 (by decide) ?_
            refine zz_ishl 6 64 d_MO_character_168 (by decide) (by decide) (by decide) ?_
            refine zz_iorX 12 4096 d_MO_character_169 (by decide) (by decide) (by omega) (by omega) ?_
            change ab_W _ _ _ G1 170 [some (vR 80), some (vR a), some (vz n), some (vz p), some (vz v3), some (vz v10), some (vz v15), some (vz v20), some (vz 0), some (vz 0), none] [vz (((v3 % 16) * 4096) + ((v10 % 64) * 64))] _
            refine ab_iload d_MO_character_170 rfl ?_
            refine zz_bipush d_MO_character_172 (by decide) ?_
            refine zz_iand 6 64 d_MO_character_174 (by decide) (by decide) (by decide) (by decide) ?_
            refine zz_iorX 6 64 d_MO_character_175 (by decide) (by decide) (by omega) (by omega) ?_
            change ab_W _ _ _ G1 176 [some (vR 80), some (vR a), some (vz n), some (vz p), some (vz v3), some (vz v10), some (vz v15), some (vz v20), some (vz 0), some (vz 0), none] [vz ((((v3 % 16) * 4096) + ((v10 % 64) * 64)) + (v15 % 64))] _
            refine ab_istore d_MO_character_176 (Nat.le_of_ble_eq_true rfl) (Nat.le_of_ble_eq_true rfl) rfl ?_
            change ab_W _ _ _ G1 178 [some (vR 80), some (vR a), some (vz n), some (vz p), some (vz v3), some (vz v10), some (vz v15), some (vz v20), some (vz 0), some (vz 0), some (vz ((((v3 % 16) * 4096) + ((v10 % 64) * 64)) + (v15 % 64)))] [] _
            refine ab_iload d_MO_character_178 rfl ?_
            refine zz_sipush d_MO_character_180 (by decide) ?_
            refine zz_icmp_lt (tgt := 229) d_MO_character_183 (by decide) (by omega) (by decide) (fun c38 => ?_) (fun c38 => absurd c38 (by omega))
            refine ab_iload d_MO_character_229 rfl ?_
            refine zz_bipush d_MO_character_231 (by decide) ?_
            refine zz_iand 3 8 d_MO_character_233 (by decide) (by decide) (by decide) (by decide) ?_
            refine zz_bipush d_MO_character_234 (by decide) ?_
            refine zz_ishl 18 262144 d_MO_character_236 (by decide) (by decide) (by decide) ?_
            refine ab_iload d_MO_character_237 rfl ?_
            refine zz_bipush d_MO_character_239 (by decide) ?_
            refine zz_iand 6 64 d_MO_character_241 (by decide) (by decide) (by decide) (by decide) ?_
            refine zz_bipush d_MO_character_242 (by decide) ?_
            refine zz_ishl 12 4096 d_MO_character_244 (by decide) (by decide) (by decide) ?_
            refine zz_iorX 18 262144 d_MO_character_245 (by decide) (by decide) (by omega) (by omega) ?_
            change ab_W _ _ _ G1 246 [some (vR 80), some (vR a), some (vz n), some (vz p), some (vz v3), some (vz v10), some (vz v15), some (vz v20), some (vz 0), some (vz 0), some (vz ((((v3 % 16) * 4096) + ((v10 % 64) * 64)) + (v15 % 64)))] [vz (((v3 % 8) * 262144) + ((v10 % 64) * 4096))] _
            refine ab_iload d_MO_character_246 rfl ?_
            refine zz_bipush d_MO_character_248 (by decide) ?_
            refine zz_iand 6 64 d_MO_character_250 (by decide) (by decide) (by decide) (by decide) ?_
            refine zz_bipush d_MO_character_251 (by decide) ?_
            refine zz_ishl 6 64 d_MO_character_253 (by decide) (by decide) (by decide) ?_
            refine zz_iorX 12 4096 d_MO_character_254 (by decide) (by decide) (by omega) (by omega) ?_
            change ab_W _ _ _ G1 255 [some (vR 80), some (vR a), some (vz n), some (vz p), some (vz v3), some (vz v10), some (vz v15), some (vz v20), some (vz 0), some (vz 0), some (vz ((((v3 % 16) * 4096) + ((v10 % 64) * 64)) + (v15 % 64)))] [vz ((((v3 % 8) * 262144) + ((v10 % 64) * 4096)) + ((v15 % 64) * 64))] _
            refine ab_iload d_MO_character_255 rfl ?_
            refine zz_bipush d_MO_character_257 (by decide) ?_
            refine zz_iand 6 64 d_MO_character_259 (by decide) (by decide) (by decide) (by decide) ?_
            refine zz_iorX 6 64 d_MO_character_260 (by decide) (by decide) (by omega) (by omega) ?_
            change ab_W _ _ _ G1 261 [some (vR 80), some (vR a), some (vz n), some (vz p), some (vz v3), some (vz v10), some (vz v15), some (vz v20), some (vz 0), some (vz 0), some (vz ((((v3 % 16) * 4096) + ((v10 % 64) * 64)) + (v15 % 64)))] [vz (((((v3 % 8) * 262144) + ((v10 % 64) * 4096)) + ((v15 % 64) * 64)) + (v20 % 64))] _
            refine ab_istore d_MO_character_261 (Nat.le_of_ble_eq_true rfl) (Nat.le_of_ble_eq_true rfl) rfl ?_
            change ab_W _ _ _ G1 263 [some (vR 80), some (vR a), some (vz n), some (vz p), some (vz v3), some (vz v10), some (vz v15), some (vz v20), some (vz 0), some (vz 0), some (vz (((((v3 % 8) * 262144) + ((v10 % 64) * 4096)) + ((v15 % 64) * 64)) + (v20 % 64)))] [] _
            refine ab_iload d_MO_character_263 rfl ?_
            refine zz_sipush d_MO_character_265 (by decide) ?_
            refine zz_icmp_lt (tgt := 322) d_MO_character_268 (by decide) (by omega) (by decide) (fun c39 => ?_) (fun c39 => absurd c39 (by omega))
            refine zz_iconst d_MO_character_322 ?_
            refine zz_iret rfl d_MO_character_323 ?_
            rw [hQ]; exact (Or.inl ⟨rfl, hfr, hlen, hsl, h80, (by refine Or.inr ⟨by omega, ?_⟩; rw [← hq6, ← hq13, ← hq18, ← hq23]; exact Or.inr (Or.inr (Or.inr (Or.inr ⟨by omega, by omega, by unfold cv3; omega, by unfold cv4; omega, rfl, rfl⟩))))⟩)
      · refine ab_iload d_MO_character_69 rfl ?_
        refine zz_sipush d_MO_character_71 (by decide) ?_
        refine zz_icmp_ge (tgt := 81) d_MO_character_74 (by decide) (by omega) (by decide) (fun c40 => ?_) (fun c40 => ?_)
        · refine zz_iconst d_MO_character_81 ?_
          refine ab_istore d_MO_character_82 (Nat.le_of_ble_eq_true rfl) (Nat.le_of_ble_eq_true rfl) rfl ?_
          change ab_W _ _ _ G1 84 [some (vR 80), some (vR a), some (vz n), some (vz p), some (vz v3), some (vz v10), some (vz v15), some (vz v20), some (vz 0), none, none] [] _
          refine ab_iload d_MO_character_84 rfl ?_
          refine zz_if_eq (tgt := 109) d_MO_character_86 (by decide) (by decide) (fun c41 => ?_) (fun c41 => absurd c41 (by decide))
          refine zz_iconst d_MO_character_109 ?_
          refine ab_istore d_MO_character_110 (Nat.le_of_ble_eq_true rfl) (Nat.le_of_ble_eq_true rfl) rfl ?_
          change ab_W _ _ _ G1 112 [some (vR 80), some (vR a), some (vz n), some (vz p), some (vz v3), some (vz v10), some (vz v15), some (vz v20), some (vz 0), some (vz 0), none] [] _
          refine ab_iload d_MO_character_112 rfl ?_
          refine zz_sipush d_MO_character_114 (by decide) ?_
          refine zz_icmp_lt (tgt := 153) d_MO_character_117 (by decide) (by omega) (by decide) (fun c42 => ?_) (fun c42 => ?_)
          · refine ab_iload d_MO_character_153 rfl ?_
            refine zz_bipush d_MO_character_155 (by decide) ?_
            refine zz_iand 4 16 d_MO_character_157 (by decide) (by decide) (by decide) (by decide) ?_
            refine zz_bipush d_MO_character_158 (by decide) ?_
            refine zz_ishl 12 4096 d_MO_character_160 (by decide) (by decide) (by decide) ?_
            refine ab_iload d_MO_character_161 rfl ?_
            refine zz_bipush d_MO_character_163 (by decide) ?_
            refine zz_iand 6 64 d_MO_character_165 (by decide) (by decide) (by decide) (by decide) ?_
            refine zz_bipush d_MO_character_166 (by decide) ?_
            refine zz_ishl 6 64 d_MO_character_168 (by decide) (by decide) (by decide) ?_
            refine zz_iorX 12 4096 d_MO_character_169 (by decide) (by decide) (by omega) (by omega) ?_
            change ab_W _ _ _ G1 170 [some (vR 80), some (vR a), some (vz n), some (vz p), some (vz v3), some (vz v10), some (vz v15), some (vz v20), some (vz 0), some (vz 0), none] [vz (((v3 % 16) * 4096) + ((v10 % 64) * 64))] _
            refine ab_iload d_MO_character_170 rfl ?_
            refine zz_bipush d_MO_character_172 (by decide) ?_
            refine zz_iand 6 64 d_MO_character_174 (by decide) (by decide) (by decide) (by decide) ?_
            refine zz_iorX 6 64 d_MO_character_175 (by decide) (by decide) (by omega) (by omega) ?_
            change ab_W _ _ _ G1 176 [some (vR 80), some (vR a), some (vz n), some (vz p), some (vz v3), some (vz v10), some (vz v15), some (vz v20), some (vz 0), some (vz 0), none] [vz ((((v3 % 16) * 4096) + ((v10 % 64) * 64)) + (v15 % 64))] _
            refine ab_istore d_MO_character_176 (Nat.le_of_ble_eq_true rfl) (Nat.le_of_ble_eq_true rfl) rfl ?_
            change ab_W _ _ _ G1 178 [some (vR 80), some (vR a), some (vz n), some (vz p), some (vz v3), some (vz v10), some (vz v15), some (vz v20), some (vz 0), some (vz 0), some (vz ((((v3 % 16) * 4096) + ((v10 % 64) * 64)) + (v15 % 64)))] [] _
            refine ab_iload d_MO_character_178 rfl ?_
            refine zz_sipush d_MO_character_180 (by decide) ?_
            refine zz_icmp_lt (tgt := 229) d_MO_character_183 (by decide) (by omega) (by decide) (fun c43 => ?_) (fun c43 => absurd c43 (by omega))
            refine ab_iload d_MO_character_229 rfl ?_
            refine zz_bipush d_MO_character_231 (by decide) ?_
            refine zz_iand 3 8 d_MO_character_233 (by decide) (by decide) (by decide) (by decide) ?_
            refine zz_bipush d_MO_character_234 (by decide) ?_
            refine zz_ishl 18 262144 d_MO_character_236 (by decide) (by decide) (by decide) ?_
            refine ab_iload d_MO_character_237 rfl ?_
            refine zz_bipush d_MO_character_239 (by decide) ?_
            refine zz_iand 6 64 d_MO_character_241 (by decide) (by decide) (by decide) (by decide) ?_
            refine zz_bipush d_MO_character_242 (by decide) ?_
            refine zz_ishl 12 4096 d_MO_character_244 (by decide) (by decide) (by decide) ?_
            refine zz_iorX 18 262144 d_MO_character_245 (by decide) (by decide) (by omega) (by omega) ?_
            change ab_W _ _ _ G1 246 [some (vR 80), some (vR a), some (vz n), some (vz p), some (vz v3), some (vz v10), some (vz v15), some (vz v20), some (vz 0), some (vz 0), some (vz ((((v3 % 16) * 4096) + ((v10 % 64) * 64)) + (v15 % 64)))] [vz (((v3 % 8) * 262144) + ((v10 % 64) * 4096))] _
            refine ab_iload d_MO_character_246 rfl ?_
            refine zz_bipush d_MO_character_248 (by decide) ?_
            refine zz_iand 6 64 d_MO_character_250 (by decide) (by decide) (by decide) (by decide) ?_
            refine zz_bipush d_MO_character_251 (by decide) ?_
            refine zz_ishl 6 64 d_MO_character_253 (by decide) (by decide) (by decide) ?_
            refine zz_iorX 12 4096 d_MO_character_254 (by decide) (by decide) (by omega) (by omega) ?_
            change ab_W _ _ _ G1 255 [some (vR 80), some (vR a), some (vz n), some (vz p), some (vz v3), some (vz v10), some (vz v15), some (vz v20), some (vz 0), some (vz 0), some (vz ((((v3 % 16) * 4096) + ((v10 % 64) * 64)) + (v15 % 64)))] [vz ((((v3 % 8) * 262144) + ((v10 % 64) * 4096)) + ((v15 % 64) * 64))] _
            refine ab_iload d_MO_character_255 rfl ?_
            refine zz_bipush d_MO_character_257 (by decide) ?_
            refine zz_iand 6 64 d_MO_character_259 (by decide) (by decide) (by decide) (by decide) ?_
            refine zz_iorX 6 64 d_MO_character_260 (by decide) (by decide) (by omega) (by omega) ?_
            change ab_W _ _ _ G1 261 [some (vR 80), some (vR a), some (vz n), some (vz p), some (vz v3), some (vz v10), some (vz v15), some (vz v20), some (vz 0), some (vz 0), some (vz ((((v3 % 16) * 4096) + ((v10 % 64) * 64)) + (v15 % 64)))] [vz (((((v3 % 8) * 262144) + ((v10 % 64) * 4096)) + ((v15 % 64) * 64)) + (v20 % 64))] _
            refine ab_istore d_MO_character_261 (Nat.le_of_ble_eq_true rfl) (Nat.le_of_ble_eq_true rfl) rfl ?_
            change ab_W _ _ _ G1 263 [some (vR 80), some (vR a), some (vz n), some (vz p), some (vz v3), some (vz v10), some (vz v15), some (vz v20), some (vz 0), some (vz 0), some (vz (((((v3 % 8) * 262144) + ((v10 % 64) * 4096)) + ((v15 % 64) * 64)) + (v20 % 64)))] [] _
            refine ab_iload d_MO_character_263 rfl ?_
            refine zz_sipush d_MO_character_265 (by decide) ?_
            refine zz_icmp_lt (tgt := 322) d_MO_character_268 (by decide) (by omega) (by decide) (fun c44 => ?_) (fun c44 => absurd c44 (by omega))
            refine zz_iconst d_MO_character_322 ?_
            refine zz_iret rfl d_MO_character_323 ?_
            rw [hQ]; exact (Or.inl ⟨rfl, hfr, hlen, hsl, h80, (by refine Or.inr ⟨by omega, ?_⟩; rw [← hq6, ← hq13, ← hq18, ← hq23]; exact Or.inr (Or.inr (Or.inr (Or.inr ⟨by omega, by omega, by unfold cv3; omega, by unfold cv4; omega, rfl, rfl⟩))))⟩)
          · refine ab_iload d_MO_character_120 rfl ?_
            refine zz_sipush d_MO_character_122 (by decide) ?_
            refine zz_icmp_ge (tgt := 153) d_MO_character_125 (by decide) (by omega) (by decide) (fun c45 => ?_) (fun c45 => ?_)
            · refine ab_iload d_MO_character_153 rfl ?_
              refine zz_bipush d_MO_character_155 (by decide) ?_
              refine zz_iand 4 16 d_MO_character_157 (by decide) (by decide) (by decide) (by decide) ?_
              refine zz_bipush d_MO_character_158 (by decide) ?_
              refine zz_ishl 12 4096 d_MO_character_160 (by decide) (by decide) (by decide) ?_
              refine ab_iload d_MO_character_161 rfl ?_
              refine zz_bipush d_MO_character_163 (by decide) ?_
              refine zz_iand 6 64 d_MO_character_165 (by decide) (by decide) (by decide) (by decide) ?_
              refine zz_bipush d_MO_character_166 (by decide) ?_
              refine zz_ishl 6 64 d_MO_character_168 (by decide) (by decide) (by decide) ?_
              refine zz_iorX 12 4096 d_MO_character_169 (by decide) (by decide) (by omega) (by omega) ?_
              change ab_W _ _ _ G1 170 [some (vR 80), some (vR a), some (vz n), some (vz p), some (vz v3), some (vz v10), some (vz v15), some (vz v20), some (vz 0), some (vz 0), none] [vz (((v3 % 16) * 4096) + ((v10 % 64) * 64))] _
              refine ab_iload d_MO_character_170 rfl ?_
              refine zz_bipush d_MO_character_172 (by decide) ?_
              refine zz_iand 6 64 d_MO_character_174 (by decide) (by decide) (by decide) (by decide) ?_
              refine zz_iorX 6 64 d_MO_character_175 (by decide) (by decide) (by omega) (by omega) ?_
              change ab_W _ _ _ G1 176 [some (vR 80), some (vR a), some (vz n), some (vz p), some (vz v3), some (vz v10), some (vz v15), some (vz v20), some (vz 0), some (vz 0), none] [vz ((((v3 % 16) * 4096) + ((v10 % 64) * 64)) + (v15 % 64))] _
              refine ab_istore d_MO_character_176 (Nat.le_of_ble_eq_true rfl) (Nat.le_of_ble_eq_true rfl) rfl ?_
              change ab_W _ _ _ G1 178 [some (vR 80), some (vR a), some (vz n), some (vz p), some (vz v3), some (vz v10), some (vz v15), some (vz v20), some (vz 0), some (vz 0), some (vz ((((v3 % 16) * 4096) + ((v10 % 64) * 64)) + (v15 % 64)))] [] _
              refine ab_iload d_MO_character_178 rfl ?_
              refine zz_sipush d_MO_character_180 (by decide) ?_
              refine zz_icmp_lt (tgt := 229) d_MO_character_183 (by decide) (by omega) (by decide) (fun c46 => absurd c46 (by omega)) (fun c46 => ?_)
              refine ab_iload d_MO_character_186 rfl ?_
              refine zz_sipush d_MO_character_188 (by decide) ?_
              refine zz_icmp_ge (tgt := 229) d_MO_character_191 (by decide) (by omega) (by decide) (fun c47 => ?_) (fun c47 => ?_)
              · refine ab_iload d_MO_character_229 rfl ?_
                refine zz_bipush d_MO_character_231 (by decide) ?_
                refine zz_iand 3 8 d_MO_character_233 (by decide) (by decide) (by decide) (by decide) ?_
                refine zz_bipush d_MO_character_234 (by decide) ?_
                refine zz_ishl 18 262144 d_MO_character_236 (by decide) (by decide) (by decide) ?_
                refine ab_iload d_MO_character_237 rfl ?_
                refine zz_bipush d_MO_character_239 (by decide) ?_
                refine zz_iand 6 64 d_MO_character_241 (by decide) (by decide) (by decide) (by decide) ?_
                refine zz_bipush d_MO_character_242 (by decide) ?_
                refine zz_ishl 12 4096 d_MO_character_244 (by decide) (by decide) (by decide) ?_
                refine zz_iorX 18 262144 d_MO_character_245 (by decide) (by decide) (by omega) (by omega) ?_
                change ab_W _ _ _ G1 246 [some (vR 80), some (vR a), some (vz n), some (vz p), some (vz v3), some (vz v10), some (vz v15), some (vz v20), some (vz 0), some (vz 0), some (vz ((((v3 % 16) * 4096) + ((v10 % 64) * 64)) + (v15 % 64)))] [vz (((v3 % 8) * 262144) + ((v10 % 64) * 4096))] _
                refine ab_iload d_MO_character_246 rfl ?_
                refine zz_bipush d_MO_character_248 (by decide) ?_
                refine zz_iand 6 64 d_MO_character_250 (by decide) (by decide) (by decide) (by decide) ?_
                refine zz_bipush d_MO_character_251 (by decide) ?_
                refine zz_ishl 6 64 d_MO_character_253 (by decide) (by decide) (by decide) ?_
                refine zz_iorX 12 4096 d_MO_character_254 (by decide) (by decide) (by omega) (by omega) ?_
                change ab_W _ _ _ G1 255 [some (vR 80), some (vR a), some (vz n), some (vz p), some (vz v3), some (vz v10), some (vz v15), some (vz v20), some (vz 0), some (vz 0), some (vz ((((v3 % 16) * 4096) + ((v10 % 64) * 64)) + (v15 % 64)))] [vz ((((v3 % 8) * 262144) + ((v10 % 64) * 4096)) + ((v15 % 64) * 64))] _
                refine ab_iload d_MO_character_255 rfl ?_
                refine zz_bipush d_MO_character_257 (by decide) ?_
                refine zz_iand 6 64 d_MO_character_259 (by decide) (by decide) (by decide) (by decide) ?_
                refine zz_iorX 6 64 d_MO_character_260 (by decide) (by decide) (by omega) (by omega) ?_
                change ab_W _ _ _ G1 261 [some (vR 80), some (vR a), some (vz n), some (vz p), some (vz v3), some (vz v10), some (vz v15), some (vz v20), some (vz 0), some (vz 0), some (vz ((((v3 % 16) * 4096) + ((v10 % 64) * 64)) + (v15 % 64)))] [vz (((((v3 % 8) * 262144) + ((v10 % 64) * 4096)) + ((v15 % 64) * 64)) + (v20 % 64))] _
                refine ab_istore d_MO_character_261 (Nat.le_of_ble_eq_true rfl) (Nat.le_of_ble_eq_true rfl) rfl ?_
                change ab_W _ _ _ G1 263 [some (vR 80), some (vR a), some (vz n), some (vz p), some (vz v3), some (vz v10), some (vz v15), some (vz v20), some (vz 0), some (vz 0), some (vz (((((v3 % 8) * 262144) + ((v10 % 64) * 4096)) + ((v15 % 64) * 64)) + (v20 % 64)))] [] _
                refine ab_iload d_MO_character_263 rfl ?_
                refine zz_sipush d_MO_character_265 (by decide) ?_
                refine zz_icmp_lt (tgt := 322) d_MO_character_268 (by decide) (by omega) (by decide) (fun c48 => absurd c48 (by omega)) (fun c48 => ?_)
                refine ab_iload d_MO_character_271 rfl ?_
                refine zz_sipush d_MO_character_273 (by decide) ?_
                refine zz_icmp_ge (tgt := 322) d_MO_character_276 (by decide) (by omega) (by decide) (fun c49 => ?_) (fun c49 => ?_)
                · refine zz_iconst d_MO_character_322 ?_
                  refine zz_iret rfl d_MO_character_323 ?_
                  rw [hQ]; exact (Or.inl ⟨rfl, hfr, hlen, hsl, h80, (by refine Or.inr ⟨by omega, ?_⟩; rw [← hq6, ← hq13, ← hq18, ← hq23]; exact Or.inr (Or.inr (Or.inr (Or.inr ⟨by omega, by omega, by unfold cv3; omega, by unfold cv4; omega, rfl, rfl⟩))))⟩)
                · refine ab_iload d_MO_character_279 rfl ?_
                  refine zz_if_eq (tgt := 322) d_MO_character_281 (by decide) (by decide) (fun c50 => ?_) (fun c50 => absurd c50 (by decide))
                  refine zz_iconst d_MO_character_322 ?_
                  refine zz_iret rfl d_MO_character_323 ?_
                  rw [hQ]; exact (Or.inl ⟨rfl, hfr, hlen, hsl, h80, (by refine Or.inr ⟨by omega, ?_⟩; rw [← hq6, ← hq13, ← hq18, ← hq23]; exact Or.inr (Or.inr (Or.inr (Or.inr ⟨by omega, by omega, by unfold cv3; omega, by unfold cv4; omega, rfl, rfl⟩))))⟩)
              · refine ab_iload d_MO_character_194 rfl ?_
                refine zz_if_eq (tgt := 229) d_MO_character_196 (by decide) (by decide) (fun c51 => ?_) (fun c51 => absurd c51 (by decide))
                refine ab_iload d_MO_character_229 rfl ?_
                refine zz_bipush d_MO_character_231 (by decide) ?_
                refine zz_iand 3 8 d_MO_character_233 (by decide) (by decide) (by decide) (by decide) ?_
                refine zz_bipush d_MO_character_234 (by decide) ?_
                refine zz_ishl 18 262144 d_MO_character_236 (by decide) (by decide) (by decide) ?_
                refine ab_iload d_MO_character_237 rfl ?_
                refine zz_bipush d_MO_character_239 (by decide) ?_
                refine zz_iand 6 64 d_MO_character_241 (by decide) (by decide) (by decide) (by decide) ?_
                refine zz_bipush d_MO_character_242 (by decide) ?_
                refine zz_ishl 12 4096 d_MO_character_244 (by decide) (by decide) (by decide) ?_
                refine zz_iorX 18 262144 d_MO_character_245 (by decide) (by decide) (by omega) (by omega) ?_
                change ab_W _ _ _ G1 246 [some (vR 80), some (vR a), some (vz n), some (vz p), some (vz v3), some (vz v10), some (vz v15), some (vz v20), some (vz 0), some (vz 0), some (vz ((((v3 % 16) * 4096) + ((v10 % 64) * 64)) + (v15 % 64)))] [vz (((v3 % 8) * 262144) + ((v10 % 64) * 4096))] _
                refine ab_iload d_MO_character_246 rfl ?_
                refine zz_bipush d_MO_character_248 (by decide) ?_
                refine zz_iand 6 64 d_MO_character_250 (by decide) (by decide) (by decide) (by decide) ?_
                refine zz_bipush d_MO_character_251 (by decide) ?_
                refine zz_ishl 6 64 d_MO_character_253 (by decide) (by decide) (by decide) ?_
                refine zz_iorX 12 4096 d_MO_character_254 (by decide) (by decide) (by omega) (by omega) ?_
                change ab_W _ _ _ G1 255 [some (vR 80), some (vR a), some (vz n), some (vz p), some (vz v3), some (vz v10), some (vz v15), some (vz v20), some (vz 0), some (vz 0), some (vz ((((v3 % 16) * 4096) + ((v10 % 64) * 64)) + (v15 % 64)))] [vz ((((v3 % 8) * 262144) + ((v10 % 64) * 4096)) + ((v15 % 64) * 64))] _
                refine ab_iload d_MO_character_255 rfl ?_
                refine zz_bipush d_MO_character_257 (by decide) ?_
                refine zz_iand 6 64 d_MO_character_259 (by decide) (by decide) (by decide) (by decide) ?_
                refine zz_iorX 6 64 d_MO_character_260 (by decide) (by decide) (by omega) (by omega) ?_
                change ab_W _ _ _ G1 261 [some (vR 80), some (vR a), some (vz n), some (vz p), some (vz v3), some (vz v10), some (vz v15), some (vz v20), some (vz 0), some (vz 0), some (vz ((((v3 % 16) * 4096) + ((v10 % 64) * 64)) + (v15 % 64)))] [vz (((((v3 % 8) * 262144) + ((v10 % 64) * 4096)) + ((v15 % 64) * 64)) + (v20 % 64))] _
                refine ab_istore d_MO_character_261 (Nat.le_of_ble_eq_true rfl) (Nat.le_of_ble_eq_true rfl) rfl ?_
                change ab_W _ _ _ G1 263 [some (vR 80), some (vR a), some (vz n), some (vz p), some (vz v3), some (vz v10), some (vz v15), some (vz v20), some (vz 0), some (vz 0), some (vz (((((v3 % 8) * 262144) + ((v10 % 64) * 4096)) + ((v15 % 64) * 64)) + (v20 % 64)))] [] _
                refine ab_iload d_MO_character_263 rfl ?_
                refine zz_sipush d_MO_character_265 (by decide) ?_
                refine zz_icmp_lt (tgt := 322) d_MO_character_268 (by decide) (by omega) (by decide) (fun c52 => ?_) (fun c52 => absurd c52 (by omega))
                refine zz_iconst d_MO_character_322 ?_
                refine zz_iret rfl d_MO_character_323 ?_
                rw [hQ]; exact (Or.inl ⟨rfl, hfr, hlen, hsl, h80, (by refine Or.inr ⟨by omega, ?_⟩; rw [← hq6, ← hq13, ← hq18, ← hq23]; exact Or.inr (Or.inr (Or.inr (Or.inr ⟨by omega, by omega, by unfold cv3; omega, by unfold cv4; omega, rfl, rfl⟩))))⟩)
            · refine ab_iload d_MO_character_128 rfl ?_
              refine zz_if_eq (tgt := 153) d_MO_character_130 (by decide) (by decide) (fun c53 => ?_) (fun c53 => absurd c53 (by decide))
              refine ab_iload d_MO_character_153 rfl ?_
              refine zz_bipush d_MO_character_155 (by decide) ?_
              refine zz_iand 4 16 d_MO_character_157 (by decide) (by decide) (by decide) (by decide) ?_
              refine zz_bipush d_MO_character_158 (by decide) ?_
              refine zz_ishl 12 4096 d_MO_character_160 (by decide) (by decide) (by decide) ?_
              refine ab_iload d_MO_character_161 rfl ?_
              refine zz_bipush d_MO_character_163 (by decide) ?_
              refine zz_iand 6 64 d_MO_character_165 (by decide) (by decide) (by decide) (by decide) ?_
              refine zz_bipush d_MO_character_166 (by decide) ?_
              refine zz_ishl 6 64 d_MO_character_168 (by decide) (by decide) (by decide) ?_
              refine zz_iorX 12 4096 d_MO_character_169 (by decide) (by decide) (by omega) (by omega) ?_
              change ab_W _ _ _ G1 170 [some (vR 80), some (vR a), some (vz n), some (vz p), some (vz v3), some (vz v10), some (vz v15), some (vz v20), some (vz 0), some (vz 0), none] [vz (((v3 % 16) * 4096) + ((v10 % 64) * 64))] _
              refine ab_iload d_MO_character_170 rfl ?_
              refine zz_bipush d_MO_character_172 (by decide) ?_
              refine zz_iand 6 64 d_MO_character_174 (by decide) (by decide) (by decide) (by decide) ?_
              refine zz_iorX 6 64 d_MO_character_175 (by decide) (by decide) (by omega) (by omega) ?_
              change ab_W _ _ _ G1 176 [some (vR 80), some (vR a), some (vz n), some (vz p), some (vz v3), some (vz v10), some (vz v15), some (vz v20), some (vz 0), some (vz 0), none] [vz ((((v3 % 16) * 4096) + ((v10 % 64) * 64)) + (v15 % 64))] _
              refine ab_istore d_MO_character_176 (Nat.le_of_ble_eq_true rfl) (Nat.le_of_ble_eq_true rfl) rfl ?_
              change ab_W _ _ _ G1 178 [some (vR 80), some (vR a), some (vz n), some (vz p), some (vz v3), some (vz v10), some (vz v15), some (vz v20), some (vz 0), some (vz 0), some (vz ((((v3 % 16) * 4096) + ((v10 % 64) * 64)) + (v15 % 64)))] [] _
              refine ab_iload d_MO_character_178 rfl ?_
              refine zz_sipush d_MO_character_180 (by decide) ?_
              refine zz_icmp_lt (tgt := 229) d_MO_character_183 (by decide) (by omega) (by decide) (fun c54 => ?_) (fun c54 => absurd c54 (by omega))
              refine ab_iload d_MO_character_229 rfl ?_
              refine zz_bipush d_MO_character_231 (by decide) ?_
              refine zz_iand 3 8 d_MO_character_233 (by decide) (by decide) (by decide) (by decide) ?_
              refine zz_bipush d_MO_character_234 (by decide) ?_
              refine zz_ishl 18 262144 d_MO_character_236 (by decide) (by decide) (by decide) ?_
              refine ab_iload d_MO_character_237 rfl ?_
              refine zz_bipush d_MO_character_239 (by decide) ?_
              refine zz_iand 6 64 d_MO_character_241 (by decide) (by decide) (by decide) (by decide) ?_
              refine zz_bipush d_MO_character_242 (by decide) ?_
              refine zz_ishl 12 4096 d_MO_character_244 (by decide) (by decide) (by decide) ?_
              refine zz_iorX 18 262144 d_MO_character_245 (by decide) (by decide) (by omega) (by omega) ?_
              change ab_W _ _ _ G1 246 [some (vR 80), some (vR a), some (vz n), some (vz p), some (vz v3), some (vz v10), some (vz v15), some (vz v20), some (vz 0), some (vz 0), some (vz ((((v3 % 16) * 4096) + ((v10 % 64) * 64)) + (v15 % 64)))] [vz (((v3 % 8) * 262144) + ((v10 % 64) * 4096))] _
              refine ab_iload d_MO_character_246 rfl ?_
              refine zz_bipush d_MO_character_248 (by decide) ?_
              refine zz_iand 6 64 d_MO_character_250 (by decide) (by decide) (by decide) (by decide) ?_
              refine zz_bipush d_MO_character_251 (by decide) ?_
              refine zz_ishl 6 64 d_MO_character_253 (by decide) (by decide) (by decide) ?_
              refine zz_iorX 12 4096 d_MO_character_254 (by decide) (by decide) (by omega) (by omega) ?_
              change ab_W _ _ _ G1 255 [some (vR 80), some (vR a), some (vz n), some (vz p), some (vz v3), some (vz v10), some (vz v15), some (vz v20), some (vz 0), some (vz 0), some (vz ((((v3 % 16) * 4096) + ((v10 % 64) * 64)) + (v15 % 64)))] [vz ((((v3 % 8) * 262144) + ((v10 % 64) * 4096)) + ((v15 % 64) * 64))] _
              refine ab_iload d_MO_character_255 rfl ?_
              refine zz_bipush d_MO_character_257 (by decide) ?_
              refine zz_iand 6 64 d_MO_character_259 (by decide) (by decide) (by decide) (by decide) ?_
              refine zz_iorX 6 64 d_MO_character_260 (by decide) (by decide) (by omega) (by omega) ?_
              change ab_W _ _ _ G1 261 [some (vR 80), some (vR a), some (vz n), some (vz p), some (vz v3), some (vz v10), some (vz v15), some (vz v20), some (vz 0), some (vz 0), some (vz ((((v3 % 16) * 4096) + ((v10 % 64) * 64)) + (v15 % 64)))] [vz (((((v3 % 8) * 262144) + ((v10 % 64) * 4096)) + ((v15 % 64) * 64)) + (v20 % 64))] _
              refine ab_istore d_MO_character_261 (Nat.le_of_ble_eq_true rfl) (Nat.le_of_ble_eq_true rfl) rfl ?_
              change ab_W _ _ _ G1 263 [some (vR 80), some (vR a), some (vz n), some (vz p), some (vz v3), some (vz v10), some (vz v15), some (vz v20), some (vz 0), some (vz 0), some (vz (((((v3 % 8) * 262144) + ((v10 % 64) * 4096)) + ((v15 % 64) * 64)) + (v20 % 64)))] [] _
              refine ab_iload d_MO_character_263 rfl ?_
              refine zz_sipush d_MO_character_265 (by decide) ?_
              refine zz_icmp_lt (tgt := 322) d_MO_character_268 (by decide) (by omega) (by decide) (fun c55 => ?_) (fun c55 => absurd c55 (by omega))
              refine zz_iconst d_MO_character_322 ?_
              refine zz_iret rfl d_MO_character_323 ?_
              rw [hQ]; exact (Or.inl ⟨rfl, hfr, hlen, hsl, h80, (by refine Or.inr ⟨by omega, ?_⟩; rw [← hq6, ← hq13, ← hq18, ← hq23]; exact Or.inr (Or.inr (Or.inr (Or.inr ⟨by omega, by omega, by unfold cv3; omega, by unfold cv4; omega, rfl, rfl⟩))))⟩)
        · refine zz_iconst d_MO_character_77 ?_
          refine ab_goto (tgt := 82) d_MO_character_78 (by decide) ?_
          refine ab_istore d_MO_character_82 (Nat.le_of_ble_eq_true rfl) (Nat.le_of_ble_eq_true rfl) rfl ?_
          change ab_W _ _ _ G1 84 [some (vR 80), some (vR a), some (vz n), some (vz p), some (vz v3), some (vz v10), some (vz v15), some (vz v20), some (vz 1), none, none] [] _
          refine ab_iload d_MO_character_84 rfl ?_
          refine zz_if_eq (tgt := 109) d_MO_character_86 (by decide) (by decide) (fun c56 => absurd c56 (by decide)) (fun c56 => ?_)
          refine ab_iload d_MO_character_89 rfl ?_
          refine zz_sipush d_MO_character_91 (by decide) ?_
          refine zz_icmp_lt (tgt := 109) d_MO_character_94 (by decide) (by omega) (by decide) (fun c57 => ?_) (fun c57 => ?_)
          · refine zz_iconst d_MO_character_109 ?_
            refine ab_istore d_MO_character_110 (Nat.le_of_ble_eq_true rfl) (Nat.le_of_ble_eq_true rfl) rfl ?_
            change ab_W _ _ _ G1 112 [some (vR 80), some (vR a), some (vz n), some (vz p), some (vz v3), some (vz v10), some (vz v15), some (vz v20), some (vz 1), some (vz 0), none] [] _
            refine ab_iload d_MO_character_112 rfl ?_
            refine zz_sipush d_MO_character_114 (by decide) ?_
            refine zz_icmp_lt (tgt := 153) d_MO_character_117 (by decide) (by omega) (by decide) (fun c58 => ?_) (fun c58 => ?_)
            · refine ab_iload d_MO_character_153 rfl ?_
              refine zz_bipush d_MO_character_155 (by decide) ?_
              refine zz_iand 4 16 d_MO_character_157 (by decide) (by decide) (by decide) (by decide) ?_
              refine zz_bipush d_MO_character_158 (by decide) ?_
              refine zz_ishl 12 4096 d_MO_character_160 (by decide) (by decide) (by decide) ?_
              refine ab_iload d_MO_character_161 rfl ?_
              refine zz_bipush d_MO_character_163 (by decide) ?_
              refine zz_iand 6 64 d_MO_character_165 (by decide) (by decide) (by decide) (by decide) ?_
              refine zz_bipush d_MO_character_166 (by decide) ?_
              refine zz_ishl 6 64 d_MO_character_168 (by decide) (by decide) (by decide) ?_
              refine zz_iorX 12 4096 d_MO_character_169 (by decide) (by decide) (by omega) (by omega) ?_
              change ab_W _ _ _ G1 170 [some (vR 80), some (vR a), some (vz n), some (vz p), some (vz v3), some (vz v10), some (vz v15), some (vz v20), some (vz 1), some (vz 0), none] [vz (((v3 % 16) * 4096) + ((v10 % 64) * 64))] _
              refine ab_iload d_MO_character_170 rfl ?_
              refine zz_bipush d_MO_character_172 (by decide) ?_
              refine zz_iand 6 64 d_MO_character_174 (by decide) (by decide) (by decide) (by decide) ?_
              refine zz_iorX 6 64 d_MO_character_175 (by decide) (by decide) (by omega) (by omega) ?_
              change ab_W _ _ _ G1 176 [some (vR 80), some (vR a), some (vz n), some (vz p), some (vz v3), some (vz v10), some (vz v15), some (vz v20), some (vz 1), some (vz 0), none] [vz ((((v3 % 16) * 4096) + ((v10 % 64) * 64)) + (v15 % 64))] _
              refine ab_istore d_MO_character_176 (Nat.le_of_ble_eq_true rfl) (Nat.le_of_ble_eq_true rfl) rfl ?_
              change ab_W _ _ _ G1 178 [some (vR 80), some (vR a), some (vz n), some (vz p), some (vz v3), some (vz v10), some (vz v15), some (vz v20), some (vz 1), some (vz 0), some (vz ((((v3 % 16) * 4096) + ((v10 % 64) * 64)) + (v15 % 64)))] [] _
              refine ab_iload d_MO_character_178 rfl ?_
              refine zz_sipush d_MO_character_180 (by decide) ?_
              refine zz_icmp_lt (tgt := 229) d_MO_character_183 (by decide) (by omega) (by decide) (fun c59 => ?_) (fun c59 => absurd c59 (by omega))
              refine ab_iload d_MO_character_229 rfl ?_
              refine zz_bipush d_MO_character_231 (by decide) ?_
              refine zz_iand 3 8 d_MO_character_233 (by decide) (by decide) (by decide) (by decide) ?_
              refine zz_bipush d_MO_character_234 (by decide) ?_
              refine zz_ishl 18 262144 d_MO_character_236 (by decide) (by decide) (by decide) ?_
              refine ab_iload d_MO_character_237 rfl ?_
              refine zz_bipush d_MO_character_239 (by decide) ?_
              refine zz_iand 6 64 d_MO_character_241 (by decide) (by decide) (by decide) (by decide) ?_
              refine zz_bipush d_MO_character_242 (by decide) ?_
              refine zz_ishl 12 4096 d_MO_character_244 (by decide) (by decide) (by decide) ?_
              refine zz_iorX 18 262144 d_MO_character_245 (by decide) (by decide) (by omega) (by omega) ?_
              change ab_W _ _ _ G1 246 [some (vR 80), some (vR a), some (vz n), some (vz p), some (vz v3), some (vz v10), some (vz v15), some (vz v20), some (vz 1), some (vz 0), some (vz ((((v3 % 16) * 4096) + ((v10 % 64) * 64)) + (v15 % 64)))] [vz (((v3 % 8) * 262144) + ((v10 % 64) * 4096))] _
              refine ab_iload d_MO_character_246 rfl ?_
              refine zz_bipush d_MO_character_248 (by decide) ?_
              refine zz_iand 6 64 d_MO_character_250 (by decide) (by decide) (by decide) (by decide) ?_
              refine zz_bipush d_MO_character_251 (by decide) ?_
              refine zz_ishl 6 64 d_MO_character_253 (by decide) (by decide) (by decide) ?_
              refine zz_iorX 12 4096 d_MO_character_254 (by decide) (by decide) (by omega) (by omega) ?_
              change ab_W _ _ _ G1 255 [some (vR 80), some (vR a), some (vz n), some (vz p), some (vz v3), some (vz v10), some (vz v15), some (vz v20), some (vz 1), some (vz 0), some (vz ((((v3 % 16) * 4096) + ((v10 % 64) * 64)) + (v15 % 64)))] [vz ((((v3 % 8) * 262144) + ((v10 % 64) * 4096)) + ((v15 % 64) * 64))] _
              refine ab_iload d_MO_character_255 rfl ?_
              refine zz_bipush d_MO_character_257 (by decide) ?_
              refine zz_iand 6 64 d_MO_character_259 (by decide) (by decide) (by decide) (by decide) ?_
              refine zz_iorX 6 64 d_MO_character_260 (by decide) (by decide) (by omega) (by omega) ?_
              change ab_W _ _ _ G1 261 [some (vR 80), some (vR a), some (vz n), some (vz p), some (vz v3), some (vz v10), some (vz v15), some (vz v20), some (vz 1), some (vz 0), some (vz ((((v3 % 16) * 4096) + ((v10 % 64) * 64)) + (v15 % 64)))] [vz (((((v3 % 8) * 262144) + ((v10 % 64) * 4096)) + ((v15 % 64) * 64)) + (v20 % 64))] _
              refine ab_istore d_MO_character_261 (Nat.le_of_ble_eq_true rfl) (Nat.le_of_ble_eq_true rfl) rfl ?_
              change ab_W _ _ _ G1 263 [some (vR 80), some (vR a), some (vz n), some (vz p), some (vz v3), some (vz v10), some (vz v15), some (vz v20), some (vz 1), some (vz 0), some (vz (((((v3 % 8) * 262144) + ((v10 % 64) * 4096)) + ((v15 % 64) * 64)) + (v20 % 64)))] [] _
              refine ab_iload d_MO_character_263 rfl ?_
              refine zz_sipush d_MO_character_265 (by decide) ?_
              refine zz_icmp_lt (tgt := 322) d_MO_character_268 (by decide) (by omega) (by decide) (fun c60 => ?_) (fun c60 => absurd c60 (by omega))
              refine zz_iconst d_MO_character_322 ?_
              refine zz_iret rfl d_MO_character_323 ?_
              rw [hQ]; exact (Or.inl ⟨rfl, hfr, hlen, hsl, h80, (by refine Or.inr ⟨by omega, ?_⟩; rw [← hq6, ← hq13, ← hq18, ← hq23]; exact Or.inr (Or.inr (Or.inr (Or.inr ⟨by omega, by omega, by unfold cv3; omega, by unfold cv4; omega, rfl, rfl⟩))))⟩)
            · refine ab_iload d_MO_character_120 rfl ?_
              refine zz_sipush d_MO_character_122 (by decide) ?_
              refine zz_icmp_ge (tgt := 153) d_MO_character_125 (by decide) (by omega) (by decide) (fun c61 => ?_) (fun c61 => ?_)
              · refine ab_iload d_MO_character_153 rfl ?_
                refine zz_bipush d_MO_character_155 (by decide) ?_
                refine zz_iand 4 16 d_MO_character_157 (by decide) (by decide) (by decide) (by decide) ?_
                refine zz_bipush d_MO_character_158 (by decide) ?_
                refine zz_ishl 12 4096 d_MO_character_160 (by decide) (by decide) (by decide) ?_
                refine ab_iload d_MO_character_161 rfl ?_
                refine zz_bipush d_MO_character_163 (by decide) ?_
                refine zz_iand 6 64 d_MO_character_165 (by decide) (by decide) (by decide) (by decide) ?_
                refine zz_bipush d_MO_character_166 (by decide) ?_
                refine zz_ishl 6 64 d_MO_character_168 (by decide) (by decide) (by decide) ?_
                refine zz_iorX 12 4096 d_MO_character_169 (by decide) (by decide) (by omega) (by omega) ?_
                change ab_W _ _ _ G1 170 [some (vR 80), some (vR a), some (vz n), some (vz p), some (vz v3), some (vz v10), some (vz v15), some (vz v20), some (vz 1), some (vz 0), none] [vz (((v3 % 16) * 4096) + ((v10 % 64) * 64))] _
                refine ab_iload d_MO_character_170 rfl ?_
                refine zz_bipush d_MO_character_172 (by decide) ?_
                refine zz_iand 6 64 d_MO_character_174 (by decide) (by decide) (by decide) (by decide) ?_
                refine zz_iorX 6 64 d_MO_character_175 (by decide) (by decide) (by omega) (by omega) ?_
                change ab_W _ _ _ G1 176 [some (vR 80), some (vR a), some (vz n), some (vz p), some (vz v3), some (vz v10), some (vz v15), some (vz v20), some (vz 1), some (vz 0), none] [vz ((((v3 % 16) * 4096) + ((v10 % 64) * 64)) + (v15 % 64))] _
                refine ab_istore d_MO_character_176 (Nat.le_of_ble_eq_true rfl) (Nat.le_of_ble_eq_true rfl) rfl ?_
                change ab_W _ _ _ G1 178 [some (vR 80), some (vR a), some (vz n), some (vz p), some (vz v3), some (vz v10), some (vz v15), some (vz v20), some (vz 1), some (vz 0), some (vz ((((v3 % 16) * 4096) + ((v10 % 64) * 64)) + (v15 % 64)))] [] _
                refine ab_iload d_MO_character_178 rfl ?_
                refine zz_sipush d_MO_character_180 (by decide) ?_
                refine zz_icmp_lt (tgt := 229) d_MO_character_183 (by decide) (by omega) (by decide) (fun c62 => absurd c62 (by omega)) (fun c62 => ?_)
                refine ab_iload d_MO_character_186 rfl ?_
                refine zz_sipush d_MO_character_188 (by decide) ?_
                refine zz_icmp_ge (tgt := 229) d_MO_character_191 (by decide) (by omega) (by decide) (fun c63 => ?_) (fun c63 => ?_)
                · refine ab_iload d_MO_character_229 rfl ?_
                  refine zz_bipush d_MO_character_231 (by decide) ?_
                  refine zz_iand 3 8 d_MO_character_233 (by decide) (by decide) (by decide) (by decide) ?_
                  refine zz_bipush d_MO_character_234 (by decide) ?_
                  refine zz_ishl 18 262144 d_MO_character_236 (by decide) (by decide) (by decide) ?_
                  refine ab_iload d_MO_character_237 rfl ?_
                  refine zz_bipush d_MO_character_239 (by decide) ?_
                  refine zz_iand 6 64 d_MO_character_241 (by decide) (by decide) (by decide) (by decide) ?_
                  refine zz_bipush d_MO_character_242 (by decide) ?_
                  refine zz_ishl 12 4096 d_MO_character_244 (by decide) (by decide) (by decide) ?_
                  refine zz_iorX 18 262144 d_MO_character_245 (by decide) (by decide) (by omega) (by omega) ?_
                  change ab_W _ _ _ G1 246 [some (vR 80), some (vR a), some (vz n), some (vz p), some (vz v3), some (vz v10), some (vz v15), some (vz v20), some (vz 1), some (vz 0), some (vz ((((v3 % 16) * 4096) + ((v10 % 64) * 64)) + (v15 % 64)))] [vz (((v3 % 8) * 262144) + ((v10 % 64) * 4096))] _
                  refine ab_iload d_MO_character_246 rfl ?_
                  refine zz_bipush d_MO_character_248 (by decide) ?_
                  refine zz_iand 6 64 d_MO_character_250 (by decide) (by decide) (by decide) (by decide) ?_
                  refine zz_bipush d_MO_character_251 (by decide) ?_
                  refine zz_ishl 6 64 d_MO_character_253 (by decide) (by decide) (by decide) ?_
                  refine zz_iorX 12 4096 d_MO_character_254 (by decide) (by decide) (by omega) (by omega) ?_
                  change ab_W _ _ _ G1 255 [some (vR 80), some (vR a), some (vz n), some (vz p), some (vz v3), some (vz v10), some (vz v15), some (vz v20), some (vz 1), some (vz 0), some (vz ((((v3 % 16) * 4096) + ((v10 % 64) * 64)) + (v15 % 64)))] [vz ((((v3 % 8) * 262144) + ((v10 % 64) * 4096)) + ((v15 % 64) * 64))] _
                  refine ab_iload d_MO_character_255 rfl ?_
                  refine zz_bipush d_MO_character_257 (by decide) ?_
                  refine zz_iand 6 64 d_MO_character_259 (by decide) (by decide) (by decide) (by decide) ?_
                  refine zz_iorX 6 64 d_MO_character_260 (by decide) (by decide) (by omega) (by omega) ?_
                  change ab_W _ _ _ G1 261 [some (vR 80), some (vR a), some (vz n), some (vz p), some (vz v3), some (vz v10), some (vz v15), some (vz v20), some (vz 1), some (vz 0), some (vz ((((v3 % 16) * 4096) + ((v10 % 64) * 64)) + (v15 % 64)))] [vz (((((v3 % 8) * 262144) + ((v10 % 64) * 4096)) + ((v15 % 64) * 64)) + (v20 % 64))] _
                  refine ab_istore d_MO_character_261 (Nat.le_of_ble_eq_true rfl) (Nat.le_of_ble_eq_true rfl) rfl ?_
                  change ab_W _ _ _ G1 263 [some (vR 80), some (vR a), some (vz n), some (vz p), some (vz v3), some (vz v10), some (vz v15), some (vz v20), some (vz 1), some (vz 0), some (vz (((((v3 % 8) * 262144) + ((v10 % 64) * 4096)) + ((v15 % 64) * 64)) + (v20 % 64)))] [] _
                  refine ab_iload d_MO_character_263 rfl ?_
                  refine zz_sipush d_MO_character_265 (by decide) ?_
                  refine zz_icmp_lt (tgt := 322) d_MO_character_268 (by decide) (by omega) (by decide) (fun c64 => absurd c64 (by omega)) (fun c64 => ?_)
                  refine ab_iload d_MO_character_271 rfl ?_
                  refine zz_sipush d_MO_character_273 (by decide) ?_
                  refine zz_icmp_ge (tgt := 322) d_MO_character_276 (by decide) (by omega) (by decide) (fun c65 => ?_) (fun c65 => ?_)
                  · refine zz_iconst d_MO_character_322 ?_
                    refine zz_iret rfl d_MO_character_323 ?_
                    rw [hQ]; exact (Or.inl ⟨rfl, hfr, hlen, hsl, h80, (by refine Or.inr ⟨by omega, ?_⟩; rw [← hq6, ← hq13, ← hq18, ← hq23]; exact Or.inr (Or.inr (Or.inr (Or.inr ⟨by omega, by omega, by unfold cv3; omega, by unfold cv4; omega, rfl, rfl⟩))))⟩)
                  · refine ab_iload d_MO_character_279 rfl ?_
                    refine zz_if_eq (tgt := 322) d_MO_character_281 (by decide) (by decide) (fun c66 => ?_) (fun c66 => absurd c66 (by decide))
                    refine zz_iconst d_MO_character_322 ?_
                    refine zz_iret rfl d_MO_character_323 ?_
                    rw [hQ]; exact (Or.inl ⟨rfl, hfr, hlen, hsl, h80, (by refine Or.inr ⟨by omega, ?_⟩; rw [← hq6, ← hq13, ← hq18, ← hq23]; exact Or.inr (Or.inr (Or.inr (Or.inr ⟨by omega, by omega, by unfold cv3; omega, by unfold cv4; omega, rfl, rfl⟩))))⟩)
                · refine ab_iload d_MO_character_194 rfl ?_
                  refine zz_if_eq (tgt := 229) d_MO_character_196 (by decide) (by decide) (fun c67 => ?_) (fun c67 => absurd c67 (by decide))
                  refine ab_iload d_MO_character_229 rfl ?_
                  refine zz_bipush d_MO_character_231 (by decide) ?_
                  refine zz_iand 3 8 d_MO_character_233 (by decide) (by decide) (by decide) (by decide) ?_
                  refine zz_bipush d_MO_character_234 (by decide) ?_
                  refine zz_ishl 18 262144 d_MO_character_236 (by decide) (by decide) (by decide) ?_
                  refine ab_iload d_MO_character_237 rfl ?_
                  refine zz_bipush d_MO_character_239 (by decide) ?_
                  refine zz_iand 6 64 d_MO_character_241 (by decide) (by decide) (by decide) (by decide) ?_
                  refine zz_bipush d_MO_character_242 (by decide) ?_
                  refine zz_ishl 12 4096 d_MO_character_244 (by decide) (by decide) (by decide) ?_
                  refine zz_iorX 18 262144 d_MO_character_245 (by decide) (by decide) (by omega) (by omega) ?_
                  change ab_W _ _ _ G1 246 [some (vR 80), some (vR a), some (vz n), some (vz p), some (vz v3), some (vz v10), some (vz v15), some (vz v20), some (vz 1), some (vz 0), some (vz ((((v3 % 16) * 4096) + ((v10 % 64) * 64)) + (v15 % 64)))] [vz (((v3 % 8) * 262144) + ((v10 % 64) * 4096))] _
                  refine ab_iload d_MO_character_246 rfl ?_
                  refine zz_bipush d_MO_character_248 (by decide) ?_
                  refine zz_iand 6 64 d_MO_character_250 (by decide) (by decide) (by decide) (by decide) ?_
                  refine zz_bipush d_MO_character_251 (by decide) ?_
                  refine zz_ishl 6 64 d_MO_character_253 (by decide) (by decide) (by decide) ?_
                  refine zz_iorX 12 4096 d_MO_character_254 (by decide) (by decide) (by omega) (by omega) ?_
                  change ab_W _ _ _ G1 255 [some (vR 80), some (vR a), some (vz n), some (vz p), some (vz v3), some (vz v10), some (vz v15), some (vz v20), some (vz 1), some (vz 0), some (vz ((((v3 % 16) * 4096) + ((v10 % 64) * 64)) + (v15 % 64)))] [vz ((((v3 % 8) * 262144) + ((v10 % 64) * 4096)) + ((v15 % 64) * 64))] _
                  refine ab_iload d_MO_character_255 rfl ?_
                  refine zz_bipush d_MO_character_257 (by decide) ?_
                  refine zz_iand 6 64 d_MO_character_259 (by decide) (by decide) (by decide) (by decide) ?_
                  refine zz_iorX 6 64 d_MO_character_260 (by decide) (by decide) (by omega) (by omega) ?_
                  change ab_W _ _ _ G1 261 [some (vR 80), some (vR a), some (vz n), some (vz p), some (vz v3), some (vz v10), some (vz v15), some (vz v20), some (vz 1), some (vz 0), some (vz ((((v3 % 16) * 4096) + ((v10 % 64) * 64)) + (v15 % 64)))] [vz (((((v3 % 8) * 262144) + ((v10 % 64) * 4096)) + ((v15 % 64) * 64)) + (v20 % 64))] _
                  refine ab_istore d_MO_character_261 (Nat.le_of_ble_eq_true rfl) (Nat.le_of_ble_eq_true rfl) rfl ?_
                  change ab_W _ _ _ G1 263 [some (vR 80), some (vR a), some (vz n), some (vz p), some (vz v3), some (vz v10), some (vz v15), some (vz v20), some (vz 1), some (vz 0), some (vz (((((v3 % 8) * 262144) + ((v10 % 64) * 4096)) + ((v15 % 64) * 64)) + (v20 % 64)))] [] _
                  refine ab_iload d_MO_character_263 rfl ?_
                  refine zz_sipush d_MO_character_265 (by decide) ?_
                  refine zz_icmp_lt (tgt := 322) d_MO_character_268 (by decide) (by omega) (by decide) (fun c68 => ?_) (fun c68 => absurd c68 (by omega))
                  refine zz_iconst d_MO_character_322 ?_
                  refine zz_iret rfl d_MO_character_323 ?_
                  rw [hQ]; exact (Or.inl ⟨rfl, hfr, hlen, hsl, h80, (by refine Or.inr ⟨by omega, ?_⟩; rw [← hq6, ← hq13, ← hq18, ← hq23]; exact Or.inr (Or.inr (Or.inr (Or.inr ⟨by omega, by omega, by unfold cv3; omega, by unfold cv4; omega, rfl, rfl⟩))))⟩)
              · refine ab_iload d_MO_character_128 rfl ?_
                refine zz_if_eq (tgt := 153) d_MO_character_130 (by decide) (by decide) (fun c69 => absurd c69 (by decide)) (fun c69 => ?_)
                refine ab_aload_n d_MO_character_133 rfl ?_
                refine zz_iconst d_MO_character_134 ?_
                refine ab_putf (fs := mof m_thrown m_taped m_length m_out 1 m_gathered m_sets m_ranges m_nodes m_at m_flags m_fault m_place m_numbered m_depth m_value m_isNot m_least0 m_most0 m_slot m_work m_got m_rowMany m_charAt m_charWide m_trail m_isMatch m_matchGroups m_allFrom m_allBefore m_founds m_pieces m_writtenMany m_templateWide m_tooMuch) f_MO_226 (Or.inl rfl) d_MO_character_135 h80.2.2 (Nat.le_of_ble_eq_true rfl) (fun _ => ⟨rfl, rfl⟩) (h80.2.1 (by decide)) ?_
                obtain ⟨G70, eG70⟩ : ∃ z : ab_G, z = List.set G1 80 (ab_ob 12 (mof m_thrown m_taped m_length m_out 2 m_gathered m_sets m_ranges m_nodes m_at m_flags m_fault m_place m_numbered m_depth m_value m_isNot m_least0 m_most0 m_slot m_work m_got m_rowMany m_charAt m_charWide m_trail m_isMatch m_matchGroups m_allFrom m_allBefore m_founds m_pieces m_writtenMany m_templateWide m_tooMuch)) := ⟨_, rfl⟩
                have ha := ha.keep h80 eG70 (by omega)
                have hlen := (z_len eG70).trans hlen
                have hsl := (z_sl h80 eG70 rfl).trans hsl
                have hfr := hfr.wr h80 eG70 (by decide)
                have h80 := h80.kept eG70
                change ab_W _ _ _ (List.set G1 80 (ab_ob 12 (mof m_thrown m_taped m_length m_out 2 m_gathered m_sets m_ranges m_nodes m_at m_flags m_fault m_place m_numbered m_depth m_value m_isNot m_least0 m_most0 m_slot m_work m_got m_rowMany m_charAt m_charWide m_trail m_isMatch m_matchGroups m_allFrom m_allBefore m_founds m_pieces m_writtenMany m_templateWide m_tooMuch))) 138 [some (vR 80), some (vR a), some (vz n), some (vz p), some (vz v3), some (vz v10), some (vz v15), some (vz v20), some (vz 1), some (vz 0), none] [] _
                rw [← eG70]
                refine ab_iload d_MO_character_138 rfl ?_
                refine zz_bipush d_MO_character_140 (by decide) ?_
                refine zz_iand 5 32 d_MO_character_142 (by decide) (by decide) (by decide) (by decide) ?_
                refine zz_bipush d_MO_character_143 (by decide) ?_
                refine zz_ishl 6 64 d_MO_character_145 (by decide) (by decide) (by decide) ?_
                refine ab_iload d_MO_character_146 rfl ?_
                refine zz_bipush d_MO_character_148 (by decide) ?_
                refine zz_iand 6 64 d_MO_character_150 (by decide) (by decide) (by decide) (by decide) ?_
                refine zz_iorX 6 64 d_MO_character_151 (by decide) (by decide) (by omega) (by omega) ?_
                change ab_W _ _ _ G70 152 [some (vR 80), some (vR a), some (vz n), some (vz p), some (vz v3), some (vz v10), some (vz v15), some (vz v20), some (vz 1), some (vz 0), none] [vz (((v3 % 32) * 64) + (v10 % 64))] _
                refine zz_iret rfl d_MO_character_152 ?_
                rw [hQ]; exact (Or.inr ⟨_, _, rfl, hfr, hlen, hsl, h80, (by omega), (by refine Or.inr ⟨by omega, ?_⟩; rw [← hq6, ← hq13, ← hq18, ← hq23]; exact Or.inr (Or.inl ⟨by omega, by omega, by omega, rfl⟩))⟩)
          · refine ab_iload d_MO_character_97 rfl ?_
            refine zz_sipush d_MO_character_99 (by decide) ?_
            refine zz_icmp_ge (tgt := 109) d_MO_character_102 (by decide) (by omega) (by decide) (fun c71 => ?_) (fun c71 => ?_)
            · refine zz_iconst d_MO_character_109 ?_
              refine ab_istore d_MO_character_110 (Nat.le_of_ble_eq_true rfl) (Nat.le_of_ble_eq_true rfl) rfl ?_
              change ab_W _ _ _ G1 112 [some (vR 80), some (vR a), some (vz n), some (vz p), some (vz v3), some (vz v10), some (vz v15), some (vz v20), some (vz 1), some (vz 0), none] [] _
              refine ab_iload d_MO_character_112 rfl ?_
              refine zz_sipush d_MO_character_114 (by decide) ?_
              refine zz_icmp_lt (tgt := 153) d_MO_character_117 (by decide) (by omega) (by decide) (fun c72 => ?_) (fun c72 => ?_)
              · refine ab_iload d_MO_character_153 rfl ?_
                refine zz_bipush d_MO_character_155 (by decide) ?_
                refine zz_iand 4 16 d_MO_character_157 (by decide) (by decide) (by decide) (by decide) ?_
                refine zz_bipush d_MO_character_158 (by decide) ?_
                refine zz_ishl 12 4096 d_MO_character_160 (by decide) (by decide) (by decide) ?_
                refine ab_iload d_MO_character_161 rfl ?_
                refine zz_bipush d_MO_character_163 (by decide) ?_
                refine zz_iand 6 64 d_MO_character_165 (by decide) (by decide) (by decide) (by decide) ?_
                refine zz_bipush d_MO_character_166 (by decide) ?_
                refine zz_ishl 6 64 d_MO_character_168 (by decide) (by decide) (by decide) ?_
                refine zz_iorX 12 4096 d_MO_character_169 (by decide) (by decide) (by omega) (by omega) ?_
                change ab_W _ _ _ G1 170 [some (vR 80), some (vR a), some (vz n), some (vz p), some (vz v3), some (vz v10), some (vz v15), some (vz v20), some (vz 1), some (vz 0), none] [vz (((v3 % 16) * 4096) + ((v10 % 64) * 64))] _
                refine ab_iload d_MO_character_170 rfl ?_
                refine zz_bipush d_MO_character_172 (by decide) ?_
                refine zz_iand 6 64 d_MO_character_174 (by decide) (by decide) (by decide) (by decide) ?_
                refine zz_iorX 6 64 d_MO_character_175 (by decide) (by decide) (by omega) (by omega) ?_
                change ab_W _ _ _ G1 176 [some (vR 80), some (vR a), some (vz n), some (vz p), some (vz v3), some (vz v10), some (vz v15), some (vz v20), some (vz 1), some (vz 0), none] [vz ((((v3 % 16) * 4096) + ((v10 % 64) * 64)) + (v15 % 64))] _
                refine ab_istore d_MO_character_176 (Nat.le_of_ble_eq_true rfl) (Nat.le_of_ble_eq_true rfl) rfl ?_
                change ab_W _ _ _ G1 178 [some (vR 80), some (vR a), some (vz n), some (vz p), some (vz v3), some (vz v10), some (vz v15), some (vz v20), some (vz 1), some (vz 0), some (vz ((((v3 % 16) * 4096) + ((v10 % 64) * 64)) + (v15 % 64)))] [] _
                refine ab_iload d_MO_character_178 rfl ?_
                refine zz_sipush d_MO_character_180 (by decide) ?_
                refine zz_icmp_lt (tgt := 229) d_MO_character_183 (by decide) (by omega) (by decide) (fun c73 => ?_) (fun c73 => absurd c73 (by omega))
                refine ab_iload d_MO_character_229 rfl ?_
                refine zz_bipush d_MO_character_231 (by decide) ?_
                refine zz_iand 3 8 d_MO_character_233 (by decide) (by decide) (by decide) (by decide) ?_
                refine zz_bipush d_MO_character_234 (by decide) ?_
                refine zz_ishl 18 262144 d_MO_character_236 (by decide) (by decide) (by decide) ?_
                refine ab_iload d_MO_character_237 rfl ?_
                refine zz_bipush d_MO_character_239 (by decide) ?_
                refine zz_iand 6 64 d_MO_character_241 (by decide) (by decide) (by decide) (by decide) ?_
                refine zz_bipush d_MO_character_242 (by decide) ?_
                refine zz_ishl 12 4096 d_MO_character_244 (by decide) (by decide) (by decide) ?_
                refine zz_iorX 18 262144 d_MO_character_245 (by decide) (by decide) (by omega) (by omega) ?_
                change ab_W _ _ _ G1 246 [some (vR 80), some (vR a), some (vz n), some (vz p), some (vz v3), some (vz v10), some (vz v15), some (vz v20), some (vz 1), some (vz 0), some (vz ((((v3 % 16) * 4096) + ((v10 % 64) * 64)) + (v15 % 64)))] [vz (((v3 % 8) * 262144) + ((v10 % 64) * 4096))] _
                refine ab_iload d_MO_character_246 rfl ?_
                refine zz_bipush d_MO_character_248 (by decide) ?_
                refine zz_iand 6 64 d_MO_character_250 (by decide) (by decide) (by decide) (by decide) ?_
                refine zz_bipush d_MO_character_251 (by decide) ?_
                refine zz_ishl 6 64 d_MO_character_253 (by decide) (by decide) (by decide) ?_
                refine zz_iorX 12 4096 d_MO_character_254 (by decide) (by decide) (by omega) (by omega) ?_
                change ab_W _ _ _ G1 255 [some (vR 80), some (vR a), some (vz n), some (vz p), some (vz v3), some (vz v10), some (vz v15), some (vz v20), some (vz 1), some (vz 0), some (vz ((((v3 % 16) * 4096) + ((v10 % 64) * 64)) + (v15 % 64)))] [vz ((((v3 % 8) * 262144) + ((v10 % 64) * 4096)) + ((v15 % 64) * 64))] _
                refine ab_iload d_MO_character_255 rfl ?_
                refine zz_bipush d_MO_character_257 (by decide) ?_
                refine zz_iand 6 64 d_MO_character_259 (by decide) (by decide) (by decide) (by decide) ?_
                refine zz_iorX 6 64 d_MO_character_260 (by decide) (by decide) (by omega) (by omega) ?_
                change ab_W _ _ _ G1 261 [some (vR 80), some (vR a), some (vz n), some (vz p), some (vz v3), some (vz v10), some (vz v15), some (vz v20), some (vz 1), some (vz 0), some (vz ((((v3 % 16) * 4096) + ((v10 % 64) * 64)) + (v15 % 64)))] [vz (((((v3 % 8) * 262144) + ((v10 % 64) * 4096)) + ((v15 % 64) * 64)) + (v20 % 64))] _
                refine ab_istore d_MO_character_261 (Nat.le_of_ble_eq_true rfl) (Nat.le_of_ble_eq_true rfl) rfl ?_
                change ab_W _ _ _ G1 263 [some (vR 80), some (vR a), some (vz n), some (vz p), some (vz v3), some (vz v10), some (vz v15), some (vz v20), some (vz 1), some (vz 0), some (vz (((((v3 % 8) * 262144) + ((v10 % 64) * 4096)) + ((v15 % 64) * 64)) + (v20 % 64)))] [] _
                refine ab_iload d_MO_character_263 rfl ?_
                refine zz_sipush d_MO_character_265 (by decide) ?_
                refine zz_icmp_lt (tgt := 322) d_MO_character_268 (by decide) (by omega) (by decide) (fun c74 => ?_) (fun c74 => absurd c74 (by omega))
                refine zz_iconst d_MO_character_322 ?_
                refine zz_iret rfl d_MO_character_323 ?_
                rw [hQ]; exact (Or.inl ⟨rfl, hfr, hlen, hsl, h80, (by refine Or.inr ⟨by omega, ?_⟩; rw [← hq6, ← hq13, ← hq18, ← hq23]; exact Or.inr (Or.inr (Or.inr (Or.inr ⟨by omega, by omega, by unfold cv3; omega, by unfold cv4; omega, rfl, rfl⟩))))⟩)
              · refine ab_iload d_MO_character_120 rfl ?_
                refine zz_sipush d_MO_character_122 (by decide) ?_
                refine zz_icmp_ge (tgt := 153) d_MO_character_125 (by decide) (by omega) (by decide) (fun c75 => ?_) (fun c75 => ?_)
                · refine ab_iload d_MO_character_153 rfl ?_
                  refine zz_bipush d_MO_character_155 (by decide) ?_
                  refine zz_iand 4 16 d_MO_character_157 (by decide) (by decide) (by decide) (by decide) ?_
                  refine zz_bipush d_MO_character_158 (by decide) ?_
                  refine zz_ishl 12 4096 d_MO_character_160 (by decide) (by decide) (by decide) ?_
                  refine ab_iload d_MO_character_161 rfl ?_
                  refine zz_bipush d_MO_character_163 (by decide) ?_
                  refine zz_iand 6 64 d_MO_character_165 (by decide) (by decide) (by decide) (by decide) ?_
                  refine zz_bipush d_MO_character_166 (by decide) ?_
                  refine zz_ishl 6 64 d_MO_character_168 (by decide) (by decide) (by decide) ?_
                  refine zz_iorX 12 4096 d_MO_character_169 (by decide) (by decide) (by omega) (by omega) ?_
                  change ab_W _ _ _ G1 170 [some (vR 80), some (vR a), some (vz n), some (vz p), some (vz v3), some (vz v10), some (vz v15), some (vz v20), some (vz 1), some (vz 0), none] [vz (((v3 % 16) * 4096) + ((v10 % 64) * 64))] _
                  refine ab_iload d_MO_character_170 rfl ?_
                  refine zz_bipush d_MO_character_172 (by decide) ?_
                  refine zz_iand 6 64 d_MO_character_174 (by decide) (by decide) (by decide) (by decide) ?_
                  refine zz_iorX 6 64 d_MO_character_175 (by decide) (by decide) (by omega) (by omega) ?_
                  change ab_W _ _ _ G1 176 [some (vR 80), some (vR a), some (vz n), some (vz p), some (vz v3), some (vz v10), some (vz v15), some (vz v20), some (vz 1), some (vz 0), none] [vz ((((v3 % 16) * 4096) + ((v10 % 64) * 64)) + (v15 % 64))] _
                  refine ab_istore d_MO_character_176 (Nat.le_of_ble_eq_true rfl) (Nat.le_of_ble_eq_true rfl) rfl ?_
                  change ab_W _ _ _ G1 178 [some (vR 80), some (vR a), some (vz n), some (vz p), some (vz v3), some (vz v10), some (vz v15), some (vz v20), some (vz 1), some (vz 0), some (vz ((((v3 % 16) * 4096) + ((v10 % 64) * 64)) + (v15 % 64)))] [] _
                  refine ab_iload d_MO_character_178 rfl ?_
                  refine zz_sipush d_MO_character_180 (by decide) ?_
                  refine zz_icmp_lt (tgt := 229) d_MO_character_183 (by decide) (by omega) (by decide) (fun c76 => absurd c76 (by omega)) (fun c76 => ?_)
                  refine ab_iload d_MO_character_186 rfl ?_
                  refine zz_sipush d_MO_character_188 (by decide) ?_
                  refine zz_icmp_ge (tgt := 229) d_MO_character_191 (by decide) (by omega) (by decide) (fun c77 => ?_) (fun c77 => ?_)
                  · refine ab_iload d_MO_character_229 rfl ?_
                    refine zz_bipush d_MO_character_231 (by decide) ?_
                    refine zz_iand 3 8 d_MO_character_233 (by decide) (by decide) (by decide) (by decide) ?_
                    refine zz_bipush d_MO_character_234 (by decide) ?_
                    refine zz_ishl 18 262144 d_MO_character_236 (by decide) (by decide) (by decide) ?_
                    refine ab_iload d_MO_character_237 rfl ?_
                    refine zz_bipush d_MO_character_239 (by decide) ?_
                    refine zz_iand 6 64 d_MO_character_241 (by decide) (by decide) (by decide) (by decide) ?_
                    refine zz_bipush d_MO_character_242 (by decide) ?_
                    refine zz_ishl 12 4096 d_MO_character_244 (by decide) (by decide) (by decide) ?_
                    refine zz_iorX 18 262144 d_MO_character_245 (by decide) (by decide) (by omega) (by omega) ?_
                    change ab_W _ _ _ G1 246 [some (vR 80), some (vR a), some (vz n), some (vz p), some (vz v3), some (vz v10), some (vz v15), some (vz v20), some (vz 1), some (vz 0), some (vz ((((v3 % 16) * 4096) + ((v10 % 64) * 64)) + (v15 % 64)))] [vz (((v3 % 8) * 262144) + ((v10 % 64) * 4096))] _
                    refine ab_iload d_MO_character_246 rfl ?_
                    refine zz_bipush d_MO_character_248 (by decide) ?_
                    refine zz_iand 6 64 d_MO_character_250 (by decide) (by decide) (by decide) (by decide) ?_
                    refine zz_bipush d_MO_character_251 (by decide) ?_
                    refine zz_ishl 6 64 d_MO_character_253 (by decide) (by decide) (by decide) ?_
                    refine zz_iorX 12 4096 d_MO_character_254 (by decide) (by decide) (by omega) (by omega) ?_
                    change ab_W _ _ _ G1 255 [some (vR 80), some (vR a), some (vz n), some (vz p), some (vz v3), some (vz v10), some (vz v15), some (vz v20), some (vz 1), some (vz 0), some (vz ((((v3 % 16) * 4096) + ((v10 % 64) * 64)) + (v15 % 64)))] [vz ((((v3 % 8) * 262144) + ((v10 % 64) * 4096)) + ((v15 % 64) * 64))] _
                    refine ab_iload d_MO_character_255 rfl ?_
                    refine zz_bipush d_MO_character_257 (by decide) ?_
                    refine zz_iand 6 64 d_MO_character_259 (by decide) (by decide) (by decide) (by decide) ?_
                    refine zz_iorX 6 64 d_MO_character_260 (by decide) (by decide) (by omega) (by omega) ?_
                    change ab_W _ _ _ G1 261 [some (vR 80), some (vR a), some (vz n), some (vz p), some (vz v3), some (vz v10), some (vz v15), some (vz v20), some (vz 1), some (vz 0), some (vz ((((v3 % 16) * 4096) + ((v10 % 64) * 64)) + (v15 % 64)))] [vz (((((v3 % 8) * 262144) + ((v10 % 64) * 4096)) + ((v15 % 64) * 64)) + (v20 % 64))] _
                    refine ab_istore d_MO_character_261 (Nat.le_of_ble_eq_true rfl) (Nat.le_of_ble_eq_true rfl) rfl ?_
                    change ab_W _ _ _ G1 263 [some (vR 80), some (vR a), some (vz n), some (vz p), some (vz v3), some (vz v10), some (vz v15), some (vz v20), some (vz 1), some (vz 0), some (vz (((((v3 % 8) * 262144) + ((v10 % 64) * 4096)) + ((v15 % 64) * 64)) + (v20 % 64)))] [] _
                    refine ab_iload d_MO_character_263 rfl ?_
                    refine zz_sipush d_MO_character_265 (by decide) ?_
                    refine zz_icmp_lt (tgt := 322) d_MO_character_268 (by decide) (by omega) (by decide) (fun c78 => absurd c78 (by omega)) (fun c78 => ?_)
                    refine ab_iload d_MO_character_271 rfl ?_
                    refine zz_sipush d_MO_character_273 (by decide) ?_
                    refine zz_icmp_ge (tgt := 322) d_MO_character_276 (by decide) (by omega) (by decide) (fun c79 => ?_) (fun c79 => ?_)
                    · refine zz_iconst d_MO_character_322 ?_
                      refine zz_iret rfl d_MO_character_323 ?_
                      rw [hQ]; exact (Or.inl ⟨rfl, hfr, hlen, hsl, h80, (by refine Or.inr ⟨by omega, ?_⟩; rw [← hq6, ← hq13, ← hq18, ← hq23]; exact Or.inr (Or.inr (Or.inr (Or.inr ⟨by omega, by omega, by unfold cv3; omega, by unfold cv4; omega, rfl, rfl⟩))))⟩)
                    · refine ab_iload d_MO_character_279 rfl ?_
                      refine zz_if_eq (tgt := 322) d_MO_character_281 (by decide) (by decide) (fun c80 => ?_) (fun c80 => absurd c80 (by decide))
                      refine zz_iconst d_MO_character_322 ?_
                      refine zz_iret rfl d_MO_character_323 ?_
                      rw [hQ]; exact (Or.inl ⟨rfl, hfr, hlen, hsl, h80, (by refine Or.inr ⟨by omega, ?_⟩; rw [← hq6, ← hq13, ← hq18, ← hq23]; exact Or.inr (Or.inr (Or.inr (Or.inr ⟨by omega, by omega, by unfold cv3; omega, by unfold cv4; omega, rfl, rfl⟩))))⟩)
                  · refine ab_iload d_MO_character_194 rfl ?_
                    refine zz_if_eq (tgt := 229) d_MO_character_196 (by decide) (by decide) (fun c81 => ?_) (fun c81 => absurd c81 (by decide))
                    refine ab_iload d_MO_character_229 rfl ?_
                    refine zz_bipush d_MO_character_231 (by decide) ?_
                    refine zz_iand 3 8 d_MO_character_233 (by decide) (by decide) (by decide) (by decide) ?_
                    refine zz_bipush d_MO_character_234 (by decide) ?_
                    refine zz_ishl 18 262144 d_MO_character_236 (by decide) (by decide) (by decide) ?_
                    refine ab_iload d_MO_character_237 rfl ?_
                    refine zz_bipush d_MO_character_239 (by decide) ?_
                    refine zz_iand 6 64 d_MO_character_241 (by decide) (by decide) (by decide) (by decide) ?_
                    refine zz_bipush d_MO_character_242 (by decide) ?_
                    refine zz_ishl 12 4096 d_MO_character_244 (by decide) (by decide) (by decide) ?_
                    refine zz_iorX 18 262144 d_MO_character_245 (by decide) (by decide) (by omega) (by omega) ?_
                    change ab_W _ _ _ G1 246 [some (vR 80), some (vR a), some (vz n), some (vz p), some (vz v3), some (vz v10), some (vz v15), some (vz v20), some (vz 1), some (vz 0), some (vz ((((v3 % 16) * 4096) + ((v10 % 64) * 64)) + (v15 % 64)))] [vz (((v3 % 8) * 262144) + ((v10 % 64) * 4096))] _
                    refine ab_iload d_MO_character_246 rfl ?_
                    refine zz_bipush d_MO_character_248 (by decide) ?_
                    refine zz_iand 6 64 d_MO_character_250 (by decide) (by decide) (by decide) (by decide) ?_
                    refine zz_bipush d_MO_character_251 (by decide) ?_
                    refine zz_ishl 6 64 d_MO_character_253 (by decide) (by decide) (by decide) ?_
                    refine zz_iorX 12 4096 d_MO_character_254 (by decide) (by decide) (by omega) (by omega) ?_
                    change ab_W _ _ _ G1 255 [some (vR 80), some (vR a), some (vz n), some (vz p), some (vz v3), some (vz v10), some (vz v15), some (vz v20), some (vz 1), some (vz 0), some (vz ((((v3 % 16) * 4096) + ((v10 % 64) * 64)) + (v15 % 64)))] [vz ((((v3 % 8) * 262144) + ((v10 % 64) * 4096)) + ((v15 % 64) * 64))] _
                    refine ab_iload d_MO_character_255 rfl ?_
                    refine zz_bipush d_MO_character_257 (by decide) ?_
                    refine zz_iand 6 64 d_MO_character_259 (by decide) (by decide) (by decide) (by decide) ?_
                    refine zz_iorX 6 64 d_MO_character_260 (by decide) (by decide) (by omega) (by omega) ?_
                    change ab_W _ _ _ G1 261 [some (vR 80), some (vR a), some (vz n), some (vz p), some (vz v3), some (vz v10), some (vz v15), some (vz v20), some (vz 1), some (vz 0), some (vz ((((v3 % 16) * 4096) + ((v10 % 64) * 64)) + (v15 % 64)))] [vz (((((v3 % 8) * 262144) + ((v10 % 64) * 4096)) + ((v15 % 64) * 64)) + (v20 % 64))] _
                    refine ab_istore d_MO_character_261 (Nat.le_of_ble_eq_true rfl) (Nat.le_of_ble_eq_true rfl) rfl ?_
                    change ab_W _ _ _ G1 263 [some (vR 80), some (vR a), some (vz n), some (vz p), some (vz v3), some (vz v10), some (vz v15), some (vz v20), some (vz 1), some (vz 0), some (vz (((((v3 % 8) * 262144) + ((v10 % 64) * 4096)) + ((v15 % 64) * 64)) + (v20 % 64)))] [] _
                    refine ab_iload d_MO_character_263 rfl ?_
                    refine zz_sipush d_MO_character_265 (by decide) ?_
                    refine zz_icmp_lt (tgt := 322) d_MO_character_268 (by decide) (by omega) (by decide) (fun c82 => ?_) (fun c82 => absurd c82 (by omega))
                    refine zz_iconst d_MO_character_322 ?_
                    refine zz_iret rfl d_MO_character_323 ?_
                    rw [hQ]; exact (Or.inl ⟨rfl, hfr, hlen, hsl, h80, (by refine Or.inr ⟨by omega, ?_⟩; rw [← hq6, ← hq13, ← hq18, ← hq23]; exact Or.inr (Or.inr (Or.inr (Or.inr ⟨by omega, by omega, by unfold cv3; omega, by unfold cv4; omega, rfl, rfl⟩))))⟩)
                · refine ab_iload d_MO_character_128 rfl ?_
                  refine zz_if_eq (tgt := 153) d_MO_character_130 (by decide) (by decide) (fun c83 => absurd c83 (by decide)) (fun c83 => ?_)
                  refine ab_aload_n d_MO_character_133 rfl ?_
                  refine zz_iconst d_MO_character_134 ?_
                  refine ab_putf (fs := mof m_thrown m_taped m_length m_out 1 m_gathered m_sets m_ranges m_nodes m_at m_flags m_fault m_place m_numbered m_depth m_value m_isNot m_least0 m_most0 m_slot m_work m_got m_rowMany m_charAt m_charWide m_trail m_isMatch m_matchGroups m_allFrom m_allBefore m_founds m_pieces m_writtenMany m_templateWide m_tooMuch) f_MO_226 (Or.inl rfl) d_MO_character_135 h80.2.2 (Nat.le_of_ble_eq_true rfl) (fun _ => ⟨rfl, rfl⟩) (h80.2.1 (by decide)) ?_
                  obtain ⟨G84, eG84⟩ : ∃ z : ab_G, z = List.set G1 80 (ab_ob 12 (mof m_thrown m_taped m_length m_out 2 m_gathered m_sets m_ranges m_nodes m_at m_flags m_fault m_place m_numbered m_depth m_value m_isNot m_least0 m_most0 m_slot m_work m_got m_rowMany m_charAt m_charWide m_trail m_isMatch m_matchGroups m_allFrom m_allBefore m_founds m_pieces m_writtenMany m_templateWide m_tooMuch)) := ⟨_, rfl⟩
                  have ha := ha.keep h80 eG84 (by omega)
                  have hlen := (z_len eG84).trans hlen
                  have hsl := (z_sl h80 eG84 rfl).trans hsl
                  have hfr := hfr.wr h80 eG84 (by decide)
                  have h80 := h80.kept eG84
                  change ab_W _ _ _ (List.set G1 80 (ab_ob 12 (mof m_thrown m_taped m_length m_out 2 m_gathered m_sets m_ranges m_nodes m_at m_flags m_fault m_place m_numbered m_depth m_value m_isNot m_least0 m_most0 m_slot m_work m_got m_rowMany m_charAt m_charWide m_trail m_isMatch m_matchGroups m_allFrom m_allBefore m_founds m_pieces m_writtenMany m_templateWide m_tooMuch))) 138 [some (vR 80), some (vR a), some (vz n), some (vz p), some (vz v3), some (vz v10), some (vz v15), some (vz v20), some (vz 1), some (vz 0), none] [] _
                  rw [← eG84]
                  refine ab_iload d_MO_character_138 rfl ?_
                  refine zz_bipush d_MO_character_140 (by decide) ?_
                  refine zz_iand 5 32 d_MO_character_142 (by decide) (by decide) (by decide) (by decide) ?_
                  refine zz_bipush d_MO_character_143 (by decide) ?_
                  refine zz_ishl 6 64 d_MO_character_145 (by decide) (by decide) (by decide) ?_
                  refine ab_iload d_MO_character_146 rfl ?_
                  refine zz_bipush d_MO_character_148 (by decide) ?_
                  refine zz_iand 6 64 d_MO_character_150 (by decide) (by decide) (by decide) (by decide) ?_
                  refine zz_iorX 6 64 d_MO_character_151 (by decide) (by decide) (by omega) (by omega) ?_
                  change ab_W _ _ _ G84 152 [some (vR 80), some (vR a), some (vz n), some (vz p), some (vz v3), some (vz v10), some (vz v15), some (vz v20), some (vz 1), some (vz 0), none] [vz (((v3 % 32) * 64) + (v10 % 64))] _
                  refine zz_iret rfl d_MO_character_152 ?_
                  rw [hQ]; exact (Or.inr ⟨_, _, rfl, hfr, hlen, hsl, h80, (by omega), (by refine Or.inr ⟨by omega, ?_⟩; rw [← hq6, ← hq13, ← hq18, ← hq23]; exact Or.inr (Or.inl ⟨by omega, by omega, by omega, rfl⟩))⟩)
            · refine zz_iconst d_MO_character_105 ?_
              refine ab_goto (tgt := 110) d_MO_character_106 (by decide) ?_
              refine ab_istore d_MO_character_110 (Nat.le_of_ble_eq_true rfl) (Nat.le_of_ble_eq_true rfl) rfl ?_
              change ab_W _ _ _ G1 112 [some (vR 80), some (vR a), some (vz n), some (vz p), some (vz v3), some (vz v10), some (vz v15), some (vz v20), some (vz 1), some (vz 1), none] [] _
              refine ab_iload d_MO_character_112 rfl ?_
              refine zz_sipush d_MO_character_114 (by decide) ?_
              refine zz_icmp_lt (tgt := 153) d_MO_character_117 (by decide) (by omega) (by decide) (fun c85 => ?_) (fun c85 => ?_)
              · refine ab_iload d_MO_character_153 rfl ?_
                refine zz_bipush d_MO_character_155 (by decide) ?_
                refine zz_iand 4 16 d_MO_character_157 (by decide) (by decide) (by decide) (by decide) ?_
                refine zz_bipush d_MO_character_158 (by decide) ?_
                refine zz_ishl 12 4096 d_MO_character_160 (by decide) (by decide) (by decide) ?_
                refine ab_iload d_MO_character_161 rfl ?_
                refine zz_bipush d_MO_character_163 (by decide) ?_
                refine zz_iand 6 64 d_MO_character_165 (by decide) (by decide) (by decide) (by decide) ?_
                refine zz_bipush d_MO_character_166 (by decide) ?_
                refine zz_ishl 6 64 d_MO_character_168 (by decide) (by decide) (by decide) ?_
                refine zz_iorX 12 4096 d_MO_character_169 (by decide) (by decide) (by omega) (by omega) ?_
                change ab_W _ _ _ G1 170 [some (vR 80), some (vR a), some (vz n), some (vz p), some (vz v3), some (vz v10), some (vz v15), some (vz v20), some (vz 1), some (vz 1), none] [vz (((v3 % 16) * 4096) + ((v10 % 64) * 64))] _
                refine ab_iload d_MO_character_170 rfl ?_
                refine zz_bipush d_MO_character_172 (by decide) ?_
                refine zz_iand 6 64 d_MO_character_174 (by decide) (by decide) (by decide) (by decide) ?_
                refine zz_iorX 6 64 d_MO_character_175 (by decide) (by decide) (by omega) (by omega) ?_
                change ab_W _ _ _ G1 176 [some (vR 80), some (vR a), some (vz n), some (vz p), some (vz v3), some (vz v10), some (vz v15), some (vz v20), some (vz 1), some (vz 1), none] [vz ((((v3 % 16) * 4096) + ((v10 % 64) * 64)) + (v15 % 64))] _
                refine ab_istore d_MO_character_176 (Nat.le_of_ble_eq_true rfl) (Nat.le_of_ble_eq_true rfl) rfl ?_
                change ab_W _ _ _ G1 178 [some (vR 80), some (vR a), some (vz n), some (vz p), some (vz v3), some (vz v10), some (vz v15), some (vz v20), some (vz 1), some (vz 1), some (vz ((((v3 % 16) * 4096) + ((v10 % 64) * 64)) + (v15 % 64)))] [] _
                refine ab_iload d_MO_character_178 rfl ?_
                refine zz_sipush d_MO_character_180 (by decide) ?_
                refine zz_icmp_lt (tgt := 229) d_MO_character_183 (by decide) (by omega) (by decide) (fun c86 => ?_) (fun c86 => absurd c86 (by omega))
                refine ab_iload d_MO_character_229 rfl ?_
                refine zz_bipush d_MO_character_231 (by decide) ?_
                refine zz_iand 3 8 d_MO_character_233 (by decide) (by decide) (by decide) (by decide) ?_
                refine zz_bipush d_MO_character_234 (by decide) ?_
                refine zz_ishl 18 262144 d_MO_character_236 (by decide) (by decide) (by decide) ?_
                refine ab_iload d_MO_character_237 rfl ?_
                refine zz_bipush d_MO_character_239 (by decide) ?_
                refine zz_iand 6 64 d_MO_character_241 (by decide) (by decide) (by decide) (by decide) ?_
                refine zz_bipush d_MO_character_242 (by decide) ?_
                refine zz_ishl 12 4096 d_MO_character_244 (by decide) (by decide) (by decide) ?_
                refine zz_iorX 18 262144 d_MO_character_245 (by decide) (by decide) (by omega) (by omega) ?_
                change ab_W _ _ _ G1 246 [some (vR 80), some (vR a), some (vz n), some (vz p), some (vz v3), some (vz v10), some (vz v15), some (vz v20), some (vz 1), some (vz 1), some (vz ((((v3 % 16) * 4096) + ((v10 % 64) * 64)) + (v15 % 64)))] [vz (((v3 % 8) * 262144) + ((v10 % 64) * 4096))] _
                refine ab_iload d_MO_character_246 rfl ?_
                refine zz_bipush d_MO_character_248 (by decide) ?_
                refine zz_iand 6 64 d_MO_character_250 (by decide) (by decide) (by decide) (by decide) ?_
                refine zz_bipush d_MO_character_251 (by decide) ?_
                refine zz_ishl 6 64 d_MO_character_253 (by decide) (by decide) (by decide) ?_
                refine zz_iorX 12 4096 d_MO_character_254 (by decide) (by decide) (by omega) (by omega) ?_
                change ab_W _ _ _ G1 255 [some (vR 80), some (vR a), some (vz n), some (vz p), some (vz v3), some (vz v10), some (vz v15), some (vz v20), some (vz 1), some (vz 1), some (vz ((((v3 % 16) * 4096) + ((v10 % 64) * 64)) + (v15 % 64)))] [vz ((((v3 % 8) * 262144) + ((v10 % 64) * 4096)) + ((v15 % 64) * 64))] _
                refine ab_iload d_MO_character_255 rfl ?_
                refine zz_bipush d_MO_character_257 (by decide) ?_
                refine zz_iand 6 64 d_MO_character_259 (by decide) (by decide) (by decide) (by decide) ?_
                refine zz_iorX 6 64 d_MO_character_260 (by decide) (by decide) (by omega) (by omega) ?_
                change ab_W _ _ _ G1 261 [some (vR 80), some (vR a), some (vz n), some (vz p), some (vz v3), some (vz v10), some (vz v15), some (vz v20), some (vz 1), some (vz 1), some (vz ((((v3 % 16) * 4096) + ((v10 % 64) * 64)) + (v15 % 64)))] [vz (((((v3 % 8) * 262144) + ((v10 % 64) * 4096)) + ((v15 % 64) * 64)) + (v20 % 64))] _
                refine ab_istore d_MO_character_261 (Nat.le_of_ble_eq_true rfl) (Nat.le_of_ble_eq_true rfl) rfl ?_
                change ab_W _ _ _ G1 263 [some (vR 80), some (vR a), some (vz n), some (vz p), some (vz v3), some (vz v10), some (vz v15), some (vz v20), some (vz 1), some (vz 1), some (vz (((((v3 % 8) * 262144) + ((v10 % 64) * 4096)) + ((v15 % 64) * 64)) + (v20 % 64)))] [] _
                refine ab_iload d_MO_character_263 rfl ?_
                refine zz_sipush d_MO_character_265 (by decide) ?_
                refine zz_icmp_lt (tgt := 322) d_MO_character_268 (by decide) (by omega) (by decide) (fun c87 => ?_) (fun c87 => absurd c87 (by omega))
                refine zz_iconst d_MO_character_322 ?_
                refine zz_iret rfl d_MO_character_323 ?_
                rw [hQ]; exact (Or.inl ⟨rfl, hfr, hlen, hsl, h80, (by refine Or.inr ⟨by omega, ?_⟩; rw [← hq6, ← hq13, ← hq18, ← hq23]; exact Or.inr (Or.inr (Or.inr (Or.inr ⟨by omega, by omega, by unfold cv3; omega, by unfold cv4; omega, rfl, rfl⟩))))⟩)
              · refine ab_iload d_MO_character_120 rfl ?_
                refine zz_sipush d_MO_character_122 (by decide) ?_
                refine zz_icmp_ge (tgt := 153) d_MO_character_125 (by decide) (by omega) (by decide) (fun c88 => ?_) (fun c88 => ?_)
                · refine ab_iload d_MO_character_153 rfl ?_
                  refine zz_bipush d_MO_character_155 (by decide) ?_
                  refine zz_iand 4 16 d_MO_character_157 (by decide) (by decide) (by decide) (by decide) ?_
                  refine zz_bipush d_MO_character_158 (by decide) ?_
                  refine zz_ishl 12 4096 d_MO_character_160 (by decide) (by decide) (by decide) ?_
                  refine ab_iload d_MO_character_161 rfl ?_
                  refine zz_bipush d_MO_character_163 (by decide) ?_
                  refine zz_iand 6 64 d_MO_character_165 (by decide) (by decide) (by decide) (by decide) ?_
                  refine zz_bipush d_MO_character_166 (by decide) ?_
                  refine zz_ishl 6 64 d_MO_character_168 (by decide) (by decide) (by decide) ?_
                  refine zz_iorX 12 4096 d_MO_character_169 (by decide) (by decide) (by omega) (by omega) ?_
                  change ab_W _ _ _ G1 170 [some (vR 80), some (vR a), some (vz n), some (vz p), some (vz v3), some (vz v10), some (vz v15), some (vz v20), some (vz 1), some (vz 1), none] [vz (((v3 % 16) * 4096) + ((v10 % 64) * 64))] _
                  refine ab_iload d_MO_character_170 rfl ?_
                  refine zz_bipush d_MO_character_172 (by decide) ?_
                  refine zz_iand 6 64 d_MO_character_174 (by decide) (by decide) (by decide) (by decide) ?_
                  refine zz_iorX 6 64 d_MO_character_175 (by decide) (by decide) (by omega) (by omega) ?_
                  change ab_W _ _ _ G1 176 [some (vR 80), some (vR a), some (vz n), some (vz p), some (vz v3), some (vz v10), some (vz v15), some (vz v20), some (vz 1), some (vz 1), none] [vz ((((v3 % 16) * 4096) + ((v10 % 64) * 64)) + (v15 % 64))] _
                  refine ab_istore d_MO_character_176 (Nat.le_of_ble_eq_true rfl) (Nat.le_of_ble_eq_true rfl) rfl ?_
                  change ab_W _ _ _ G1 178 [some (vR 80), some (vR a), some (vz n), some (vz p), some (vz v3), some (vz v10), some (vz v15), some (vz v20), some (vz 1), some (vz 1), some (vz ((((v3 % 16) * 4096) + ((v10 % 64) * 64)) + (v15 % 64)))] [] _
                  refine ab_iload d_MO_character_178 rfl ?_
                  refine zz_sipush d_MO_character_180 (by decide) ?_
                  refine zz_icmp_lt (tgt := 229) d_MO_character_183 (by decide) (by omega) (by decide) (fun c89 => absurd c89 (by omega)) (fun c89 => ?_)
                  refine ab_iload d_MO_character_186 rfl ?_
                  refine zz_sipush d_MO_character_188 (by decide) ?_
                  refine zz_icmp_ge (tgt := 229) d_MO_character_191 (by decide) (by omega) (by decide) (fun c90 => ?_) (fun c90 => ?_)
                  · refine ab_iload d_MO_character_229 rfl ?_
                    refine zz_bipush d_MO_character_231 (by decide) ?_
                    refine zz_iand 3 8 d_MO_character_233 (by decide) (by decide) (by decide) (by decide) ?_
                    refine zz_bipush d_MO_character_234 (by decide) ?_
                    refine zz_ishl 18 262144 d_MO_character_236 (by decide) (by decide) (by decide) ?_
                    refine ab_iload d_MO_character_237 rfl ?_
                    refine zz_bipush d_MO_character_239 (by decide) ?_
                    refine zz_iand 6 64 d_MO_character_241 (by decide) (by decide) (by decide) (by decide) ?_
                    refine zz_bipush d_MO_character_242 (by decide) ?_
                    refine zz_ishl 12 4096 d_MO_character_244 (by decide) (by decide) (by decide) ?_
                    refine zz_iorX 18 262144 d_MO_character_245 (by decide) (by decide) (by omega) (by omega) ?_
                    change ab_W _ _ _ G1 246 [some (vR 80), some (vR a), some (vz n), some (vz p), some (vz v3), some (vz v10), some (vz v15), some (vz v20), some (vz 1), some (vz 1), some (vz ((((v3 % 16) * 4096) + ((v10 % 64) * 64)) + (v15 % 64)))] [vz (((v3 % 8) * 262144) + ((v10 % 64) * 4096))] _
                    refine ab_iload d_MO_character_246 rfl ?_
                    refine zz_bipush d_MO_character_248 (by decide) ?_
                    refine zz_iand 6 64 d_MO_character_250 (by decide) (by decide) (by decide) (by decide) ?_
                    refine zz_bipush d_MO_character_251 (by decide) ?_
                    refine zz_ishl 6 64 d_MO_character_253 (by decide) (by decide) (by decide) ?_
                    refine zz_iorX 12 4096 d_MO_character_254 (by decide) (by decide) (by omega) (by omega) ?_
                    change ab_W _ _ _ G1 255 [some (vR 80), some (vR a), some (vz n), some (vz p), some (vz v3), some (vz v10), some (vz v15), some (vz v20), some (vz 1), some (vz 1), some (vz ((((v3 % 16) * 4096) + ((v10 % 64) * 64)) + (v15 % 64)))] [vz ((((v3 % 8) * 262144) + ((v10 % 64) * 4096)) + ((v15 % 64) * 64))] _
                    refine ab_iload d_MO_character_255 rfl ?_
                    refine zz_bipush d_MO_character_257 (by decide) ?_
                    refine zz_iand 6 64 d_MO_character_259 (by decide) (by decide) (by decide) (by decide) ?_
                    refine zz_iorX 6 64 d_MO_character_260 (by decide) (by decide) (by omega) (by omega) ?_
                    change ab_W _ _ _ G1 261 [some (vR 80), some (vR a), some (vz n), some (vz p), some (vz v3), some (vz v10), some (vz v15), some (vz v20), some (vz 1), some (vz 1), some (vz ((((v3 % 16) * 4096) + ((v10 % 64) * 64)) + (v15 % 64)))] [vz (((((v3 % 8) * 262144) + ((v10 % 64) * 4096)) + ((v15 % 64) * 64)) + (v20 % 64))] _
                    refine ab_istore d_MO_character_261 (Nat.le_of_ble_eq_true rfl) (Nat.le_of_ble_eq_true rfl) rfl ?_
                    change ab_W _ _ _ G1 263 [some (vR 80), some (vR a), some (vz n), some (vz p), some (vz v3), some (vz v10), some (vz v15), some (vz v20), some (vz 1), some (vz 1), some (vz (((((v3 % 8) * 262144) + ((v10 % 64) * 4096)) + ((v15 % 64) * 64)) + (v20 % 64)))] [] _
                    refine ab_iload d_MO_character_263 rfl ?_
                    refine zz_sipush d_MO_character_265 (by decide) ?_
                    refine zz_icmp_lt (tgt := 322) d_MO_character_268 (by decide) (by omega) (by decide) (fun c91 => absurd c91 (by omega)) (fun c91 => ?_)
                    refine ab_iload d_MO_character_271 rfl ?_
                    refine zz_sipush d_MO_character_273 (by decide) ?_
                    refine zz_icmp_ge (tgt := 322) d_MO_character_276 (by decide) (by omega) (by decide) (fun c92 => ?_) (fun c92 => ?_)
                    · refine zz_iconst d_MO_character_322 ?_
                      refine zz_iret rfl d_MO_character_323 ?_
                      rw [hQ]; exact (Or.inl ⟨rfl, hfr, hlen, hsl, h80, (by refine Or.inr ⟨by omega, ?_⟩; rw [← hq6, ← hq13, ← hq18, ← hq23]; exact Or.inr (Or.inr (Or.inr (Or.inr ⟨by omega, by omega, by unfold cv3; omega, by unfold cv4; omega, rfl, rfl⟩))))⟩)
                    · refine ab_iload d_MO_character_279 rfl ?_
                      refine zz_if_eq (tgt := 322) d_MO_character_281 (by decide) (by decide) (fun c93 => absurd c93 (by decide)) (fun c93 => ?_)
                      refine ab_iload d_MO_character_284 rfl ?_
                      refine zz_sipush d_MO_character_286 (by decide) ?_
                      refine zz_icmp_lt (tgt := 322) d_MO_character_289 (by decide) (by omega) (by decide) (fun c94 => ?_) (fun c94 => ?_)
                      · refine zz_iconst d_MO_character_322 ?_
                        refine zz_iret rfl d_MO_character_323 ?_
                        rw [hQ]; exact (Or.inl ⟨rfl, hfr, hlen, hsl, h80, (by refine Or.inr ⟨by omega, ?_⟩; rw [← hq6, ← hq13, ← hq18, ← hq23]; exact Or.inr (Or.inr (Or.inr (Or.inr ⟨by omega, by omega, by unfold cv3; omega, by unfold cv4; omega, rfl, rfl⟩))))⟩)
                      · refine ab_iload d_MO_character_292 rfl ?_
                        refine zz_sipush d_MO_character_294 (by decide) ?_
                        refine zz_icmp_ge (tgt := 322) d_MO_character_297 (by decide) (by omega) (by decide) (fun c95 => ?_) (fun c95 => ?_)
                        · refine zz_iconst d_MO_character_322 ?_
                          refine zz_iret rfl d_MO_character_323 ?_
                          rw [hQ]; exact (Or.inl ⟨rfl, hfr, hlen, hsl, h80, (by refine Or.inr ⟨by omega, ?_⟩; rw [← hq6, ← hq13, ← hq18, ← hq23]; exact Or.inr (Or.inr (Or.inr (Or.inr ⟨by omega, by omega, by unfold cv3; omega, by unfold cv4; omega, rfl, rfl⟩))))⟩)
                        · refine ab_iload d_MO_character_300 rfl ?_
                          refine zz_ldc 65536 d_MO_character_302 cn_MO_235 (by decide) ?_
                          refine zz_icmp_lt (tgt := 322) d_MO_character_304 (by decide) (by omega) (by decide) (fun c96 => ?_) (fun c96 => ?_)
                          · refine zz_iconst d_MO_character_322 ?_
                            refine zz_iret rfl d_MO_character_323 ?_
                            rw [hQ]; exact (Or.inl ⟨rfl, hfr, hlen, hsl, h80, (by refine Or.inr ⟨by omega, ?_⟩; rw [← hq6, ← hq13, ← hq18, ← hq23]; exact Or.inr (Or.inr (Or.inr (Or.inr ⟨by omega, by omega, by unfold cv3; omega, by unfold cv4; omega, rfl, rfl⟩))))⟩)
                          · refine ab_iload d_MO_character_307 rfl ?_
                            refine zz_ldc 1114111 d_MO_character_309 cn_MO_236 (by decide) ?_
                            refine zz_icmp_gt (tgt := 322) d_MO_character_311 (by decide) (by omega) (by decide) (fun c97 => ?_) (fun c97 => ?_)
                            · refine zz_iconst d_MO_character_322 ?_
                              refine zz_iret rfl d_MO_character_323 ?_
                              rw [hQ]; exact (Or.inl ⟨rfl, hfr, hlen, hsl, h80, (by refine Or.inr ⟨by omega, ?_⟩; rw [← hq6, ← hq13, ← hq18, ← hq23]; exact Or.inr (Or.inr (Or.inr (Or.inr ⟨by omega, by omega, by unfold cv3; omega, by unfold cv4; omega, rfl, rfl⟩))))⟩)
                            · refine ab_aload_n d_MO_character_314 rfl ?_
                              refine zz_iconst d_MO_character_315 ?_
                              refine ab_putf (fs := mof m_thrown m_taped m_length m_out 1 m_gathered m_sets m_ranges m_nodes m_at m_flags m_fault m_place m_numbered m_depth m_value m_isNot m_least0 m_most0 m_slot m_work m_got m_rowMany m_charAt m_charWide m_trail m_isMatch m_matchGroups m_allFrom m_allBefore m_founds m_pieces m_writtenMany m_templateWide m_tooMuch) f_MO_226 (Or.inl rfl) d_MO_character_316 h80.2.2 (Nat.le_of_ble_eq_true rfl) (fun _ => ⟨rfl, rfl⟩) (h80.2.1 (by decide)) ?_
                              obtain ⟨G98, eG98⟩ : ∃ z : ab_G, z = List.set G1 80 (ab_ob 12 (mof m_thrown m_taped m_length m_out 4 m_gathered m_sets m_ranges m_nodes m_at m_flags m_fault m_place m_numbered m_depth m_value m_isNot m_least0 m_most0 m_slot m_work m_got m_rowMany m_charAt m_charWide m_trail m_isMatch m_matchGroups m_allFrom m_allBefore m_founds m_pieces m_writtenMany m_templateWide m_tooMuch)) := ⟨_, rfl⟩
                              have ha := ha.keep h80 eG98 (by omega)
                              have hlen := (z_len eG98).trans hlen
                              have hsl := (z_sl h80 eG98 rfl).trans hsl
                              have hfr := hfr.wr h80 eG98 (by decide)
                              have h80 := h80.kept eG98
                              change ab_W _ _ _ (List.set G1 80 (ab_ob 12 (mof m_thrown m_taped m_length m_out 4 m_gathered m_sets m_ranges m_nodes m_at m_flags m_fault m_place m_numbered m_depth m_value m_isNot m_least0 m_most0 m_slot m_work m_got m_rowMany m_charAt m_charWide m_trail m_isMatch m_matchGroups m_allFrom m_allBefore m_founds m_pieces m_writtenMany m_templateWide m_tooMuch))) 319 [some (vR 80), some (vR a), some (vz n), some (vz p), some (vz v3), some (vz v10), some (vz v15), some (vz v20), some (vz 1), some (vz 1), some (vz (((((v3 % 8) * 262144) + ((v10 % 64) * 4096)) + ((v15 % 64) * 64)) + (v20 % 64)))] [] _
                              rw [← eG98]
                              refine ab_iload d_MO_character_319 rfl ?_
                              refine zz_iret rfl d_MO_character_321 ?_
                              rw [hQ]; exact (Or.inr ⟨_, _, rfl, hfr, hlen, hsl, h80, (by omega), (by refine Or.inr ⟨by omega, ?_⟩; rw [← hq6, ← hq13, ← hq18, ← hq23]; exact Or.inr (Or.inr (Or.inr (Or.inl ⟨by omega, by unfold cv4; omega, by unfold cv4; omega, rfl⟩))))⟩)
                  · refine ab_iload d_MO_character_194 rfl ?_
                    refine zz_if_eq (tgt := 229) d_MO_character_196 (by decide) (by decide) (fun c99 => absurd c99 (by decide)) (fun c99 => ?_)
                    refine ab_iload d_MO_character_199 rfl ?_
                    refine zz_sipush d_MO_character_201 (by decide) ?_
                    refine zz_icmp_lt (tgt := 229) d_MO_character_204 (by decide) (by omega) (by decide) (fun c100 => ?_) (fun c100 => ?_)
                    · refine ab_iload d_MO_character_229 rfl ?_
                      refine zz_bipush d_MO_character_231 (by decide) ?_
                      refine zz_iand 3 8 d_MO_character_233 (by decide) (by decide) (by decide) (by decide) ?_
                      refine zz_bipush d_MO_character_234 (by decide) ?_
                      refine zz_ishl 18 262144 d_MO_character_236 (by decide) (by decide) (by decide) ?_
                      refine ab_iload d_MO_character_237 rfl ?_
                      refine zz_bipush d_MO_character_239 (by decide) ?_
                      refine zz_iand 6 64 d_MO_character_241 (by decide) (by decide) (by decide) (by decide) ?_
                      refine zz_bipush d_MO_character_242 (by decide) ?_
                      refine zz_ishl 12 4096 d_MO_character_244 (by decide) (by decide) (by decide) ?_
                      refine zz_iorX 18 262144 d_MO_character_245 (by decide) (by decide) (by omega) (by omega) ?_
                      change ab_W _ _ _ G1 246 [some (vR 80), some (vR a), some (vz n), some (vz p), some (vz v3), some (vz v10), some (vz v15), some (vz v20), some (vz 1), some (vz 1), some (vz ((((v3 % 16) * 4096) + ((v10 % 64) * 64)) + (v15 % 64)))] [vz (((v3 % 8) * 262144) + ((v10 % 64) * 4096))] _
                      refine ab_iload d_MO_character_246 rfl ?_
                      refine zz_bipush d_MO_character_248 (by decide) ?_
                      refine zz_iand 6 64 d_MO_character_250 (by decide) (by decide) (by decide) (by decide) ?_
                      refine zz_bipush d_MO_character_251 (by decide) ?_
                      refine zz_ishl 6 64 d_MO_character_253 (by decide) (by decide) (by decide) ?_
                      refine zz_iorX 12 4096 d_MO_character_254 (by decide) (by decide) (by omega) (by omega) ?_
                      change ab_W _ _ _ G1 255 [some (vR 80), some (vR a), some (vz n), some (vz p), some (vz v3), some (vz v10), some (vz v15), some (vz v20), some (vz 1), some (vz 1), some (vz ((((v3 % 16) * 4096) + ((v10 % 64) * 64)) + (v15 % 64)))] [vz ((((v3 % 8) * 262144) + ((v10 % 64) * 4096)) + ((v15 % 64) * 64))] _
                      refine ab_iload d_MO_character_255 rfl ?_
                      refine zz_bipush d_MO_character_257 (by decide) ?_
                      refine zz_iand 6 64 d_MO_character_259 (by decide) (by decide) (by decide) (by decide) ?_
                      refine zz_iorX 6 64 d_MO_character_260 (by decide) (by decide) (by omega) (by omega) ?_
                      change ab_W _ _ _ G1 261 [some (vR 80), some (vR a), some (vz n), some (vz p), some (vz v3), some (vz v10), some (vz v15), some (vz v20), some (vz 1), some (vz 1), some (vz ((((v3 % 16) * 4096) + ((v10 % 64) * 64)) + (v15 % 64)))] [vz (((((v3 % 8) * 262144) + ((v10 % 64) * 4096)) + ((v15 % 64) * 64)) + (v20 % 64))] _
                      refine ab_istore d_MO_character_261 (Nat.le_of_ble_eq_true rfl) (Nat.le_of_ble_eq_true rfl) rfl ?_
                      change ab_W _ _ _ G1 263 [some (vR 80), some (vR a), some (vz n), some (vz p), some (vz v3), some (vz v10), some (vz v15), some (vz v20), some (vz 1), some (vz 1), some (vz (((((v3 % 8) * 262144) + ((v10 % 64) * 4096)) + ((v15 % 64) * 64)) + (v20 % 64)))] [] _
                      refine ab_iload d_MO_character_263 rfl ?_
                      refine zz_sipush d_MO_character_265 (by decide) ?_
                      refine zz_icmp_lt (tgt := 322) d_MO_character_268 (by decide) (by omega) (by decide) (fun c101 => ?_) (fun c101 => absurd c101 (by omega))
                      refine zz_iconst d_MO_character_322 ?_
                      refine zz_iret rfl d_MO_character_323 ?_
                      rw [hQ]; exact (Or.inl ⟨rfl, hfr, hlen, hsl, h80, (by refine Or.inr ⟨by omega, ?_⟩; rw [← hq6, ← hq13, ← hq18, ← hq23]; exact Or.inr (Or.inr (Or.inr (Or.inr ⟨by omega, by omega, by unfold cv3; omega, by unfold cv4; omega, rfl, rfl⟩))))⟩)
                    · refine ab_iload d_MO_character_207 rfl ?_
                      refine zz_ldc 55296 d_MO_character_209 cn_MO_233 (by decide) ?_
                      refine zz_icmp_lt (tgt := 221) d_MO_character_211 (by decide) (by omega) (by decide) (fun c102 => ?_) (fun c102 => ?_)
                      · refine ab_aload_n d_MO_character_221 rfl ?_
                        refine zz_iconst d_MO_character_222 ?_
                        refine ab_putf (fs := mof m_thrown m_taped m_length m_out 1 m_gathered m_sets m_ranges m_nodes m_at m_flags m_fault m_place m_numbered m_depth m_value m_isNot m_least0 m_most0 m_slot m_work m_got m_rowMany m_charAt m_charWide m_trail m_isMatch m_matchGroups m_allFrom m_allBefore m_founds m_pieces m_writtenMany m_templateWide m_tooMuch) f_MO_226 (Or.inl rfl) d_MO_character_223 h80.2.2 (Nat.le_of_ble_eq_true rfl) (fun _ => ⟨rfl, rfl⟩) (h80.2.1 (by decide)) ?_
                        obtain ⟨G103, eG103⟩ : ∃ z : ab_G, z = List.set G1 80 (ab_ob 12 (mof m_thrown m_taped m_length m_out 3 m_gathered m_sets m_ranges m_nodes m_at m_flags m_fault m_place m_numbered m_depth m_value m_isNot m_least0 m_most0 m_slot m_work m_got m_rowMany m_charAt m_charWide m_trail m_isMatch m_matchGroups m_allFrom m_allBefore m_founds m_pieces m_writtenMany m_templateWide m_tooMuch)) := ⟨_, rfl⟩
                        have ha := ha.keep h80 eG103 (by omega)
                        have hlen := (z_len eG103).trans hlen
                        have hsl := (z_sl h80 eG103 rfl).trans hsl
                        have hfr := hfr.wr h80 eG103 (by decide)
                        have h80 := h80.kept eG103
                        change ab_W _ _ _ (List.set G1 80 (ab_ob 12 (mof m_thrown m_taped m_length m_out 3 m_gathered m_sets m_ranges m_nodes m_at m_flags m_fault m_place m_numbered m_depth m_value m_isNot m_least0 m_most0 m_slot m_work m_got m_rowMany m_charAt m_charWide m_trail m_isMatch m_matchGroups m_allFrom m_allBefore m_founds m_pieces m_writtenMany m_templateWide m_tooMuch))) 226 [some (vR 80), some (vR a), some (vz n), some (vz p), some (vz v3), some (vz v10), some (vz v15), some (vz v20), some (vz 1), some (vz 1), some (vz ((((v3 % 16) * 4096) + ((v10 % 64) * 64)) + (v15 % 64)))] [] _
                        rw [← eG103]
                        refine ab_iload d_MO_character_226 rfl ?_
                        refine zz_iret rfl d_MO_character_228 ?_
                        rw [hQ]; exact (Or.inr ⟨_, _, rfl, hfr, hlen, hsl, h80, (by omega), (by refine Or.inr ⟨by omega, ?_⟩; rw [← hq6, ← hq13, ← hq18, ← hq23]; exact Or.inr (Or.inr (Or.inl ⟨by omega, by unfold cv3; omega, by unfold cv3; omega, rfl⟩)))⟩)
                      · refine ab_iload d_MO_character_214 rfl ?_
                        refine zz_ldc 57344 d_MO_character_216 cn_MO_234 (by decide) ?_
                        refine zz_icmp_lt (tgt := 229) d_MO_character_218 (by decide) (by omega) (by decide) (fun c104 => ?_) (fun c104 => ?_)
                        · refine ab_iload d_MO_character_229 rfl ?_
                          refine zz_bipush d_MO_character_231 (by decide) ?_
                          refine zz_iand 3 8 d_MO_character_233 (by decide) (by decide) (by decide) (by decide) ?_
                          refine zz_bipush d_MO_character_234 (by decide) ?_
                          refine zz_ishl 18 262144 d_MO_character_236 (by decide) (by decide) (by decide) ?_
                          refine ab_iload d_MO_character_237 rfl ?_
                          refine zz_bipush d_MO_character_239 (by decide) ?_
                          refine zz_iand 6 64 d_MO_character_241 (by decide) (by decide) (by decide) (by decide) ?_
                          refine zz_bipush d_MO_character_242 (by decide) ?_
                          refine zz_ishl 12 4096 d_MO_character_244 (by decide) (by decide) (by decide) ?_
                          refine zz_iorX 18 262144 d_MO_character_245 (by decide) (by decide) (by omega) (by omega) ?_
                          change ab_W _ _ _ G1 246 [some (vR 80), some (vR a), some (vz n), some (vz p), some (vz v3), some (vz v10), some (vz v15), some (vz v20), some (vz 1), some (vz 1), some (vz ((((v3 % 16) * 4096) + ((v10 % 64) * 64)) + (v15 % 64)))] [vz (((v3 % 8) * 262144) + ((v10 % 64) * 4096))] _
                          refine ab_iload d_MO_character_246 rfl ?_
                          refine zz_bipush d_MO_character_248 (by decide) ?_
                          refine zz_iand 6 64 d_MO_character_250 (by decide) (by decide) (by decide) (by decide) ?_
                          refine zz_bipush d_MO_character_251 (by decide) ?_
                          refine zz_ishl 6 64 d_MO_character_253 (by decide) (by decide) (by decide) ?_
                          refine zz_iorX 12 4096 d_MO_character_254 (by decide) (by decide) (by omega) (by omega) ?_
                          change ab_W _ _ _ G1 255 [some (vR 80), some (vR a), some (vz n), some (vz p), some (vz v3), some (vz v10), some (vz v15), some (vz v20), some (vz 1), some (vz 1), some (vz ((((v3 % 16) * 4096) + ((v10 % 64) * 64)) + (v15 % 64)))] [vz ((((v3 % 8) * 262144) + ((v10 % 64) * 4096)) + ((v15 % 64) * 64))] _
                          refine ab_iload d_MO_character_255 rfl ?_
                          refine zz_bipush d_MO_character_257 (by decide) ?_
                          refine zz_iand 6 64 d_MO_character_259 (by decide) (by decide) (by decide) (by decide) ?_
                          refine zz_iorX 6 64 d_MO_character_260 (by decide) (by decide) (by omega) (by omega) ?_
                          change ab_W _ _ _ G1 261 [some (vR 80), some (vR a), some (vz n), some (vz p), some (vz v3), some (vz v10), some (vz v15), some (vz v20), some (vz 1), some (vz 1), some (vz ((((v3 % 16) * 4096) + ((v10 % 64) * 64)) + (v15 % 64)))] [vz (((((v3 % 8) * 262144) + ((v10 % 64) * 4096)) + ((v15 % 64) * 64)) + (v20 % 64))] _
                          refine ab_istore d_MO_character_261 (Nat.le_of_ble_eq_true rfl) (Nat.le_of_ble_eq_true rfl) rfl ?_
                          change ab_W _ _ _ G1 263 [some (vR 80), some (vR a), some (vz n), some (vz p), some (vz v3), some (vz v10), some (vz v15), some (vz v20), some (vz 1), some (vz 1), some (vz (((((v3 % 8) * 262144) + ((v10 % 64) * 4096)) + ((v15 % 64) * 64)) + (v20 % 64)))] [] _
                          refine ab_iload d_MO_character_263 rfl ?_
                          refine zz_sipush d_MO_character_265 (by decide) ?_
                          refine zz_icmp_lt (tgt := 322) d_MO_character_268 (by decide) (by omega) (by decide) (fun c105 => ?_) (fun c105 => absurd c105 (by omega))
                          refine zz_iconst d_MO_character_322 ?_
                          refine zz_iret rfl d_MO_character_323 ?_
                          rw [hQ]; exact (Or.inl ⟨rfl, hfr, hlen, hsl, h80, (by refine Or.inr ⟨by omega, ?_⟩; rw [← hq6, ← hq13, ← hq18, ← hq23]; exact Or.inr (Or.inr (Or.inr (Or.inr ⟨by omega, by omega, by unfold cv3; omega, by unfold cv4; omega, rfl, rfl⟩))))⟩)
                        · refine ab_aload_n d_MO_character_221 rfl ?_
                          refine zz_iconst d_MO_character_222 ?_
                          refine ab_putf (fs := mof m_thrown m_taped m_length m_out 1 m_gathered m_sets m_ranges m_nodes m_at m_flags m_fault m_place m_numbered m_depth m_value m_isNot m_least0 m_most0 m_slot m_work m_got m_rowMany m_charAt m_charWide m_trail m_isMatch m_matchGroups m_allFrom m_allBefore m_founds m_pieces m_writtenMany m_templateWide m_tooMuch) f_MO_226 (Or.inl rfl) d_MO_character_223 h80.2.2 (Nat.le_of_ble_eq_true rfl) (fun _ => ⟨rfl, rfl⟩) (h80.2.1 (by decide)) ?_
                          obtain ⟨G106, eG106⟩ : ∃ z : ab_G, z = List.set G1 80 (ab_ob 12 (mof m_thrown m_taped m_length m_out 3 m_gathered m_sets m_ranges m_nodes m_at m_flags m_fault m_place m_numbered m_depth m_value m_isNot m_least0 m_most0 m_slot m_work m_got m_rowMany m_charAt m_charWide m_trail m_isMatch m_matchGroups m_allFrom m_allBefore m_founds m_pieces m_writtenMany m_templateWide m_tooMuch)) := ⟨_, rfl⟩
                          have ha := ha.keep h80 eG106 (by omega)
                          have hlen := (z_len eG106).trans hlen
                          have hsl := (z_sl h80 eG106 rfl).trans hsl
                          have hfr := hfr.wr h80 eG106 (by decide)
                          have h80 := h80.kept eG106
                          change ab_W _ _ _ (List.set G1 80 (ab_ob 12 (mof m_thrown m_taped m_length m_out 3 m_gathered m_sets m_ranges m_nodes m_at m_flags m_fault m_place m_numbered m_depth m_value m_isNot m_least0 m_most0 m_slot m_work m_got m_rowMany m_charAt m_charWide m_trail m_isMatch m_matchGroups m_allFrom m_allBefore m_founds m_pieces m_writtenMany m_templateWide m_tooMuch))) 226 [some (vR 80), some (vR a), some (vz n), some (vz p), some (vz v3), some (vz v10), some (vz v15), some (vz v20), some (vz 1), some (vz 1), some (vz ((((v3 % 16) * 4096) + ((v10 % 64) * 64)) + (v15 % 64)))] [] _
                          rw [← eG106]
                          refine ab_iload d_MO_character_226 rfl ?_
                          refine zz_iret rfl d_MO_character_228 ?_
                          rw [hQ]; exact (Or.inr ⟨_, _, rfl, hfr, hlen, hsl, h80, (by omega), (by refine Or.inr ⟨by omega, ?_⟩; rw [← hq6, ← hq13, ← hq18, ← hq23]; exact Or.inr (Or.inr (Or.inl ⟨by omega, by unfold cv3; omega, by unfold cv3; omega, rfl⟩)))⟩)
                · refine ab_iload d_MO_character_128 rfl ?_
                  refine zz_if_eq (tgt := 153) d_MO_character_130 (by decide) (by decide) (fun c107 => absurd c107 (by decide)) (fun c107 => ?_)
                  refine ab_aload_n d_MO_character_133 rfl ?_
                  refine zz_iconst d_MO_character_134 ?_
                  refine ab_putf (fs := mof m_thrown m_taped m_length m_out 1 m_gathered m_sets m_ranges m_nodes m_at m_flags m_fault m_place m_numbered m_depth m_value m_isNot m_least0 m_most0 m_slot m_work m_got m_rowMany m_charAt m_charWide m_trail m_isMatch m_matchGroups m_allFrom m_allBefore m_founds m_pieces m_writtenMany m_templateWide m_tooMuch) f_MO_226 (Or.inl rfl) d_MO_character_135 h80.2.2 (Nat.le_of_ble_eq_true rfl) (fun _ => ⟨rfl, rfl⟩) (h80.2.1 (by decide)) ?_
                  obtain ⟨G108, eG108⟩ : ∃ z : ab_G, z = List.set G1 80 (ab_ob 12 (mof m_thrown m_taped m_length m_out 2 m_gathered m_sets m_ranges m_nodes m_at m_flags m_fault m_place m_numbered m_depth m_value m_isNot m_least0 m_most0 m_slot m_work m_got m_rowMany m_charAt m_charWide m_trail m_isMatch m_matchGroups m_allFrom m_allBefore m_founds m_pieces m_writtenMany m_templateWide m_tooMuch)) := ⟨_, rfl⟩
                  have ha := ha.keep h80 eG108 (by omega)
                  have hlen := (z_len eG108).trans hlen
                  have hsl := (z_sl h80 eG108 rfl).trans hsl
                  have hfr := hfr.wr h80 eG108 (by decide)
                  have h80 := h80.kept eG108
                  change ab_W _ _ _ (List.set G1 80 (ab_ob 12 (mof m_thrown m_taped m_length m_out 2 m_gathered m_sets m_ranges m_nodes m_at m_flags m_fault m_place m_numbered m_depth m_value m_isNot m_least0 m_most0 m_slot m_work m_got m_rowMany m_charAt m_charWide m_trail m_isMatch m_matchGroups m_allFrom m_allBefore m_founds m_pieces m_writtenMany m_templateWide m_tooMuch))) 138 [some (vR 80), some (vR a), some (vz n), some (vz p), some (vz v3), some (vz v10), some (vz v15), some (vz v20), some (vz 1), some (vz 1), none] [] _
                  rw [← eG108]
                  refine ab_iload d_MO_character_138 rfl ?_
                  refine zz_bipush d_MO_character_140 (by decide) ?_
                  refine zz_iand 5 32 d_MO_character_142 (by decide) (by decide) (by decide) (by decide) ?_
                  refine zz_bipush d_MO_character_143 (by decide) ?_
                  refine zz_ishl 6 64 d_MO_character_145 (by decide) (by decide) (by decide) ?_
                  refine ab_iload d_MO_character_146 rfl ?_
                  refine zz_bipush d_MO_character_148 (by decide) ?_
                  refine zz_iand 6 64 d_MO_character_150 (by decide) (by decide) (by decide) (by decide) ?_
                  refine zz_iorX 6 64 d_MO_character_151 (by decide) (by decide) (by omega) (by omega) ?_
                  change ab_W _ _ _ G108 152 [some (vR 80), some (vR a), some (vz n), some (vz p), some (vz v3), some (vz v10), some (vz v15), some (vz v20), some (vz 1), some (vz 1), none] [vz (((v3 % 32) * 64) + (v10 % 64))] _
                  refine zz_iret rfl d_MO_character_152 ?_
                  rw [hQ]; exact (Or.inr ⟨_, _, rfl, hfr, hlen, hsl, h80, (by omega), (by refine Or.inr ⟨by omega, ?_⟩; rw [← hq6, ← hq13, ← hq18, ← hq23]; exact Or.inr (Or.inl ⟨by omega, by omega, by omega, rfl⟩))⟩)
    · refine ab_iload d_MO_character_28 rfl ?_
      refine zz_iret rfl d_MO_character_30 ?_
      rw [hQ]; exact (Or.inr ⟨_, _, rfl, hfr, hlen, hsl, h80, (by omega), (by refine Or.inr ⟨by omega, ?_⟩; rw [← hq6]; exact Or.inl ⟨by omega, rfl, rfl⟩)⟩)
  · refine zz_iconst d_MO_character_18 ?_
    refine zz_iret rfl d_MO_character_19 ?_
    rw [hQ]; exact (Or.inl ⟨rfl, hfr, hlen, hsl, h80, (by exact Or.inl ⟨by omega, rfl, rfl⟩)⟩)
