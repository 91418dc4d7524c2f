/-! values of flags, of digits, of letters behind a stroke -/
def flv (v : Int) : Prop := v = 0 ∨ v = 1 ∨ v = 2 ∨ v = 4 ∨ v = 8
theorem hxd_c (c : Int) : (48 ≤ c ∧ c ≤ 57 ∧ hxd c = c - 48) ∨ (97 ≤ c ∧ c ≤ 102 ∧ hxd c = c - 87) ∨ (65 ≤ c ∧ c ≤ 70 ∧ hxd c = c - 55) ∨ (¬ (48 ≤ c ∧ c ≤ 57) ∧ ¬ (97 ≤ c ∧ c ≤ 102) ∧ ¬ (65 ≤ c ∧ c ≤ 70) ∧ hxd c = -1) := by unfold hxd; (repeat' split) <;> omega
def ctf (c : Int) : Int := if c = 97 then 7 else if c = 102 then 12 else if c = 110 then 10 else if c = 114 then 13 else if c = 116 then 9 else if c = 118 then 11 else -1
theorem ctf_c (c : Int) : (c = 97 ∧ ctf c = 7) ∨ (c = 102 ∧ ctf c = 12) ∨ (c = 110 ∧ ctf c = 10) ∨ (c = 114 ∧ ctf c = 13) ∨ (c = 116 ∧ ctf c = 9) ∨ (c = 118 ∧ ctf c = 11) ∨ (¬ c = 97 ∧ ¬ c = 102 ∧ ¬ c = 110 ∧ ¬ c = 114 ∧ ¬ c = 116 ∧ ¬ c = 118 ∧ ctf c = -1) := by unfold ctf; (repeat' split) <;> omega
theorem ctf_in (c : Int) : -1 ≤ ctf c ∧ ctf c ≤ 13 := by have := ctf_c c; omega
theorem ctf_0 {c : Int} (h : 0 ≤ ctf c) : 0 ≤ c := by have := ctf_c c; omega
def wlf (c : Int) : Int := if c = 76 then 3 else if c = 78 then 4 else if c = 71 then 5 else if c = 89 then 6 else -1
theorem wlf_c (c : Int) : (c = 76 ∧ wlf c = 3) ∨ (c = 78 ∧ wlf c = 4) ∨ (c = 71 ∧ wlf c = 5) ∨ (c = 89 ∧ wlf c = 6) ∨ (¬ c = 76 ∧ ¬ c = 78 ∧ ¬ c = 71 ∧ ¬ c = 89 ∧ wlf c = -1) := by unfold wlf; (repeat' split) <;> omega
theorem wlf_in (c : Int) : -1 ≤ wlf c ∧ wlf c ≤ 6 := by have := wlf_c c; omega
theorem wlf_0 {c : Int} (h : 0 ≤ wlf c) : 3 ≤ wlf c ∧ 0 ≤ c := by have := wlf_c c; omega
def q16 : Int → Int := fun i => ([1, 16, 256, 4096, 65536, 1048576, 16777216, 268435456] : List Int).getD i.toNat 0
theorem q16_in : ∀ n : Int, 0 ≤ n → n < 8 → 1 ≤ q16 n ∧ q16 n ≤ 268435456 := z_all 8 (by decide)
theorem q16_s : ∀ n : Int, 0 ≤ n → n < 7 → q16 (n + 1) = 16 * q16 n := z_all (Q := fun n => q16 (n + 1) = 16 * q16 n) 7 (by decide)
set_option maxRecDepth 100000 in
set_option maxHeartbeats 4000000 in
theorem z_MO_here {X : ab_X} {d : Nat} {o : Nat → Nat} {G : ab_G} {m_thrown : Int} {m_taped : Int} {m_length : Int} {m_out : Int} {m_wide : Int} {m_gathered : Int} {m_sets : Int} {m_ranges : Int} {m_nodes : Int} {m_at : Int} {m_flags : Int} {m_fault : Int} {m_place : Int} {m_numbered : Int} {m_depth : Int} {m_value : Int} {m_isNot : Int} {m_least0 : Int} {m_most0 : Int} {m_slot : Int} {m_work : Int} {m_got : Int} {m_rowMany : Int} {m_charAt : Int} {m_charWide : Int} {m_trail : Int} {m_isMatch : Int} {m_matchGroups : Int} {m_allFrom : Int} {m_allBefore : Int} {m_founds : Int} {m_pieces : Int} {m_writtenMany : Int} {m_templateWide : Int} {m_tooMuch : Int} {A_tape : Int → Int} {k : Int} (h80 : cc o G 80 280 (ab_ob 12 (mof m_thrown m_taped m_length m_out m_wide m_gathered m_sets m_ranges m_nodes m_at m_flags m_fault m_place m_numbered m_depth m_value m_isNot m_least0 m_most0 m_slot m_work m_got m_rowMany m_charAt m_charWide m_trail m_isMatch m_matchGroups m_allFrom m_allBefore m_founds m_pieces m_writtenMany m_templateWide m_tooMuch))) (h84 : cc o G 84 284 (za 2000 A_tape)) (cat : 0 ≤ m_at ∧ m_at ≤ 4000) (cta : 0 ≤ m_taped ∧ m_taped ≤ 2000) (jtp : rgs A_tape 2000 0 255) (ck : 0 ≤ k ∧ k ≤ 2100) : ab_F X d y_MO_here (.code y_MO_here b_MO_here 2 (some (.int))) [vR 80, vz k] G (fun oc G2 => (oc = .returned (some (vz (A_tape (m_at + k)))) ∧ G2 = G ∧ (0 ≤ A_tape (m_at + k) ∧ A_tape (m_at + k) ≤ 255 ∧ m_at + k < m_taped)) ∨ (oc = .returned (some (vz (-1))) ∧ G2 = G ∧ (m_taped ≤ m_at + k))) := by
  refine ab_F_of (by decide +kernel) (Nat.le_of_ble_eq_true rfl) ?_
  obtain ⟨Q, hQ⟩ : ∃ z : Outcome → ab_G → Prop, z = (fun oc G2 => (oc = .returned (some (vz (A_tape (m_at + k)))) ∧ G2 = G ∧ (0 ≤ A_tape (m_at + k) ∧ A_tape (m_at + k) ≤ 255 ∧ m_at + k < m_taped)) ∨ (oc = .returned (some (vz (-1))) ∧ G2 = G ∧ (m_taped ≤ m_at + k))) := ⟨_, rfl⟩
  rw [← hQ]
  change ab_W X (ab_pl y_MO_here b_MO_here 2 (some (.int))) d G 0 [some (vR 80), some (vz k)] [] Q
  have hfr : fx o o [] G G := fx.rf
  have hlen : G.length = G.length := rfl
  have hsl : ab_slots G = ab_slots G := rfl
  refine ab_aload_n d_MO_here_0 rfl ?_
  refine ab_getf (fs := mof m_thrown m_taped m_length m_out m_wide m_gathered m_sets m_ranges m_nodes m_at m_flags m_fault m_place m_numbered m_depth m_value m_isNot m_least0 m_most0 m_slot m_work m_got m_rowMany m_charAt m_charWide m_trail m_isMatch m_matchGroups m_allFrom m_allBefore m_founds m_pieces m_writtenMany m_templateWide m_tooMuch) f_MO_279 d_MO_here_1 h80.2.2 rfl ?_
  refine ab_iload_n d_MO_here_4 rfl ?_
  refine zz_iadd d_MO_here_5 ?_
  refine ab_aload_n d_MO_here_6 rfl ?_
  refine ab_getf (fs := mof m_thrown m_taped m_length m_out m_wide m_gathered m_sets m_ranges m_nodes m_at m_flags m_fault m_place m_numbered m_depth m_value m_isNot m_least0 m_most0 m_slot m_work m_got m_rowMany m_charAt m_charWide m_trail m_isMatch m_matchGroups m_allFrom m_allBefore m_founds m_pieces m_writtenMany m_templateWide m_tooMuch) f_MO_223 d_MO_here_7 h80.2.2 rfl ?_
  refine zz_icmp_ge (tgt := 27) d_MO_here_10 (by decide) (by omega) (by omega) (fun c1 => ?_) (fun c1 => ?_)
  · refine zz_iconst d_MO_here_27 ?_
    refine zz_iret rfl d_MO_here_28 ?_
    rw [hQ]; exact (Or.inr ⟨rfl, rfl, (by omega)⟩)
  · refine ab_aload_n d_MO_here_13 rfl ?_
    refine ab_getf (fs := mof m_thrown m_taped m_length m_out m_wide m_gathered m_sets m_ranges m_nodes m_at m_flags m_fault m_place m_numbered m_depth m_value m_isNot m_least0 m_most0 m_slot m_work m_got m_rowMany m_charAt m_charWide m_trail m_isMatch m_matchGroups m_allFrom m_allBefore m_founds m_pieces m_writtenMany m_templateWide m_tooMuch) f_MO_19 d_MO_here_14 h80.2.2 rfl ?_
    refine ab_aload_n d_MO_here_17 rfl ?_
    refine ab_getf (fs := mof m_thrown m_taped m_length m_out m_wide m_gathered m_sets m_ranges m_nodes m_at m_flags m_fault m_place m_numbered m_depth m_value m_isNot m_least0 m_most0 m_slot m_work m_got m_rowMany m_charAt m_charWide m_trail m_isMatch m_matchGroups m_allFrom m_allBefore m_founds m_pieces m_writtenMany m_templateWide m_tooMuch) f_MO_279 d_MO_here_18 h80.2.2 rfl ?_
    refine ab_iload_n d_MO_here_21 rfl ?_
    refine zz_iadd d_MO_here_22 ?_
    refine zz_iald d_MO_here_23 h84 (by omega) ?_
    have hq2 := jtp (m_at + k) (by omega) (by omega)
    refine ab_goto (tgt := 28) d_MO_here_24 (by decide) ?_
    refine zz_iret rfl d_MO_here_28 ?_
    rw [hQ]; exact (Or.inl ⟨rfl, rfl, (by omega)⟩)
set_option maxRecDepth 100000 in
set_option maxHeartbeats 4000000 in
theorem z_MO_has {X : ab_X} {d : Nat} {o : Nat → Nat} {G : ab_G} {m_thrown : Int} {m_taped : Int} {m_length : Int} {m_out : Int} {m_wide : Int} {m_gathered : Int} {m_sets : Int} {m_ranges : Int} {m_nodes : Int} {m_at : Int} {m_flags : Int} {m_fault : Int} {m_place : Int} {m_numbered : Int} {m_depth : Int} {m_value : Int} {m_isNot : Int} {m_least0 : Int} {m_most0 : Int} {m_slot : Int} {m_work : Int} {m_got : Int} {m_rowMany : Int} {m_charAt : Int} {m_charWide : Int} {m_trail : Int} {m_isMatch : Int} {m_matchGroups : Int} {m_allFrom : Int} {m_allBefore : Int} {m_founds : Int} {m_pieces : Int} {m_writtenMany : Int} {m_templateWide : Int} {m_tooMuch : Int} {x : Int} (h80 : cc o G 80 280 (ab_ob 12 (mof m_thrown m_taped m_length m_out m_wide m_gathered m_sets m_ranges m_nodes m_at m_flags m_fault m_place m_numbered m_depth m_value m_isNot m_least0 m_most0 m_slot m_work m_got m_rowMany m_charAt m_charWide m_trail m_isMatch m_matchGroups m_allFrom m_allBefore m_founds m_pieces m_writtenMany m_templateWide m_tooMuch))) : ab_F X d y_MO_has (.code y_MO_has b_MO_has 2 (some (.boolean))) [vR 80, vz x] G (fun oc G2 => ∃ v : Int, oc = .returned (some (vz v)) ∧ G2 = G ∧ (0 ≤ v ∧ v ≤ 1)) := by
  refine ab_F_of (by decide +kernel) (Nat.le_of_ble_eq_true rfl) ?_
  obtain ⟨Q, hQ⟩ : ∃ z : Outcome → ab_G → Prop, z = (fun oc G2 => ∃ v : Int, oc = .returned (some (vz v)) ∧ G2 = G ∧ (0 ≤ v ∧ v ≤ 1)) := ⟨_, rfl⟩
  rw [← hQ]
  change ab_W X (ab_pl y_MO_has b_MO_has 2 (some (.boolean))) d G 0 [some (vR 80), some (vz x)] [] Q
  have hfr : fx o o [] G G := fx.rf
  have hlen : G.length = G.length := rfl
  have hsl : ab_slots G = ab_slots G := rfl
  refine ab_aload_n d_MO_has_0 rfl ?_
  refine ab_getf (fs := mof m_thrown m_taped m_length m_out m_wide m_gathered m_sets m_ranges m_nodes m_at m_flags m_fault m_place m_numbered m_depth m_value m_isNot m_least0 m_most0 m_slot m_work m_got m_rowMany m_charAt m_charWide m_trail m_isMatch m_matchGroups m_allFrom m_allBefore m_founds m_pieces m_writtenMany m_templateWide m_tooMuch) f_MO_276 d_MO_has_1 h80.2.2 rfl ?_
  refine ab_iload_n d_MO_has_4 rfl ?_
  refine ab_iand d_MO_has_5 ?_
  obtain ⟨v1, hv1, ev1⟩ := z_ex (Int32.ofInt m_flags &&& Int32.ofInt x)
  refine ab_topi ev1 ?_
  change ab_W _ _ _ G 6 [some (vR 80), some (vz x)] [vz v1] _
  refine zz_if_le (tgt := 13) d_MO_has_6 (by decide) (by omega) (fun c2 => ?_) (fun c2 => ?_)
  · refine zz_iconst d_MO_has_13 ?_
    refine zz_bret rfl (by decide) d_MO_has_14 ?_
    rw [hQ]; exact ⟨_, rfl, rfl, (by omega)⟩
  · refine zz_iconst d_MO_has_9 ?_
    refine ab_goto (tgt := 14) d_MO_has_10 (by decide) ?_
    refine zz_bret rfl (by decide) d_MO_has_14 ?_
    rw [hQ]; exact ⟨_, rfl, rfl, (by omega)⟩
set_option maxRecDepth 100000 in
set_option maxHeartbeats 4000000 in
theorem z_MO_wrong {X : ab_X} {d : Nat} {o : Nat → Nat} {G : ab_G} {m_thrown : Int} {m_taped : Int} {m_length : Int} {m_out : Int} {m_wide : Int} {m_gathered : Int} {m_sets : Int} {m_ranges : Int} {m_nodes : Int} {m_at : Int} {m_flags : Int} {m_fault : Int} {m_place : Int} {m_numbered : Int} {m_depth : Int} {m_value : Int} {m_isNot : Int} {m_least0 : Int} {m_most0 : Int} {m_slot : Int} {m_work : Int} {m_got : Int} {m_rowMany : Int} {m_charAt : Int} {m_charWide : Int} {m_trail : Int} {m_isMatch : Int} {m_matchGroups : Int} {m_allFrom : Int} {m_allBefore : Int} {m_founds : Int} {m_pieces : Int} {m_writtenMany : Int} {m_templateWide : Int} {m_tooMuch : Int} {x : Int} {y : Int} (h80 : cc o G 80 280 (ab_ob 12 (mof m_thrown m_taped m_length m_out m_wide m_gathered m_sets m_ranges m_nodes m_at m_flags m_fault m_place m_numbered m_depth m_value m_isNot m_least0 m_most0 m_slot m_work m_got m_rowMany m_charAt m_charWide m_trail m_isMatch m_matchGroups m_allFrom m_allBefore m_founds m_pieces m_writtenMany m_templateWide m_tooMuch))) (n18 : ab_n0 = 18) (cf : 0 ≤ m_fault ∧ m_fault ≤ 14 ∧ 1 ≤ x ∧ x ≤ 14) : ab_F X d y_MO_wrong (.code y_MO_wrong b_MO_wrong 3 none) [vR 80, vz x, vz y] G (fun oc G2 => ∃ f2 : Int, ∃ p2 : Int, oc = .returned none ∧ fx o o [280] G G2 ∧ G2.length = G.length ∧ ab_slots G2 = ab_slots G ∧ cc o G2 80 280 (ab_ob 12 (mof m_thrown m_taped m_length m_out m_wide m_gathered m_sets m_ranges m_nodes m_at m_flags f2 p2 m_numbered m_depth m_value m_isNot m_least0 m_most0 m_slot m_work m_got m_rowMany m_charAt m_charWide m_trail m_isMatch m_matchGroups m_allFrom m_allBefore m_founds m_pieces m_writtenMany m_templateWide m_tooMuch)) ∧ (1 ≤ f2 ∧ f2 ≤ 14)) := by
  refine ab_F_of (by decide +kernel) (Nat.le_of_ble_eq_true rfl) ?_
  obtain ⟨Q, hQ⟩ : ∃ z : Outcome → ab_G → Prop, z = (fun oc G2 => ∃ f2 : Int, ∃ p2 : Int, oc = .returned none ∧ fx o o [280] G G2 ∧ G2.length = G.length ∧ ab_slots G2 = ab_slots G ∧ cc o G2 80 280 (ab_ob 12 (mof m_thrown m_taped m_length m_out m_wide m_gathered m_sets m_ranges m_nodes m_at m_flags f2 p2 m_numbered m_depth m_value m_isNot m_least0 m_most0 m_slot m_work m_got m_rowMany m_charAt m_charWide m_trail m_isMatch m_matchGroups m_allFrom m_allBefore m_founds m_pieces m_writtenMany m_templateWide m_tooMuch)) ∧ (1 ≤ f2 ∧ f2 ≤ 14)) := ⟨_, rfl⟩
  rw [← hQ]
  change ab_W X (ab_pl y_MO_wrong b_MO_wrong 3 none) d G 0 [some (vR 80), some (vz x), some (vz y)] [] Q
  have hfr : fx o o [280] G G := fx.rf
  have hlen : G.length = G.length := rfl
  have hsl : ab_slots G = ab_slots G := rfl
  refine ab_aload_n d_MO_wrong_0 rfl ?_
  refine ab_getf (fs := mof m_thrown m_taped m_length m_out m_wide m_gathered m_sets m_ranges m_nodes m_at m_flags m_fault m_place m_numbered m_depth m_value m_isNot m_least0 m_most0 m_slot m_work m_got m_rowMany m_charAt m_charWide m_trail m_isMatch m_matchGroups m_allFrom m_allBefore m_founds m_pieces m_writtenMany m_templateWide m_tooMuch) f_MO_273 d_MO_wrong_1 h80.2.2 rfl ?_
  refine zz_if_le (tgt := 8) d_MO_wrong_4 (by decide) (by omega) (fun c1 => ?_) (fun c1 => ?_)
  · refine ab_aload_n d_MO_wrong_8 rfl ?_
    refine ab_iload_n d_MO_wrong_9 rfl ?_
    refine ab_putf (fs := mof m_thrown m_taped m_length m_out m_wide m_gathered m_sets m_ranges m_nodes m_at m_flags m_fault m_place m_numbered m_depth m_value m_isNot m_least0 m_most0 m_slot m_work m_got m_rowMany m_charAt m_charWide m_trail m_isMatch m_matchGroups m_allFrom m_allBefore m_founds m_pieces m_writtenMany m_templateWide m_tooMuch) f_MO_273 (Or.inl rfl) d_MO_wrong_10 h80.2.2 (Nat.le_of_ble_eq_true rfl) (fun _ => ⟨rfl, rfl⟩) (h80.2.1 (by decide)) ?_
    obtain ⟨G2, eG2⟩ : ∃ z : ab_G, z = List.set G 80 (ab_ob 12 (mof m_thrown m_taped m_length m_out m_wide m_gathered m_sets m_ranges m_nodes m_at m_flags x m_place m_numbered m_depth m_value m_isNot m_least0 m_most0 m_slot m_work m_got m_rowMany m_charAt m_charWide m_trail m_isMatch m_matchGroups m_allFrom m_allBefore m_founds m_pieces m_writtenMany m_templateWide m_tooMuch)) := ⟨_, rfl⟩
    have hlen := (z_len eG2).trans hlen
    have hsl := (z_sl h80 eG2 rfl).trans hsl
    have hfr := hfr.wr h80 eG2 (by decide)
    have h80 := h80.kept eG2
    change ab_W _ _ _ (List.set G 80 (ab_ob 12 (mof m_thrown m_taped m_length m_out m_wide m_gathered m_sets m_ranges m_nodes m_at m_flags x m_place m_numbered m_depth m_value m_isNot m_least0 m_most0 m_slot m_work m_got m_rowMany m_charAt m_charWide m_trail m_isMatch m_matchGroups m_allFrom m_allBefore m_founds m_pieces m_writtenMany m_templateWide m_tooMuch))) 13 [some (vR 80), some (vz x), some (vz y)] [] _
    rw [← eG2]
    refine ab_aload_n d_MO_wrong_13 rfl ?_
    refine ab_iload_n d_MO_wrong_14 rfl ?_
    refine ab_putf (fs := mof m_thrown m_taped m_length m_out m_wide m_gathered m_sets m_ranges m_nodes m_at m_flags x m_place m_numbered m_depth m_value m_isNot m_least0 m_most0 m_slot m_work m_got m_rowMany m_charAt m_charWide m_trail m_isMatch m_matchGroups m_allFrom m_allBefore m_founds m_pieces m_writtenMany m_templateWide m_tooMuch) f_MO_75 (Or.inl rfl) d_MO_wrong_15 h80.2.2 (Nat.le_of_ble_eq_true rfl) (fun _ => ⟨rfl, rfl⟩) (h80.2.1 (by decide)) ?_
    obtain ⟨G3, eG3⟩ : ∃ z : ab_G, z = List.set G2 80 (ab_ob 12 (mof m_thrown m_taped m_length m_out m_wide m_gathered m_sets m_ranges m_nodes m_at m_flags x y m_numbered m_depth m_value m_isNot m_least0 m_most0 m_slot m_work m_got m_rowMany m_charAt m_charWide m_trail m_isMatch m_matchGroups m_allFrom m_allBefore m_founds m_pieces m_writtenMany m_templateWide m_tooMuch)) := ⟨_, rfl⟩
    have hlen := (z_len eG3).trans hlen
    have hsl := (z_sl h80 eG3 rfl).trans hsl
    have hfr := hfr.wr h80 eG3 (by decide)
    have h80 := h80.kept eG3
    change ab_W _ _ _ (List.set G2 80 (ab_ob 12 (mof m_thrown m_taped m_length m_out m_wide m_gathered m_sets m_ranges m_nodes m_at m_flags x y m_numbered m_depth m_value m_isNot m_least0 m_most0 m_slot m_work m_got m_rowMany m_charAt m_charWide m_trail m_isMatch m_matchGroups m_allFrom m_allBefore m_founds m_pieces m_writtenMany m_templateWide m_tooMuch))) 18 [some (vR 80), some (vz x), some (vz y)] [] _
    rw [← eG3]
    refine ab_vret rfl d_MO_wrong_18 ?_
    rw [hQ]; exact ⟨_, _, rfl, hfr, hlen, hsl, h80, (by omega)⟩
  · refine ab_vret rfl d_MO_wrong_7 ?_
    rw [hQ]; exact ⟨_, _, rfl, hfr, hlen, hsl, h80, (by omega)⟩
set_option maxRecDepth 100000 in
set_option maxHeartbeats 4000000 in
theorem z_MO_hex {X : ab_X} {d : Nat} {o : Nat → Nat} {G : ab_G} {c : Int} (rc : -2147483648 ≤ c ∧ c ≤ 2147483647) : ab_F X d y_MO_hex (.code y_MO_hex b_MO_hex 1 (some (.int))) [vz c] G (fun oc G2 => oc = .returned (some (vz (hxd c))) ∧ G2 = G ∧ (-1 ≤ hxd c ∧ hxd c ≤ 15)) := by
  refine ab_F_of (by decide +kernel) (Nat.le_of_ble_eq_true rfl) ?_
  obtain ⟨Q, hQ⟩ : ∃ z : Outcome → ab_G → Prop, z = (fun oc G2 => oc = .returned (some (vz (hxd c))) ∧ G2 = G ∧ (-1 ≤ hxd c ∧ hxd c ≤ 15)) := ⟨_, rfl⟩
  rw [← hQ]
  change ab_W X (ab_pl y_MO_hex b_MO_hex 1 (some (.int))) d G 0 [some (vz c)] [] Q
  have hfr : fx o o [] G G := fx.rf
  have hlen : G.length = G.length := rfl
  have hsl : ab_slots G = ab_slots G := rfl
  refine ab_iload_n d_MO_hex_0 rfl ?_
  refine zz_bipush d_MO_hex_1 (by decide) ?_
  refine zz_icmp_lt (tgt := 19) d_MO_hex_3 (by decide) (by omega) (by decide) (fun c1 => ?_) (fun c1 => ?_)
  · refine ab_iload_n d_MO_hex_19 rfl ?_
    refine zz_bipush d_MO_hex_20 (by decide) ?_
    refine zz_icmp_lt (tgt := 41) d_MO_hex_22 (by decide) (by omega) (by decide) (fun c2 => ?_) (fun c2 => absurd c2 (by omega))
    refine ab_iload_n d_MO_hex_41 rfl ?_
    refine zz_bipush d_MO_hex_42 (by decide) ?_
    refine zz_icmp_lt (tgt := 63) d_MO_hex_44 (by decide) (by omega) (by decide) (fun c3 => ?_) (fun c3 => absurd c3 (by omega))
    refine zz_iconst d_MO_hex_63 ?_
    refine zz_top (y := (hxd c)) (by have t_ := hxd_c c; omega) ?_
    change ab_W _ _ _ G 64 [some (vz c)] [vz (hxd c)] _
    refine zz_iret rfl d_MO_hex_64 ?_
    rw [hQ]; exact ⟨rfl, rfl, (by exact hxd_in c)⟩
  · refine ab_iload_n d_MO_hex_6 rfl ?_
    refine zz_bipush d_MO_hex_7 (by decide) ?_
    refine zz_icmp_gt (tgt := 19) d_MO_hex_9 (by decide) (by omega) (by decide) (fun c4 => ?_) (fun c4 => ?_)
    · refine ab_iload_n d_MO_hex_19 rfl ?_
      refine zz_bipush d_MO_hex_20 (by decide) ?_
      refine zz_icmp_lt (tgt := 41) d_MO_hex_22 (by decide) (by omega) (by decide) (fun c5 => ?_) (fun c5 => ?_)
      · refine ab_iload_n d_MO_hex_41 rfl ?_
        refine zz_bipush d_MO_hex_42 (by decide) ?_
        refine zz_icmp_lt (tgt := 63) d_MO_hex_44 (by decide) (by omega) (by decide) (fun c6 => ?_) (fun c6 => ?_)
        · refine zz_iconst d_MO_hex_63 ?_
          refine zz_top (y := (hxd c)) (by have t_ := hxd_c c; omega) ?_
          change ab_W _ _ _ G 64 [some (vz c)] [vz (hxd c)] _
          refine zz_iret rfl d_MO_hex_64 ?_
          rw [hQ]; exact ⟨rfl, rfl, (by exact hxd_in c)⟩
        · refine ab_iload_n d_MO_hex_47 rfl ?_
          refine zz_bipush d_MO_hex_48 (by decide) ?_
          refine zz_icmp_gt (tgt := 63) d_MO_hex_50 (by decide) (by omega) (by decide) (fun c7 => ?_) (fun c7 => ?_)
          · refine zz_iconst d_MO_hex_63 ?_
            refine zz_top (y := (hxd c)) (by have t_ := hxd_c c; omega) ?_
            change ab_W _ _ _ G 64 [some (vz c)] [vz (hxd c)] _
            refine zz_iret rfl d_MO_hex_64 ?_
            rw [hQ]; exact ⟨rfl, rfl, (by exact hxd_in c)⟩
          · refine ab_iload_n d_MO_hex_53 rfl ?_
            refine zz_bipush d_MO_hex_54 (by decide) ?_
            refine zz_isub d_MO_hex_56 ?_
            refine zz_bipush d_MO_hex_57 (by decide) ?_
            refine zz_iadd d_MO_hex_59 ?_
            refine ab_goto (tgt := 64) d_MO_hex_60 (by decide) ?_
            refine zz_top (y := (hxd c)) (by have t_ := hxd_c c; omega) ?_
            change ab_W _ _ _ G 64 [some (vz c)] [vz (hxd c)] _
            refine zz_iret rfl d_MO_hex_64 ?_
            rw [hQ]; exact ⟨rfl, rfl, (by exact hxd_in c)⟩
      · refine ab_iload_n d_MO_hex_25 rfl ?_
        refine zz_bipush d_MO_hex_26 (by decide) ?_
        refine zz_icmp_gt (tgt := 41) d_MO_hex_28 (by decide) (by omega) (by decide) (fun c8 => ?_) (fun c8 => ?_)
        · refine ab_iload_n d_MO_hex_41 rfl ?_
          refine zz_bipush d_MO_hex_42 (by decide) ?_
          refine zz_icmp_lt (tgt := 63) d_MO_hex_44 (by decide) (by omega) (by decide) (fun c9 => absurd c9 (by omega)) (fun c9 => ?_)
          refine ab_iload_n d_MO_hex_47 rfl ?_
          refine zz_bipush d_MO_hex_48 (by decide) ?_
          refine zz_icmp_gt (tgt := 63) d_MO_hex_50 (by decide) (by omega) (by decide) (fun c10 => ?_) (fun c10 => absurd c10 (by omega))
          refine zz_iconst d_MO_hex_63 ?_
          refine zz_top (y := (hxd c)) (by have t_ := hxd_c c; omega) ?_
          change ab_W _ _ _ G 64 [some (vz c)] [vz (hxd c)] _
          refine zz_iret rfl d_MO_hex_64 ?_
          rw [hQ]; exact ⟨rfl, rfl, (by exact hxd_in c)⟩
        · refine ab_iload_n d_MO_hex_31 rfl ?_
          refine zz_bipush d_MO_hex_32 (by decide) ?_
          refine zz_isub d_MO_hex_34 ?_
          refine zz_bipush d_MO_hex_35 (by decide) ?_
          refine zz_iadd d_MO_hex_37 ?_
          refine ab_goto (tgt := 64) d_MO_hex_38 (by decide) ?_
          refine zz_top (y := (hxd c)) (by have t_ := hxd_c c; omega) ?_
          change ab_W _ _ _ G 64 [some (vz c)] [vz (hxd c)] _
          refine zz_iret rfl d_MO_hex_64 ?_
          rw [hQ]; exact ⟨rfl, rfl, (by exact hxd_in c)⟩
    · refine ab_iload_n d_MO_hex_12 rfl ?_
      refine zz_bipush d_MO_hex_13 (by decide) ?_
      refine zz_isub d_MO_hex_15 ?_
      refine ab_goto (tgt := 64) d_MO_hex_16 (by decide) ?_
      refine zz_top (y := (hxd c)) (by have t_ := hxd_c c; omega) ?_
      change ab_W _ _ _ G 64 [some (vz c)] [vz (hxd c)] _
      refine zz_iret rfl d_MO_hex_64 ?_
      rw [hQ]; exact ⟨rfl, rfl, (by exact hxd_in c)⟩
set_option maxRecDepth 100000 in
set_option maxHeartbeats 4000000 in
theorem z_MO_control {X : ab_X} {d : Nat} {o : Nat → Nat} {G : ab_G} {c : Int} (rc : -2147483648 ≤ c ∧ c ≤ 2147483647) : ab_F X d y_MO_control (.code y_MO_control b_MO_control 1 (some (.int))) [vz c] G (fun oc G2 => oc = .returned (some (vz (ctf c))) ∧ G2 = G ∧ (-1 ≤ ctf c ∧ ctf c ≤ 13)) := by
  refine ab_F_of (by decide +kernel) (Nat.le_of_ble_eq_true rfl) ?_
  obtain ⟨Q, hQ⟩ : ∃ z : Outcome → ab_G → Prop, z = (fun oc G2 => oc = .returned (some (vz (ctf c))) ∧ G2 = G ∧ (-1 ≤ ctf c ∧ ctf c ≤ 13)) := ⟨_, rfl⟩
  rw [← hQ]
  change ab_W X (ab_pl y_MO_control b_MO_control 1 (some (.int))) d G 0 [some (vz c)] [] Q
  have hfr : fx o o [] G G := fx.rf
  have hlen : G.length = G.length := rfl
  have hsl : ab_slots G = ab_slots G := rfl
  refine ab_iload_n d_MO_control_0 rfl ?_
  refine zz_bipush d_MO_control_1 (by decide) ?_
  refine zz_icmp_ne (tgt := 11) d_MO_control_3 (by decide) (by omega) (by decide) (fun c1 => ?_) (fun c1 => ?_)
  · refine ab_iload_n d_MO_control_11 rfl ?_
    refine zz_bipush d_MO_control_12 (by decide) ?_
    refine zz_icmp_ne (tgt := 22) d_MO_control_14 (by decide) (by omega) (by decide) (fun c2 => ?_) (fun c2 => ?_)
    · refine ab_iload_n d_MO_control_22 rfl ?_
      refine zz_bipush d_MO_control_23 (by decide) ?_
      refine zz_icmp_ne (tgt := 33) d_MO_control_25 (by decide) (by omega) (by decide) (fun c3 => ?_) (fun c3 => ?_)
      · refine ab_iload_n d_MO_control_33 rfl ?_
        refine zz_bipush d_MO_control_34 (by decide) ?_
        refine zz_icmp_ne (tgt := 44) d_MO_control_36 (by decide) (by omega) (by decide) (fun c4 => ?_) (fun c4 => ?_)
        · refine ab_iload_n d_MO_control_44 rfl ?_
          refine zz_bipush d_MO_control_45 (by decide) ?_
          refine zz_icmp_ne (tgt := 55) d_MO_control_47 (by decide) (by omega) (by decide) (fun c5 => ?_) (fun c5 => ?_)
          · refine ab_iload_n d_MO_control_55 rfl ?_
            refine zz_bipush d_MO_control_56 (by decide) ?_
            refine zz_icmp_ne (tgt := 66) d_MO_control_58 (by decide) (by omega) (by decide) (fun c6 => ?_) (fun c6 => ?_)
            · refine zz_iconst d_MO_control_66 ?_
              refine zz_top (y := (ctf c)) (by have t_ := ctf_c c; omega) ?_
              change ab_W _ _ _ G 67 [some (vz c)] [vz (ctf c)] _
              refine zz_iret rfl d_MO_control_67 ?_
              rw [hQ]; exact ⟨rfl, rfl, (by exact ctf_in c)⟩
            · refine zz_bipush d_MO_control_61 (by decide) ?_
              refine ab_goto (tgt := 67) d_MO_control_63 (by decide) ?_
              refine zz_top (y := (ctf c)) (by have t_ := ctf_c c; omega) ?_
              change ab_W _ _ _ G 67 [some (vz c)] [vz (ctf c)] _
              refine zz_iret rfl d_MO_control_67 ?_
              rw [hQ]; exact ⟨rfl, rfl, (by exact ctf_in c)⟩
          · refine zz_bipush d_MO_control_50 (by decide) ?_
            refine ab_goto (tgt := 67) d_MO_control_52 (by decide) ?_
            refine zz_top (y := (ctf c)) (by have t_ := ctf_c c; omega) ?_
            change ab_W _ _ _ G 67 [some (vz c)] [vz (ctf c)] _
            refine zz_iret rfl d_MO_control_67 ?_
            rw [hQ]; exact ⟨rfl, rfl, (by exact ctf_in c)⟩
        · refine zz_bipush d_MO_control_39 (by decide) ?_
          refine ab_goto (tgt := 67) d_MO_control_41 (by decide) ?_
          refine zz_top (y := (ctf c)) (by have t_ := ctf_c c; omega) ?_
          change ab_W _ _ _ G 67 [some (vz c)] [vz (ctf c)] _
          refine zz_iret rfl d_MO_control_67 ?_
          rw [hQ]; exact ⟨rfl, rfl, (by exact ctf_in c)⟩
      · refine zz_bipush d_MO_control_28 (by decide) ?_
        refine ab_goto (tgt := 67) d_MO_control_30 (by decide) ?_
        refine zz_top (y := (ctf c)) (by have t_ := ctf_c c; omega) ?_
        change ab_W _ _ _ G 67 [some (vz c)] [vz (ctf c)] _
        refine zz_iret rfl d_MO_control_67 ?_
        rw [hQ]; exact ⟨rfl, rfl, (by exact ctf_in c)⟩
    · refine zz_bipush d_MO_control_17 (by decide) ?_
      refine ab_goto (tgt := 67) d_MO_control_19 (by decide) ?_
      refine zz_top (y := (ctf c)) (by have t_ := ctf_c c; omega) ?_
      change ab_W _ _ _ G 67 [some (vz c)] [vz (ctf c)] _
      refine zz_iret rfl d_MO_control_67 ?_
      rw [hQ]; exact ⟨rfl, rfl, (by exact ctf_in c)⟩
  · refine zz_bipush d_MO_control_6 (by decide) ?_
    refine ab_goto (tgt := 67) d_MO_control_8 (by decide) ?_
    refine zz_top (y := (ctf c)) (by have t_ := ctf_c c; omega) ?_
    change ab_W _ _ _ G 67 [some (vz c)] [vz (ctf c)] _
    refine zz_iret rfl d_MO_control_67 ?_
    rw [hQ]; exact ⟨rfl, rfl, (by exact ctf_in c)⟩
set_option maxRecDepth 100000 in
set_option maxHeartbeats 4000000 in
theorem z_MO_whichSet {X : ab_X} {d : Nat} {o : Nat → Nat} {G : ab_G} {c : Int} (rc : -2147483648 ≤ c ∧ c ≤ 2147483647) : ab_F X d y_MO_whichSet (.code y_MO_whichSet b_MO_whichSet 1 (some (.int))) [vz c] G (fun oc G2 => ∃ v : Int, oc = .returned (some (vz v)) ∧ G2 = G ∧ (0 ≤ v ∧ v ≤ 2)) := by
  refine ab_F_of (by decide +kernel) (Nat.le_of_ble_eq_true rfl) ?_
  obtain ⟨Q, hQ⟩ : ∃ z : Outcome → ab_G → Prop, z = (fun oc G2 => ∃ v : Int, oc = .returned (some (vz v)) ∧ G2 = G ∧ (0 ≤ v ∧ v ≤ 2)) := ⟨_, rfl⟩
  rw [← hQ]
  change ab_W X (ab_pl y_MO_whichSet b_MO_whichSet 1 (some (.int))) d G 0 [some (vz c)] [] Q
  have hfr : fx o o [] G G := fx.rf
  have hlen : G.length = G.length := rfl
  have hsl : ab_slots G = ab_slots G := rfl
  refine ab_iload_n d_MO_whichSet_0 rfl ?_
  refine zz_bipush d_MO_whichSet_1 (by decide) ?_
  refine zz_icmp_eq (tgt := 12) d_MO_whichSet_3 (by decide) (by omega) (by decide) (fun c1 => ?_) (fun c1 => ?_)
  · refine zz_iconst d_MO_whichSet_12 ?_
    refine ab_goto (tgt := 33) d_MO_whichSet_13 (by decide) ?_
    refine zz_iret rfl d_MO_whichSet_33 ?_
    rw [hQ]; exact ⟨_, rfl, rfl, (by omega)⟩
  · refine ab_iload_n d_MO_whichSet_6 rfl ?_
    refine zz_bipush d_MO_whichSet_7 (by decide) ?_
    refine zz_icmp_ne (tgt := 16) d_MO_whichSet_9 (by decide) (by omega) (by decide) (fun c2 => ?_) (fun c2 => ?_)
    · refine ab_iload_n d_MO_whichSet_16 rfl ?_
      refine zz_bipush d_MO_whichSet_17 (by decide) ?_
      refine zz_icmp_eq (tgt := 28) d_MO_whichSet_19 (by decide) (by omega) (by decide) (fun c3 => ?_) (fun c3 => ?_)
      · refine zz_iconst d_MO_whichSet_28 ?_
        refine ab_goto (tgt := 33) d_MO_whichSet_29 (by decide) ?_
        refine zz_iret rfl d_MO_whichSet_33 ?_
        rw [hQ]; exact ⟨_, rfl, rfl, (by omega)⟩
      · refine ab_iload_n d_MO_whichSet_22 rfl ?_
        refine zz_bipush d_MO_whichSet_23 (by decide) ?_
        refine zz_icmp_ne (tgt := 32) d_MO_whichSet_25 (by decide) (by omega) (by decide) (fun c4 => ?_) (fun c4 => ?_)
        · refine zz_iconst d_MO_whichSet_32 ?_
          refine zz_iret rfl d_MO_whichSet_33 ?_
          rw [hQ]; exact ⟨_, rfl, rfl, (by omega)⟩
        · refine zz_iconst d_MO_whichSet_28 ?_
          refine ab_goto (tgt := 33) d_MO_whichSet_29 (by decide) ?_
          refine zz_iret rfl d_MO_whichSet_33 ?_
          rw [hQ]; exact ⟨_, rfl, rfl, (by omega)⟩
    · refine zz_iconst d_MO_whichSet_12 ?_
      refine ab_goto (tgt := 33) d_MO_whichSet_13 (by decide) ?_
      refine zz_iret rfl d_MO_whichSet_33 ?_
      rw [hQ]; exact ⟨_, rfl, rfl, (by omega)⟩
set_option maxRecDepth 100000 in
set_option maxHeartbeats 4000000 in
theorem z_MO_whichLetter {X : ab_X} {d : Nat} {o : Nat → Nat} {G : ab_G} {c : Int} (rc : -2147483648 ≤ c ∧ c ≤ 2147483647) : ab_F X d y_MO_whichLetter (.code y_MO_whichLetter b_MO_whichLetter 1 (some (.int))) [vz c] G (fun oc G2 => oc = .returned (some (vz (wlf c))) ∧ G2 = G ∧ (-1 ≤ wlf c ∧ wlf c ≤ 6)) := by
  refine ab_F_of (by decide +kernel) (Nat.le_of_ble_eq_true rfl) ?_
  obtain ⟨Q, hQ⟩ : ∃ z : Outcome → ab_G → Prop, z = (fun oc G2 => oc = .returned (some (vz (wlf c))) ∧ G2 = G ∧ (-1 ≤ wlf c ∧ wlf c ≤ 6)) := ⟨_, rfl⟩
  rw [← hQ]
  change ab_W X (ab_pl y_MO_whichLetter b_MO_whichLetter 1 (some (.int))) d G 0 [some (vz c)] [] Q
  have hfr : fx o o [] G G := fx.rf
  have hlen : G.length = G.length := rfl
  have hsl : ab_slots G = ab_slots G := rfl
  refine ab_iload_n d_MO_whichLetter_0 rfl ?_
  refine zz_bipush d_MO_whichLetter_1 (by decide) ?_
  refine zz_icmp_ne (tgt := 10) d_MO_whichLetter_3 (by decide) (by omega) (by decide) (fun c1 => ?_) (fun c1 => ?_)
  · refine ab_iload_n d_MO_whichLetter_10 rfl ?_
    refine zz_bipush d_MO_whichLetter_11 (by decide) ?_
    refine zz_icmp_ne (tgt := 20) d_MO_whichLetter_13 (by decide) (by omega) (by decide) (fun c2 => ?_) (fun c2 => ?_)
    · refine ab_iload_n d_MO_whichLetter_20 rfl ?_
      refine zz_bipush d_MO_whichLetter_21 (by decide) ?_
      refine zz_icmp_ne (tgt := 30) d_MO_whichLetter_23 (by decide) (by omega) (by decide) (fun c3 => ?_) (fun c3 => ?_)
      · refine ab_iload_n d_MO_whichLetter_30 rfl ?_
        refine zz_bipush d_MO_whichLetter_31 (by decide) ?_
        refine zz_icmp_ne (tgt := 41) d_MO_whichLetter_33 (by decide) (by omega) (by decide) (fun c4 => ?_) (fun c4 => ?_)
        · refine zz_iconst d_MO_whichLetter_41 ?_
          refine zz_top (y := (wlf c)) (by have t_ := wlf_c c; omega) ?_
          change ab_W _ _ _ G 42 [some (vz c)] [vz (wlf c)] _
          refine zz_iret rfl d_MO_whichLetter_42 ?_
          rw [hQ]; exact ⟨rfl, rfl, (by exact wlf_in c)⟩
        · refine zz_bipush d_MO_whichLetter_36 (by decide) ?_
          refine ab_goto (tgt := 42) d_MO_whichLetter_38 (by decide) ?_
          refine zz_top (y := (wlf c)) (by have t_ := wlf_c c; omega) ?_
          change ab_W _ _ _ G 42 [some (vz c)] [vz (wlf c)] _
          refine zz_iret rfl d_MO_whichLetter_42 ?_
          rw [hQ]; exact ⟨rfl, rfl, (by exact wlf_in c)⟩
      · refine zz_iconst d_MO_whichLetter_26 ?_
        refine ab_goto (tgt := 42) d_MO_whichLetter_27 (by decide) ?_
        refine zz_top (y := (wlf c)) (by have t_ := wlf_c c; omega) ?_
        change ab_W _ _ _ G 42 [some (vz c)] [vz (wlf c)] _
        refine zz_iret rfl d_MO_whichLetter_42 ?_
        rw [hQ]; exact ⟨rfl, rfl, (by exact wlf_in c)⟩
    · refine zz_iconst d_MO_whichLetter_16 ?_
      refine ab_goto (tgt := 42) d_MO_whichLetter_17 (by decide) ?_
      refine zz_top (y := (wlf c)) (by have t_ := wlf_c c; omega) ?_
      change ab_W _ _ _ G 42 [some (vz c)] [vz (wlf c)] _
      refine zz_iret rfl d_MO_whichLetter_42 ?_
      rw [hQ]; exact ⟨rfl, rfl, (by exact wlf_in c)⟩
  · refine zz_iconst d_MO_whichLetter_6 ?_
    refine ab_goto (tgt := 42) d_MO_whichLetter_7 (by decide) ?_
    refine zz_top (y := (wlf c)) (by have t_ := wlf_c c; omega) ?_
    change ab_W _ _ _ G 42 [some (vz c)] [vz (wlf c)] _
    refine zz_iret rfl d_MO_whichLetter_42 ?_
    rw [hQ]; exact ⟨rfl, rfl, (by exact wlf_in c)⟩
set_option maxRecDepth 100000 in
set_option maxHeartbeats 4000000 in
theorem z_MO_flagOf {X : ab_X} {d : Nat} {o : Nat → Nat} {G : ab_G} {c : Int} (rc : -2147483648 ≤ c ∧ c ≤ 2147483647) : ab_F X d y_MO_flagOf (.code y_MO_flagOf b_MO_flagOf 1 (some (.int))) [vz c] G (fun oc G2 => ∃ v : Int, oc = .returned (some (vz v)) ∧ G2 = G ∧ (0 ≤ v ∧ v ≤ 8) ∧ (0 < v → 0 ≤ c) ∧ (flv v)) := by
  refine ab_F_of (by decide +kernel) (Nat.le_of_ble_eq_true rfl) ?_
  obtain ⟨Q, hQ⟩ : ∃ z : Outcome → ab_G → Prop, z = (fun oc G2 => ∃ v : Int, oc = .returned (some (vz v)) ∧ G2 = G ∧ (0 ≤ v ∧ v ≤ 8) ∧ (0 < v → 0 ≤ c) ∧ (flv v)) := ⟨_, rfl⟩
  rw [← hQ]
  change ab_W X (ab_pl y_MO_flagOf b_MO_flagOf 1 (some (.int))) d G 0 [some (vz c)] [] Q
  have hfr : fx o o [] G G := fx.rf
  have hlen : G.length = G.length := rfl
  have hsl : ab_slots G = ab_slots G := rfl
  refine ab_iload_n d_MO_flagOf_0 rfl ?_
  refine zz_bipush d_MO_flagOf_1 (by decide) ?_
  refine zz_icmp_ne (tgt := 10) d_MO_flagOf_3 (by decide) (by omega) (by decide) (fun c1 => ?_) (fun c1 => ?_)
  · refine ab_iload_n d_MO_flagOf_10 rfl ?_
    refine zz_bipush d_MO_flagOf_11 (by decide) ?_
    refine zz_icmp_ne (tgt := 20) d_MO_flagOf_13 (by decide) (by omega) (by decide) (fun c2 => ?_) (fun c2 => ?_)
    · refine ab_iload_n d_MO_flagOf_20 rfl ?_
      refine zz_bipush d_MO_flagOf_21 (by decide) ?_
      refine zz_icmp_ne (tgt := 30) d_MO_flagOf_23 (by decide) (by omega) (by decide) (fun c3 => ?_) (fun c3 => ?_)
      · refine ab_iload_n d_MO_flagOf_30 rfl ?_
        refine zz_bipush d_MO_flagOf_31 (by decide) ?_
        refine zz_icmp_ne (tgt := 41) d_MO_flagOf_33 (by decide) (by omega) (by decide) (fun c4 => ?_) (fun c4 => ?_)
        · refine zz_iconst d_MO_flagOf_41 ?_
          refine zz_iret rfl d_MO_flagOf_42 ?_
          rw [hQ]; exact ⟨_, rfl, rfl, (by omega), (by intro _; omega), (by unfold flv; omega)⟩
        · refine zz_bipush d_MO_flagOf_36 (by decide) ?_
          refine ab_goto (tgt := 42) d_MO_flagOf_38 (by decide) ?_
          refine zz_iret rfl d_MO_flagOf_42 ?_
          rw [hQ]; exact ⟨_, rfl, rfl, (by omega), (by intro _; omega), (by unfold flv; omega)⟩
      · refine zz_iconst d_MO_flagOf_26 ?_
        refine ab_goto (tgt := 42) d_MO_flagOf_27 (by decide) ?_
        refine zz_iret rfl d_MO_flagOf_42 ?_
        rw [hQ]; exact ⟨_, rfl, rfl, (by omega), (by intro _; omega), (by unfold flv; omega)⟩
    · refine zz_iconst d_MO_flagOf_16 ?_
      refine ab_goto (tgt := 42) d_MO_flagOf_17 (by decide) ?_
      refine zz_iret rfl d_MO_flagOf_42 ?_
      rw [hQ]; exact ⟨_, rfl, rfl, (by omega), (by intro _; omega), (by unfold flv; omega)⟩
  · refine zz_iconst d_MO_flagOf_6 ?_
    refine ab_goto (tgt := 42) d_MO_flagOf_7 (by decide) ?_
    refine zz_iret rfl d_MO_flagOf_42 ?_
    rw [hQ]; exact ⟨_, rfl, rfl, (by omega), (by intro _; omega), (by unfold flv; omega)⟩
set_option maxRecDepth 100000 in
set_option maxHeartbeats 4000000 in
theorem y_MO_hexadecimal_24 {X : ab_X} {d : Nat} {Q : Outcome → ab_G → Prop} {o : Nat → Nat} {G0 : ab_G} {m_thrown : Int} {m_taped : Int} {m_length : Int} {m_out : Int} {m_wide : Int} {m_gathered : Int} {m_sets : Int} {m_ranges : Int} {m_nodes : Int} {m_flags : Int} {m_fault : Int} {m_place : Int} {m_numbered : Int} {m_depth : Int} {m_value : Int} {m_isNot : Int} {m_least0 : Int} {m_most0 : Int} {m_slot : Int} {m_work : Int} {m_got : Int} {m_rowMany : Int} {m_charAt : Int} {m_charWide : Int} {m_trail : Int} {m_isMatch : Int} {m_matchGroups : Int} {m_allFrom : Int} {m_allBefore : Int} {m_founds : Int} {m_pieces : Int} {m_writtenMany : Int} {m_templateWide : Int} {m_tooMuch : Int} {A_tape : Int → Int} {wh : Int} {a0_ : Int} (n18 : ab_n0 = 18) (cta : 0 ≤ m_taped ∧ m_taped ≤ 2000) (jtp : rgs A_tape 2000 0 255) (hd : 1 ≤ d) : ∀ (mz : Nat) {G : ab_G} {hv : Int} {n : Int} {m_at : Int}, (cc o G 80 280 (ab_ob 12 (mof m_thrown m_taped m_length m_out m_wide m_gathered m_sets m_ranges m_nodes m_at m_flags m_fault m_place m_numbered m_depth m_value m_isNot m_least0 m_most0 m_slot m_work m_got m_rowMany m_charAt m_charWide m_trail m_isMatch m_matchGroups m_allFrom m_allBefore m_founds m_pieces m_writtenMany m_templateWide m_tooMuch))) → (cc o G 84 284 (za 2000 A_tape)) → (0 ≤ n ∧ n ≤ 7 ∧ 0 ≤ hv ∧ hv < q16 n) → (0 ≤ a0_ ∧ a0_ + n ≤ m_at ∧ m_at ≤ a0_ + n ∧ a0_ ≤ 2010) → (fx o o [280] G0 G) → (G.length = G0.length) → (ab_slots G = ab_slots G0) → (Int.toNat (7 - n) < mz) → (∀ (G2 : ab_G) (v2 : Int) (n2 : Int) (a2 : Int), (cc o G2 80 280 (ab_ob 12 (mof m_thrown m_taped m_length m_out m_wide m_gathered m_sets m_ranges m_nodes a2 m_flags m_fault m_place m_numbered m_depth m_value m_isNot m_least0 m_most0 m_slot m_work m_got m_rowMany m_charAt m_charWide m_trail m_isMatch m_matchGroups m_allFrom m_allBefore m_founds m_pieces m_writtenMany m_templateWide m_tooMuch))) → (0 ≤ n2 ∧ n2 ≤ 7 ∧ 0 ≤ v2 ∧ v2 < 268435456 ∧ a2 = a0_ + n2) → (fx o o [280] G0 G2) → (G2.length = G0.length) → (ab_slots G2 = ab_slots G0) → ab_W X (ab_pl y_MO_hexadecimal b_MO_hexadecimal 5 (some (.int))) d G2 79 [some (vR 80), some (vz wh), some (vz v2), some (vz n2), none] [] Q) → ab_W X (ab_pl y_MO_hexadecimal b_MO_hexadecimal 5 (some (.int))) d G 24 [some (vR 80), some (vz wh), some (vz hv), some (vz n), none] [] Q := by
  intro mz
  induction mz with
  | zero => intro G hv n m_at h80 h84 ci cat hfr hlen hsl hm hk0; exact absurd hm (Nat.not_lt_zero _)
  | succ mz ih =>
    intro G hv n m_at h80 h84 ci cat hfr hlen hsl hm hk0
    have hq16_ := q16_in n (by omega) (by omega)
    refine ab_iload_n d_MO_hexadecimal_24 rfl ?_
    refine zz_bipush d_MO_hexadecimal_25 (by decide) ?_
    refine zz_icmp_ge (tgt := 79) d_MO_hexadecimal_27 (by decide) (by omega) (by decide) (fun c1 => ?_) (fun c1 => ?_)
    · exact hk0 _ _ _ _ h80 (by omega) hfr hlen hsl
    · have hq17_ := q16_s n (by omega) (by omega)
      refine ab_aload_n d_MO_hexadecimal_30 rfl ?_
      refine zz_iconst d_MO_hexadecimal_31 ?_
      refine ab_callV (d' := d - 1) (as := [vz 0]) (st := []) (r := _) (z_MO_here (o := o) (m_thrown := m_thrown) (m_taped := m_taped) (m_length := m_length) (m_out := m_out) (m_wide := m_wide) (m_gathered := m_gathered) (m_sets := m_sets) (m_ranges := m_ranges) (m_nodes := m_nodes) (m_at := m_at) (m_flags := m_flags) (m_fault := m_fault) (m_place := m_place) (m_numbered := m_numbered) (m_depth := m_depth) (m_value := m_value) (m_isNot := m_isNot) (m_least0 := m_least0) (m_most0 := m_most0) (m_slot := m_slot) (m_work := m_work) (m_got := m_got) (m_rowMany := m_rowMany) (m_charAt := m_charAt) (m_charWide := m_charWide) (m_trail := m_trail) (m_isMatch := m_isMatch) (m_matchGroups := m_matchGroups) (m_allFrom := m_allFrom) (m_allBefore := m_allBefore) (m_founds := m_founds) (m_pieces := m_pieces) (m_writtenMany := m_writtenMany) (m_templateWide := m_templateWide) (m_tooMuch := m_tooMuch) (A_tape := A_tape) (k := 0) h80 h84 (by omega) (by omega) jtp (by omega)) (fun oc G2 h => by rcases h with ⟨h, _⟩ | ⟨h, _⟩ <;> exact ⟨_, h⟩) (by omega) m_MO_here ml_MO_297 im_MO_here se_MO_here c_MO h80.2.2 (Nat.le_of_ble_eq_true rfl) d_MO_hexadecimal_32 rfl ?_
      intro v G2 hq
      rcases hq with ⟨hv, hGe, hq3⟩ | ⟨hv, hGe, hq4⟩
      · cases hv
        rw [hGe]
        change ab_W _ _ _ G 35 [some (vR 80), some (vz wh), some (vz hv), some (vz n), none] [vz (A_tape (m_at + 0))] _
        refine zz_if_lt (tgt := 79) d_MO_hexadecimal_35 (by decide) (by omega) (fun c5 => absurd c5 (by omega)) (fun c5 => ?_)
        refine ab_aload_n d_MO_hexadecimal_38 rfl ?_
        refine zz_iconst d_MO_hexadecimal_39 ?_
        refine ab_callV (d' := d - 1) (as := [vz 0]) (st := []) (r := _) (z_MO_here (o := o) (m_thrown := m_thrown) (m_taped := m_taped) (m_length := m_length) (m_out := m_out) (m_wide := m_wide) (m_gathered := m_gathered) (m_sets := m_sets) (m_ranges := m_ranges) (m_nodes := m_nodes) (m_at := m_at) (m_flags := m_flags) (m_fault := m_fault) (m_place := m_place) (m_numbered := m_numbered) (m_depth := m_depth) (m_value := m_value) (m_isNot := m_isNot) (m_least0 := m_least0) (m_most0 := m_most0) (m_slot := m_slot) (m_work := m_work) (m_got := m_got) (m_rowMany := m_rowMany) (m_charAt := m_charAt) (m_charWide := m_charWide) (m_trail := m_trail) (m_isMatch := m_isMatch) (m_matchGroups := m_matchGroups) (m_allFrom := m_allFrom) (m_allBefore := m_allBefore) (m_founds := m_founds) (m_pieces := m_pieces) (m_writtenMany := m_writtenMany) (m_templateWide := m_templateWide) (m_tooMuch := m_tooMuch) (A_tape := A_tape) (k := 0) h80 h84 (by omega) (by omega) jtp (by omega)) (fun oc G2 h => by rcases h with ⟨h, _⟩ | ⟨h, _⟩ <;> exact ⟨_, h⟩) (by omega) m_MO_here ml_MO_297 im_MO_here se_MO_here c_MO h80.2.2 (Nat.le_of_ble_eq_true rfl) d_MO_hexadecimal_40 rfl ?_
        intro v G6 hq
        rcases hq with ⟨hv, hGe, hq7⟩ | ⟨hv, hGe, hq8⟩
        · cases hv
          rw [hGe]
          change ab_W _ _ _ G 43 [some (vR 80), some (vz wh), some (vz hv), some (vz n), none] [vz (A_tape (m_at + 0))] _
          refine ab_callS (d' := d - 1) (as := [vz (A_tape (m_at + 0))]) (st := []) (z_MO_hex (o := o) (c := (A_tape (m_at + 0))) (by omega)) (fun oc G2 h => by rcases h with ⟨h, _⟩ <;> exact ⟨_, h⟩) (by omega) m_MO_hex ml_MO_300 st_MO_hex (Nat.le_of_ble_eq_true rfl) d_MO_hexadecimal_43 rfl ?_
          intro v G9 hq
          rcases hq with ⟨hv, hGe, hq10⟩
          cases hv
          rw [hGe]
          change ab_W _ _ _ G 46 [some (vR 80), some (vz wh), some (vz hv), some (vz n), none] [vz (hxd (A_tape (m_at + 0)))] _
          refine zz_if_lt (tgt := 79) d_MO_hexadecimal_46 (by decide) (by omega) (fun c11 => ?_) (fun c11 => ?_)
          · exact hk0 _ _ _ _ h80 (by omega) hfr hlen hsl
          · refine zz_bipush d_MO_hexadecimal_49 (by decide) ?_
            refine ab_iload_n d_MO_hexadecimal_51 rfl ?_
            refine zz_imul d_MO_hexadecimal_52 ?_
            refine ab_aload_n d_MO_hexadecimal_53 rfl ?_
            refine zz_iconst d_MO_hexadecimal_54 ?_
            refine ab_callV (d' := d - 1) (as := [vz 0]) (st := [vz (16 * hv)]) (r := _) (z_MO_here (o := o) (m_thrown := m_thrown) (m_taped := m_taped) (m_length := m_length) (m_out := m_out) (m_wide := m_wide) (m_gathered := m_gathered) (m_sets := m_sets) (m_ranges := m_ranges) (m_nodes := m_nodes) (m_at := m_at) (m_flags := m_flags) (m_fault := m_fault) (m_place := m_place) (m_numbered := m_numbered) (m_depth := m_depth) (m_value := m_value) (m_isNot := m_isNot) (m_least0 := m_least0) (m_most0 := m_most0) (m_slot := m_slot) (m_work := m_work) (m_got := m_got) (m_rowMany := m_rowMany) (m_charAt := m_charAt) (m_charWide := m_charWide) (m_trail := m_trail) (m_isMatch := m_isMatch) (m_matchGroups := m_matchGroups) (m_allFrom := m_allFrom) (m_allBefore := m_allBefore) (m_founds := m_founds) (m_pieces := m_pieces) (m_writtenMany := m_writtenMany) (m_templateWide := m_templateWide) (m_tooMuch := m_tooMuch) (A_tape := A_tape) (k := 0) h80 h84 (by omega) (by omega) jtp (by omega)) (fun oc G2 h => by rcases h with ⟨h, _⟩ | ⟨h, _⟩ <;> exact ⟨_, h⟩) (by omega) m_MO_here ml_MO_297 im_MO_here se_MO_here c_MO h80.2.2 (Nat.le_of_ble_eq_true rfl) d_MO_hexadecimal_55 rfl ?_
            intro v G12 hq
            rcases hq with ⟨hv, hGe, hq13⟩ | ⟨hv, hGe, hq14⟩
            · cases hv
              rw [hGe]
              change ab_W _ _ _ G 58 [some (vR 80), some (vz wh), some (vz hv), some (vz n), none] [vz (A_tape (m_at + 0)), vz (16 * hv)] _
              refine ab_callS (d' := d - 1) (as := [vz (A_tape (m_at + 0))]) (st := [vz (16 * hv)]) (z_MO_hex (o := o) (c := (A_tape (m_at + 0))) (by omega)) (fun oc G2 h => by rcases h with ⟨h, _⟩ <;> exact ⟨_, h⟩) (by omega) m_MO_hex ml_MO_300 st_MO_hex (Nat.le_of_ble_eq_true rfl) d_MO_hexadecimal_58 rfl ?_
              intro v G15 hq
              rcases hq with ⟨hv, hGe, hq16⟩
              cases hv
              rw [hGe]
              change ab_W _ _ _ G 61 [some (vR 80), some (vz wh), some (vz hv), some (vz n), none] [vz (hxd (A_tape (m_at + 0))), vz (16 * hv)] _
              refine zz_iadd d_MO_hexadecimal_61 ?_
              refine ab_istore_n d_MO_hexadecimal_62 (Nat.le_of_ble_eq_true rfl) (Nat.le_of_ble_eq_true rfl) rfl ?_
              change ab_W _ _ _ G 63 [some (vR 80), some (vz wh), some (vz ((16 * hv) + (hxd (A_tape (m_at + 0))))), some (vz n), none] [] _
              refine zz_iinc d_MO_hexadecimal_63 rfl (Nat.le_of_ble_eq_true rfl) (Nat.le_of_ble_eq_true rfl) rfl ?_
              change ab_W _ _ _ G 66 [some (vR 80), some (vz wh), some (vz ((16 * hv) + (hxd (A_tape (m_at + 0))))), some (vz (n + 1)), none] [] _
              refine ab_aload_n d_MO_hexadecimal_66 rfl ?_
              refine ab_dup d_MO_hexadecimal_67 rfl ?_
              refine ab_getf (fs := mof m_thrown m_taped m_length m_out m_wide m_gathered m_sets m_ranges m_nodes m_at m_flags m_fault m_place m_numbered m_depth m_value m_isNot m_least0 m_most0 m_slot m_work m_got m_rowMany m_charAt m_charWide m_trail m_isMatch m_matchGroups m_allFrom m_allBefore m_founds m_pieces m_writtenMany m_templateWide m_tooMuch) f_MO_279 d_MO_hexadecimal_68 h80.2.2 rfl ?_
              refine zz_iconst d_MO_hexadecimal_71 ?_
              refine zz_iadd d_MO_hexadecimal_72 ?_
              refine ab_putf (fs := mof m_thrown m_taped m_length m_out m_wide m_gathered m_sets m_ranges m_nodes m_at m_flags m_fault m_place m_numbered m_depth m_value m_isNot m_least0 m_most0 m_slot m_work m_got m_rowMany m_charAt m_charWide m_trail m_isMatch m_matchGroups m_allFrom m_allBefore m_founds m_pieces m_writtenMany m_templateWide m_tooMuch) f_MO_279 (Or.inl rfl) d_MO_hexadecimal_73 h80.2.2 (Nat.le_of_ble_eq_true rfl) (fun _ => ⟨rfl, rfl⟩) (h80.2.1 (by decide)) ?_
              obtain ⟨G17, eG17⟩ : ∃ z : ab_G, z = List.set G 80 (ab_ob 12 (mof m_thrown m_taped m_length m_out m_wide m_gathered m_sets m_ranges m_nodes (m_at + 1) m_flags m_fault m_place m_numbered m_depth m_value m_isNot m_least0 m_most0 m_slot m_work m_got m_rowMany m_charAt m_charWide m_trail m_isMatch m_matchGroups m_allFrom m_allBefore m_founds m_pieces m_writtenMany m_templateWide m_tooMuch)) := ⟨_, rfl⟩
              have h84 := h84.keep h80 eG17 (by decide)
              have hlen := (z_len eG17).trans hlen
              have hsl := (z_sl h80 eG17 rfl).trans hsl
              have hfr := hfr.wr h80 eG17 (by decide)
              have h80 := h80.kept eG17
              change ab_W _ _ _ (List.set G 80 (ab_ob 12 (mof m_thrown m_taped m_length m_out m_wide m_gathered m_sets m_ranges m_nodes (m_at + 1) m_flags m_fault m_place m_numbered m_depth m_value m_isNot m_least0 m_most0 m_slot m_work m_got m_rowMany m_charAt m_charWide m_trail m_isMatch m_matchGroups m_allFrom m_allBefore m_founds m_pieces m_writtenMany m_templateWide m_tooMuch))) 76 [some (vR 80), some (vz wh), some (vz ((16 * hv) + (hxd (A_tape (m_at + 0))))), some (vz (n + 1)), none] [] _
              rw [← eG17]
              refine ab_goto (tgt := 24) d_MO_hexadecimal_76 (by decide) ?_
              exact ih (hv := ((16 * hv) + (hxd (A_tape (m_at + 0))))) (n := (n + 1)) (m_at := (m_at + 1)) h80 h84 (by omega) (by omega) hfr hlen hsl (by omega) hk0
            · cases hv
              rw [hGe]
              change ab_W _ _ _ G 58 [some (vR 80), some (vz wh), some (vz hv), some (vz n), none] [vz (-1), vz (16 * hv)] _
              exfalso; omega
        · cases hv
          rw [hGe]
          change ab_W _ _ _ G 43 [some (vR 80), some (vz wh), some (vz hv), some (vz n), none] [vz (-1)] _
          exfalso; omega
      · cases hv
        rw [hGe]
        change ab_W _ _ _ G 35 [some (vR 80), some (vz wh), some (vz hv), some (vz n), none] [vz (-1)] _
        refine zz_if_lt (tgt := 79) d_MO_hexadecimal_35 (by decide) (by decide) (fun c18 => ?_) (fun c18 => absurd c18 (by decide))
        exact hk0 _ _ _ _ h80 (by omega) hfr hlen hsl
set_option maxRecDepth 100000 in
set_option maxHeartbeats 4000000 in
theorem z_MO_hexadecimal {X : ab_X} {d : Nat} {o : Nat → Nat} {G : ab_G} {m_thrown : Int} {m_taped : Int} {m_length : Int} {m_out : Int} {m_wide : Int} {m_gathered : Int} {m_sets : Int} {m_ranges : Int} {m_nodes : Int} {m_at : Int} {m_flags : Int} {m_fault : Int} {m_place : Int} {m_numbered : Int} {m_depth : Int} {m_value : Int} {m_isNot : Int} {m_least0 : Int} {m_most0 : Int} {m_slot : Int} {m_work : Int} {m_got : Int} {m_rowMany : Int} {m_charAt : Int} {m_charWide : Int} {m_trail : Int} {m_isMatch : Int} {m_matchGroups : Int} {m_allFrom : Int} {m_allBefore : Int} {m_founds : Int} {m_pieces : Int} {m_writtenMany : Int} {m_templateWide : Int} {m_tooMuch : Int} {A_tape : Int → Int} {wh : Int} (h80 : cc o G 80 280 (ab_ob 12 (mof m_thrown m_taped m_length m_out m_wide m_gathered m_sets m_ranges m_nodes m_at m_flags m_fault m_place m_numbered m_depth m_value m_isNot m_least0 m_most0 m_slot m_work m_got m_rowMany m_charAt m_charWide m_trail m_isMatch m_matchGroups m_allFrom m_allBefore m_founds m_pieces m_writtenMany m_templateWide m_tooMuch))) (h84 : cc o G 84 284 (za 2000 A_tape)) (n18 : ab_n0 = 18) (cta : 0 ≤ m_taped ∧ m_taped ≤ 2000) (jtp : rgs A_tape 2000 0 255) (cat : 0 ≤ m_at ∧ m_at ≤ 2005) (cwh : -1 ≤ wh ∧ wh ≤ 2010) (cf : m_fault = 0) (hd : 2 ≤ d) : ab_F X d y_MO_hexadecimal (.code y_MO_hexadecimal b_MO_hexadecimal 5 (some (.int))) [vR 80, vz wh] G (fun oc G2 => (∃ a2 : Int, ∃ f2 : Int, ∃ p2 : Int, oc = .returned (some (vz (-1))) ∧ fx o o [280] G G2 ∧ G2.length = G.length ∧ ab_slots G2 = ab_slots G ∧ cc o G2 80 280 (ab_ob 12 (mof m_thrown m_taped m_length m_out m_wide m_gathered m_sets m_ranges m_nodes a2 m_flags f2 p2 m_numbered m_depth m_value m_isNot m_least0 m_most0 m_slot m_work m_got m_rowMany m_charAt m_charWide m_trail m_isMatch m_matchGroups m_allFrom m_allBefore m_founds m_pieces m_writtenMany m_templateWide m_tooMuch)) ∧ (1 ≤ f2 ∧ f2 ≤ 14 ∧ 0 ≤ a2 ∧ a2 ≤ 4000)) ∨ (∃ a2 : Int, ∃ v2 : Int, oc = .returned (some (vz 0)) ∧ fx o o [280] G G2 ∧ G2.length = G.length ∧ ab_slots G2 = ab_slots G ∧ cc o G2 80 280 (ab_ob 12 (mof m_thrown m_taped m_length m_out m_wide m_gathered m_sets m_ranges m_nodes a2 m_flags m_fault m_place m_numbered m_depth v2 m_isNot m_least0 m_most0 m_slot m_work m_got m_rowMany m_charAt m_charWide m_trail m_isMatch m_matchGroups m_allFrom m_allBefore m_founds m_pieces m_writtenMany m_templateWide m_tooMuch)) ∧ (0 ≤ v2 ∧ v2 ≤ 1114111 ∧ m_at ≤ a2 ∧ a2 ≤ m_taped))) := by
  refine ab_F_of (by decide +kernel) (Nat.le_of_ble_eq_true rfl) ?_
  obtain ⟨Q, hQ⟩ : ∃ z : Outcome → ab_G → Prop, z = (fun oc G2 => (∃ a2 : Int, ∃ f2 : Int, ∃ p2 : Int, oc = .returned (some (vz (-1))) ∧ fx o o [280] G G2 ∧ G2.length = G.length ∧ ab_slots G2 = ab_slots G ∧ cc o G2 80 280 (ab_ob 12 (mof m_thrown m_taped m_length m_out m_wide m_gathered m_sets m_ranges m_nodes a2 m_flags f2 p2 m_numbered m_depth m_value m_isNot m_least0 m_most0 m_slot m_work m_got m_rowMany m_charAt m_charWide m_trail m_isMatch m_matchGroups m_allFrom m_allBefore m_founds m_pieces m_writtenMany m_templateWide m_tooMuch)) ∧ (1 ≤ f2 ∧ f2 ≤ 14 ∧ 0 ≤ a2 ∧ a2 ≤ 4000)) ∨ (∃ a2 : Int, ∃ v2 : Int, oc = .returned (some (vz 0)) ∧ fx o o [280] G G2 ∧ G2.length = G.length ∧ ab_slots G2 = ab_slots G ∧ cc o G2 80 280 (ab_ob 12 (mof m_thrown m_taped m_length m_out m_wide m_gathered m_sets m_ranges m_nodes a2 m_flags m_fault m_place m_numbered m_depth v2 m_isNot m_least0 m_most0 m_slot m_work m_got m_rowMany m_charAt m_charWide m_trail m_isMatch m_matchGroups m_allFrom m_allBefore m_founds m_pieces m_writtenMany m_templateWide m_tooMuch)) ∧ (0 ≤ v2 ∧ v2 ≤ 1114111 ∧ m_at ≤ a2 ∧ a2 ≤ m_taped))) := ⟨_, rfl⟩
  rw [← hQ]
  change ab_W X (ab_pl y_MO_hexadecimal b_MO_hexadecimal 5 (some (.int))) d G 0 [some (vR 80), some (vz wh), none, none, none] [] Q
  have hfr : fx o o [280] G G := fx.rf
  have hlen : G.length = G.length := rfl
  have hsl : ab_slots G = ab_slots G := rfl
  refine zz_iconst d_MO_hexadecimal_0 ?_
  refine ab_istore_n d_MO_hexadecimal_1 (Nat.le_of_ble_eq_true rfl) (Nat.le_of_ble_eq_true rfl) rfl ?_
  change ab_W _ _ _ G 2 [some (vR 80), some (vz wh), some (vz 0), none, none] [] _
  refine zz_iconst d_MO_hexadecimal_2 ?_
  refine ab_istore_n d_MO_hexadecimal_3 (Nat.le_of_ble_eq_true rfl) (Nat.le_of_ble_eq_true rfl) rfl ?_
  change ab_W _ _ _ G 4 [some (vR 80), some (vz wh), some (vz 0), some (vz 0), none] [] _
  refine ab_aload_n d_MO_hexadecimal_4 rfl ?_
  refine zz_iconst d_MO_hexadecimal_5 ?_
  refine ab_callV (d' := d - 1) (as := [vz 0]) (st := []) (r := _) (z_MO_here (o := o) (m_thrown := m_thrown) (m_taped := m_taped) (m_length := m_length) (m_out := m_out) (m_wide := m_wide) (m_gathered := m_gathered) (m_sets := m_sets) (m_ranges := m_ranges) (m_nodes := m_nodes) (m_at := m_at) (m_flags := m_flags) (m_fault := m_fault) (m_place := m_place) (m_numbered := m_numbered) (m_depth := m_depth) (m_value := m_value) (m_isNot := m_isNot) (m_least0 := m_least0) (m_most0 := m_most0) (m_slot := m_slot) (m_work := m_work) (m_got := m_got) (m_rowMany := m_rowMany) (m_charAt := m_charAt) (m_charWide := m_charWide) (m_trail := m_trail) (m_isMatch := m_isMatch) (m_matchGroups := m_matchGroups) (m_allFrom := m_allFrom) (m_allBefore := m_allBefore) (m_founds := m_founds) (m_pieces := m_pieces) (m_writtenMany := m_writtenMany) (m_templateWide := m_templateWide) (m_tooMuch := m_tooMuch) (A_tape := A_tape) (k := 0) h80 h84 (by omega) (by omega) jtp (by omega)) (fun oc G2 h => by rcases h with ⟨h, _⟩ | ⟨h, _⟩ <;> exact ⟨_, h⟩) (by omega) m_MO_here ml_MO_297 im_MO_here se_MO_here c_MO h80.2.2 (Nat.le_of_ble_eq_true rfl) d_MO_hexadecimal_6 rfl ?_
  intro v G1 hq
  rcases hq with ⟨hv, hGe, hq2⟩ | ⟨hv, hGe, hq3⟩
  · cases hv
    rw [hGe]
    change ab_W _ _ _ G 9 [some (vR 80), some (vz wh), some (vz 0), some (vz 0), none] [vz (A_tape (m_at + 0))] _
    refine zz_bipush d_MO_hexadecimal_9 (by decide) ?_
    refine zz_icmp_ne (tgt := 117) d_MO_hexadecimal_11 (by decide) (by omega) (by decide) (fun c4 => ?_) (fun c4 => ?_)
    · refine ab_aload_n d_MO_hexadecimal_117 rfl ?_
      refine zz_iconst d_MO_hexadecimal_118 ?_
      refine ab_callV (d' := d - 1) (as := [vz 0]) (st := []) (r := _) (z_MO_here (o := o) (m_thrown := m_thrown) (m_taped := m_taped) (m_length := m_length) (m_out := m_out) (m_wide := m_wide) (m_gathered := m_gathered) (m_sets := m_sets) (m_ranges := m_ranges) (m_nodes := m_nodes) (m_at := m_at) (m_flags := m_flags) (m_fault := m_fault) (m_place := m_place) (m_numbered := m_numbered) (m_depth := m_depth) (m_value := m_value) (m_isNot := m_isNot) (m_least0 := m_least0) (m_most0 := m_most0) (m_slot := m_slot) (m_work := m_work) (m_got := m_got) (m_rowMany := m_rowMany) (m_charAt := m_charAt) (m_charWide := m_charWide) (m_trail := m_trail) (m_isMatch := m_isMatch) (m_matchGroups := m_matchGroups) (m_allFrom := m_allFrom) (m_allBefore := m_allBefore) (m_founds := m_founds) (m_pieces := m_pieces) (m_writtenMany := m_writtenMany) (m_templateWide := m_templateWide) (m_tooMuch := m_tooMuch) (A_tape := A_tape) (k := 0) h80 h84 (by omega) (by omega) jtp (by omega)) (fun oc G2 h => by rcases h with ⟨h, _⟩ | ⟨h, _⟩ <;> exact ⟨_, h⟩) (by omega) m_MO_here ml_MO_297 im_MO_here se_MO_here c_MO h80.2.2 (Nat.le_of_ble_eq_true rfl) d_MO_hexadecimal_119 rfl ?_
      intro v G5 hq
      rcases hq with ⟨hv, hGe, hq6⟩ | ⟨hv, hGe, hq7⟩
      · cases hv
        rw [hGe]
        change ab_W _ _ _ G 122 [some (vR 80), some (vz wh), some (vz 0), some (vz 0), none] [vz (A_tape (m_at + 0))] _
        refine zz_if_lt (tgt := 159) d_MO_hexadecimal_122 (by decide) (by omega) (fun c8 => absurd c8 (by omega)) (fun c8 => ?_)
        refine ab_aload_n d_MO_hexadecimal_125 rfl ?_
        refine zz_iconst d_MO_hexadecimal_126 ?_
        refine ab_callV (d' := d - 1) (as := [vz 1]) (st := []) (r := _) (z_MO_here (o := o) (m_thrown := m_thrown) (m_taped := m_taped) (m_length := m_length) (m_out := m_out) (m_wide := m_wide) (m_gathered := m_gathered) (m_sets := m_sets) (m_ranges := m_ranges) (m_nodes := m_nodes) (m_at := m_at) (m_flags := m_flags) (m_fault := m_fault) (m_place := m_place) (m_numbered := m_numbered) (m_depth := m_depth) (m_value := m_value) (m_isNot := m_isNot) (m_least0 := m_least0) (m_most0 := m_most0) (m_slot := m_slot) (m_work := m_work) (m_got := m_got) (m_rowMany := m_rowMany) (m_charAt := m_charAt) (m_charWide := m_charWide) (m_trail := m_trail) (m_isMatch := m_isMatch) (m_matchGroups := m_matchGroups) (m_allFrom := m_allFrom) (m_allBefore := m_allBefore) (m_founds := m_founds) (m_pieces := m_pieces) (m_writtenMany := m_writtenMany) (m_templateWide := m_templateWide) (m_tooMuch := m_tooMuch) (A_tape := A_tape) (k := 1) h80 h84 (by omega) (by omega) jtp (by omega)) (fun oc G2 h => by rcases h with ⟨h, _⟩ | ⟨h, _⟩ <;> exact ⟨_, h⟩) (by omega) m_MO_here ml_MO_297 im_MO_here se_MO_here c_MO h80.2.2 (Nat.le_of_ble_eq_true rfl) d_MO_hexadecimal_127 rfl ?_
        intro v G9 hq
        rcases hq with ⟨hv, hGe, hq10⟩ | ⟨hv, hGe, hq11⟩
        · cases hv
          rw [hGe]
          change ab_W _ _ _ G 130 [some (vR 80), some (vz wh), some (vz 0), some (vz 0), none] [vz (A_tape (m_at + 1))] _
          refine zz_if_lt (tgt := 159) d_MO_hexadecimal_130 (by decide) (by omega) (fun c12 => absurd c12 (by omega)) (fun c12 => ?_)
          refine ab_aload_n d_MO_hexadecimal_133 rfl ?_
          refine zz_iconst d_MO_hexadecimal_134 ?_
          refine ab_callV (d' := d - 1) (as := [vz 0]) (st := []) (r := _) (z_MO_here (o := o) (m_thrown := m_thrown) (m_taped := m_taped) (m_length := m_length) (m_out := m_out) (m_wide := m_wide) (m_gathered := m_gathered) (m_sets := m_sets) (m_ranges := m_ranges) (m_nodes := m_nodes) (m_at := m_at) (m_flags := m_flags) (m_fault := m_fault) (m_place := m_place) (m_numbered := m_numbered) (m_depth := m_depth) (m_value := m_value) (m_isNot := m_isNot) (m_least0 := m_least0) (m_most0 := m_most0) (m_slot := m_slot) (m_work := m_work) (m_got := m_got) (m_rowMany := m_rowMany) (m_charAt := m_charAt) (m_charWide := m_charWide) (m_trail := m_trail) (m_isMatch := m_isMatch) (m_matchGroups := m_matchGroups) (m_allFrom := m_allFrom) (m_allBefore := m_allBefore) (m_founds := m_founds) (m_pieces := m_pieces) (m_writtenMany := m_writtenMany) (m_templateWide := m_templateWide) (m_tooMuch := m_tooMuch) (A_tape := A_tape) (k := 0) h80 h84 (by omega) (by omega) jtp (by omega)) (fun oc G2 h => by rcases h with ⟨h, _⟩ | ⟨h, _⟩ <;> exact ⟨_, h⟩) (by omega) m_MO_here ml_MO_297 im_MO_here se_MO_here c_MO h80.2.2 (Nat.le_of_ble_eq_true rfl) d_MO_hexadecimal_135 rfl ?_
          intro v G13 hq
          rcases hq with ⟨hv, hGe, hq14⟩ | ⟨hv, hGe, hq15⟩
          · cases hv
            rw [hGe]
            change ab_W _ _ _ G 138 [some (vR 80), some (vz wh), some (vz 0), some (vz 0), none] [vz (A_tape (m_at + 0))] _
            refine ab_callS (d' := d - 1) (as := [vz (A_tape (m_at + 0))]) (st := []) (z_MO_hex (o := o) (c := (A_tape (m_at + 0))) (by omega)) (fun oc G2 h => by rcases h with ⟨h, _⟩ <;> exact ⟨_, h⟩) (by omega) m_MO_hex ml_MO_300 st_MO_hex (Nat.le_of_ble_eq_true rfl) d_MO_hexadecimal_138 rfl ?_
            intro v G16 hq
            rcases hq with ⟨hv, hGe, hq17⟩
            cases hv
            rw [hGe]
            change ab_W _ _ _ G 141 [some (vR 80), some (vz wh), some (vz 0), some (vz 0), none] [vz (hxd (A_tape (m_at + 0)))] _
            refine zz_if_lt (tgt := 159) d_MO_hexadecimal_141 (by decide) (by omega) (fun c18 => ?_) (fun c18 => ?_)
            · refine zz_iconst d_MO_hexadecimal_159 ?_
              refine ab_istore d_MO_hexadecimal_160 (Nat.le_of_ble_eq_true rfl) (Nat.le_of_ble_eq_true rfl) rfl ?_
              change ab_W _ _ _ G 162 [some (vR 80), some (vz wh), some (vz 0), some (vz 0), some (vz 0)] [] _
              refine ab_iload d_MO_hexadecimal_162 rfl ?_
              refine zz_if_eq (tgt := 190) d_MO_hexadecimal_164 (by decide) (by decide) (fun c19 => ?_) (fun c19 => absurd c19 (by decide))
              refine zz_ldcw 1114112 d_MO_hexadecimal_190 cn_MO_303 (by decide) ?_
              refine ab_istore_n d_MO_hexadecimal_193 (Nat.le_of_ble_eq_true rfl) (Nat.le_of_ble_eq_true rfl) rfl ?_
              change ab_W _ _ _ G 194 [some (vR 80), some (vz wh), some (vz 1114112), some (vz 0), some (vz 0)] [] _
              refine ab_aload_n d_MO_hexadecimal_194 rfl ?_
              refine ab_dup d_MO_hexadecimal_195 rfl ?_
              refine ab_getf (fs := mof m_thrown m_taped m_length m_out m_wide m_gathered m_sets m_ranges m_nodes m_at m_flags m_fault m_place m_numbered m_depth m_value m_isNot m_least0 m_most0 m_slot m_work m_got m_rowMany m_charAt m_charWide m_trail m_isMatch m_matchGroups m_allFrom m_allBefore m_founds m_pieces m_writtenMany m_templateWide m_tooMuch) f_MO_279 d_MO_hexadecimal_196 h80.2.2 rfl ?_
              refine zz_iconst d_MO_hexadecimal_199 ?_
              refine zz_iadd d_MO_hexadecimal_200 ?_
              refine ab_putf (fs := mof m_thrown m_taped m_length m_out m_wide m_gathered m_sets m_ranges m_nodes m_at m_flags m_fault m_place m_numbered m_depth m_value m_isNot m_least0 m_most0 m_slot m_work m_got m_rowMany m_charAt m_charWide m_trail m_isMatch m_matchGroups m_allFrom m_allBefore m_founds m_pieces m_writtenMany m_templateWide m_tooMuch) f_MO_279 (Or.inl rfl) d_MO_hexadecimal_201 h80.2.2 (Nat.le_of_ble_eq_true rfl) (fun _ => ⟨rfl, rfl⟩) (h80.2.1 (by decide)) ?_
              obtain ⟨G20, eG20⟩ : ∃ z : ab_G, z = List.set G 80 (ab_ob 12 (mof m_thrown m_taped m_length m_out m_wide m_gathered m_sets m_ranges m_nodes (m_at + 2) m_flags m_fault m_place m_numbered m_depth m_value m_isNot m_least0 m_most0 m_slot m_work m_got m_rowMany m_charAt m_charWide m_trail m_isMatch m_matchGroups m_allFrom m_allBefore m_founds m_pieces m_writtenMany m_templateWide m_tooMuch)) := ⟨_, rfl⟩
              have h84 := h84.keep h80 eG20 (by decide)
              have hlen := (z_len eG20).trans hlen
              have hsl := (z_sl h80 eG20 rfl).trans hsl
              have hfr := hfr.wr h80 eG20 (by decide)
              have h80 := h80.kept eG20
              change ab_W _ _ _ (List.set G 80 (ab_ob 12 (mof m_thrown m_taped m_length m_out m_wide m_gathered m_sets m_ranges m_nodes (m_at + 2) m_flags m_fault m_place m_numbered m_depth m_value m_isNot m_least0 m_most0 m_slot m_work m_got m_rowMany m_charAt m_charWide m_trail m_isMatch m_matchGroups m_allFrom m_allBefore m_founds m_pieces m_writtenMany m_templateWide m_tooMuch))) 204 [some (vR 80), some (vz wh), some (vz 1114112), some (vz 0), some (vz 0)] [] _
              rw [← eG20]
              refine ab_iload_n d_MO_hexadecimal_204 rfl ?_
              refine zz_ldc 1114111 d_MO_hexadecimal_205 cn_MO_236 (by decide) ?_
              refine zz_icmp_gt (tgt := 222) d_MO_hexadecimal_207 (by decide) (by decide) (by decide) (fun c21 => ?_) (fun c21 => absurd c21 (by decide))
              refine ab_aload_n d_MO_hexadecimal_222 rfl ?_
              refine zz_iconst d_MO_hexadecimal_223 ?_
              refine ab_iload_n d_MO_hexadecimal_224 rfl ?_
              refine ab_callV (d' := d - 1) (as := [vz 5, vz wh]) (st := []) (r := _) (z_MO_wrong (o := o) (m_thrown := m_thrown) (m_taped := m_taped) (m_length := m_length) (m_out := m_out) (m_wide := m_wide) (m_gathered := m_gathered) (m_sets := m_sets) (m_ranges := m_ranges) (m_nodes := m_nodes) (m_at := (m_at + 2)) (m_flags := m_flags) (m_fault := m_fault) (m_place := m_place) (m_numbered := m_numbered) (m_depth := m_depth) (m_value := m_value) (m_isNot := m_isNot) (m_least0 := m_least0) (m_most0 := m_most0) (m_slot := m_slot) (m_work := m_work) (m_got := m_got) (m_rowMany := m_rowMany) (m_charAt := m_charAt) (m_charWide := m_charWide) (m_trail := m_trail) (m_isMatch := m_isMatch) (m_matchGroups := m_matchGroups) (m_allFrom := m_allFrom) (m_allBefore := m_allBefore) (m_founds := m_founds) (m_pieces := m_pieces) (m_writtenMany := m_writtenMany) (m_templateWide := m_templateWide) (m_tooMuch := m_tooMuch) (x := 5) (y := wh) h80 (by omega) (by omega)) (fun oc G2 h => by rcases h with ⟨_, _, h, _⟩ <;> exact ⟨_, h⟩) (by omega) m_MO_wrong ml_MO_304 im_MO_wrong se_MO_wrong c_MO h80.2.2 (Nat.le_of_ble_eq_true rfl) d_MO_hexadecimal_225 rfl ?_
              intro v G22 hq
              rcases hq with ⟨f223, p224, hv, hfk, hlk, hsk, hN80, hq25⟩
              cases hv
              have h84 := hfk.get h84 (by decide)
              have hfr := hfr.tr hfk (by decide)
              have hlen := hlk.trans hlen
              have hsl := hsk.trans hsl
              have h80 := hN80
              change ab_W _ _ _ G22 228 [some (vR 80), some (vz wh), some (vz 1114112), some (vz 0), some (vz 0)] [] _
              refine zz_iconst d_MO_hexadecimal_228 ?_
              refine zz_iret rfl d_MO_hexadecimal_229 ?_
              rw [hQ]; exact (Or.inl ⟨_, _, _, rfl, hfr, hlen, hsl, h80, (by omega)⟩)
            · refine ab_aload_n d_MO_hexadecimal_144 rfl ?_
              refine zz_iconst d_MO_hexadecimal_145 ?_
              refine ab_callV (d' := d - 1) (as := [vz 1]) (st := []) (r := _) (z_MO_here (o := o) (m_thrown := m_thrown) (m_taped := m_taped) (m_length := m_length) (m_out := m_out) (m_wide := m_wide) (m_gathered := m_gathered) (m_sets := m_sets) (m_ranges := m_ranges) (m_nodes := m_nodes) (m_at := m_at) (m_flags := m_flags) (m_fault := m_fault) (m_place := m_place) (m_numbered := m_numbered) (m_depth := m_depth) (m_value := m_value) (m_isNot := m_isNot) (m_least0 := m_least0) (m_most0 := m_most0) (m_slot := m_slot) (m_work := m_work) (m_got := m_got) (m_rowMany := m_rowMany) (m_charAt := m_charAt) (m_charWide := m_charWide) (m_trail := m_trail) (m_isMatch := m_isMatch) (m_matchGroups := m_matchGroups) (m_allFrom := m_allFrom) (m_allBefore := m_allBefore) (m_founds := m_founds) (m_pieces := m_pieces) (m_writtenMany := m_writtenMany) (m_templateWide := m_templateWide) (m_tooMuch := m_tooMuch) (A_tape := A_tape) (k := 1) h80 h84 (by omega) (by omega) jtp (by omega)) (fun oc G2 h => by rcases h with ⟨h, _⟩ | ⟨h, _⟩ <;> exact ⟨_, h⟩) (by omega) m_MO_here ml_MO_297 im_MO_here se_MO_here c_MO h80.2.2 (Nat.le_of_ble_eq_true rfl) d_MO_hexadecimal_146 rfl ?_
              intro v G26 hq
              rcases hq with ⟨hv, hGe, hq27⟩ | ⟨hv, hGe, hq28⟩
              · cases hv
                rw [hGe]
                change ab_W _ _ _ G 149 [some (vR 80), some (vz wh), some (vz 0), some (vz 0), none] [vz (A_tape (m_at + 1))] _
                refine ab_callS (d' := d - 1) (as := [vz (A_tape (m_at + 1))]) (st := []) (z_MO_hex (o := o) (c := (A_tape (m_at + 1))) (by omega)) (fun oc G2 h => by rcases h with ⟨h, _⟩ <;> exact ⟨_, h⟩) (by omega) m_MO_hex ml_MO_300 st_MO_hex (Nat.le_of_ble_eq_true rfl) d_MO_hexadecimal_149 rfl ?_
                intro v G29 hq
                rcases hq with ⟨hv, hGe, hq30⟩
                cases hv
                rw [hGe]
                change ab_W _ _ _ G 152 [some (vR 80), some (vz wh), some (vz 0), some (vz 0), none] [vz (hxd (A_tape (m_at + 1)))] _
                refine zz_if_lt (tgt := 159) d_MO_hexadecimal_152 (by decide) (by omega) (fun c31 => ?_) (fun c31 => ?_)
                · refine zz_iconst d_MO_hexadecimal_159 ?_
                  refine ab_istore d_MO_hexadecimal_160 (Nat.le_of_ble_eq_true rfl) (Nat.le_of_ble_eq_true rfl) rfl ?_
                  change ab_W _ _ _ G 162 [some (vR 80), some (vz wh), some (vz 0), some (vz 0), some (vz 0)] [] _
                  refine ab_iload d_MO_hexadecimal_162 rfl ?_
                  refine zz_if_eq (tgt := 190) d_MO_hexadecimal_164 (by decide) (by decide) (fun c32 => ?_) (fun c32 => absurd c32 (by decide))
                  refine zz_ldcw 1114112 d_MO_hexadecimal_190 cn_MO_303 (by decide) ?_
                  refine ab_istore_n d_MO_hexadecimal_193 (Nat.le_of_ble_eq_true rfl) (Nat.le_of_ble_eq_true rfl) rfl ?_
                  change ab_W _ _ _ G 194 [some (vR 80), some (vz wh), some (vz 1114112), some (vz 0), some (vz 0)] [] _
                  refine ab_aload_n d_MO_hexadecimal_194 rfl ?_
                  refine ab_dup d_MO_hexadecimal_195 rfl ?_
                  refine ab_getf (fs := mof m_thrown m_taped m_length m_out m_wide m_gathered m_sets m_ranges m_nodes m_at m_flags m_fault m_place m_numbered m_depth m_value m_isNot m_least0 m_most0 m_slot m_work m_got m_rowMany m_charAt m_charWide m_trail m_isMatch m_matchGroups m_allFrom m_allBefore m_founds m_pieces m_writtenMany m_templateWide m_tooMuch) f_MO_279 d_MO_hexadecimal_196 h80.2.2 rfl ?_
                  refine zz_iconst d_MO_hexadecimal_199 ?_
                  refine zz_iadd d_MO_hexadecimal_200 ?_
                  refine ab_putf (fs := mof m_thrown m_taped m_length m_out m_wide m_gathered m_sets m_ranges m_nodes m_at m_flags m_fault m_place m_numbered m_depth m_value m_isNot m_least0 m_most0 m_slot m_work m_got m_rowMany m_charAt m_charWide m_trail m_isMatch m_matchGroups m_allFrom m_allBefore m_founds m_pieces m_writtenMany m_templateWide m_tooMuch) f_MO_279 (Or.inl rfl) d_MO_hexadecimal_201 h80.2.2 (Nat.le_of_ble_eq_true rfl) (fun _ => ⟨rfl, rfl⟩) (h80.2.1 (by decide)) ?_
                  obtain ⟨G33, eG33⟩ : ∃ z : ab_G, z = List.set G 80 (ab_ob 12 (mof m_thrown m_taped m_length m_out m_wide m_gathered m_sets m_ranges m_nodes (m_at + 2) m_flags m_fault m_place m_numbered m_depth m_value m_isNot m_least0 m_most0 m_slot m_work m_got m_rowMany m_charAt m_charWide m_trail m_isMatch m_matchGroups m_allFrom m_allBefore m_founds m_pieces m_writtenMany m_templateWide m_tooMuch)) := ⟨_, rfl⟩
                  have h84 := h84.keep h80 eG33 (by decide)
                  have hlen := (z_len eG33).trans hlen
                  have hsl := (z_sl h80 eG33 rfl).trans hsl
                  have hfr := hfr.wr h80 eG33 (by decide)
                  have h80 := h80.kept eG33
                  change ab_W _ _ _ (List.set G 80 (ab_ob 12 (mof m_thrown m_taped m_length m_out m_wide m_gathered m_sets m_ranges m_nodes (m_at + 2) m_flags m_fault m_place m_numbered m_depth m_value m_isNot m_least0 m_most0 m_slot m_work m_got m_rowMany m_charAt m_charWide m_trail m_isMatch m_matchGroups m_allFrom m_allBefore m_founds m_pieces m_writtenMany m_templateWide m_tooMuch))) 204 [some (vR 80), some (vz wh), some (vz 1114112), some (vz 0), some (vz 0)] [] _
                  rw [← eG33]
                  refine ab_iload_n d_MO_hexadecimal_204 rfl ?_
                  refine zz_ldc 1114111 d_MO_hexadecimal_205 cn_MO_236 (by decide) ?_
                  refine zz_icmp_gt (tgt := 222) d_MO_hexadecimal_207 (by decide) (by decide) (by decide) (fun c34 => ?_) (fun c34 => absurd c34 (by decide))
                  refine ab_aload_n d_MO_hexadecimal_222 rfl ?_
                  refine zz_iconst d_MO_hexadecimal_223 ?_
                  refine ab_iload_n d_MO_hexadecimal_224 rfl ?_
                  refine ab_callV (d' := d - 1) (as := [vz 5, vz wh]) (st := []) (r := _) (z_MO_wrong (o := o) (m_thrown := m_thrown) (m_taped := m_taped) (m_length := m_length) (m_out := m_out) (m_wide := m_wide) (m_gathered := m_gathered) (m_sets := m_sets) (m_ranges := m_ranges) (m_nodes := m_nodes) (m_at := (m_at + 2)) (m_flags := m_flags) (m_fault := m_fault) (m_place := m_place) (m_numbered := m_numbered) (m_depth := m_depth) (m_value := m_value) (m_isNot := m_isNot) (m_least0 := m_least0) (m_most0 := m_most0) (m_slot := m_slot) (m_work := m_work) (m_got := m_got) (m_rowMany := m_rowMany) (m_charAt := m_charAt) (m_charWide := m_charWide) (m_trail := m_trail) (m_isMatch := m_isMatch) (m_matchGroups := m_matchGroups) (m_allFrom := m_allFrom) (m_allBefore := m_allBefore) (m_founds := m_founds) (m_pieces := m_pieces) (m_writtenMany := m_writtenMany) (m_templateWide := m_templateWide) (m_tooMuch := m_tooMuch) (x := 5) (y := wh) h80 (by omega) (by omega)) (fun oc G2 h => by rcases h with ⟨_, _, h, _⟩ <;> exact ⟨_, h⟩) (by omega) m_MO_wrong ml_MO_304 im_MO_wrong se_MO_wrong c_MO h80.2.2 (Nat.le_of_ble_eq_true rfl) d_MO_hexadecimal_225 rfl ?_
                  intro v G35 hq
                  rcases hq with ⟨f236, p237, hv, hfk, hlk, hsk, hN80, hq38⟩
                  cases hv
                  have h84 := hfk.get h84 (by decide)
                  have hfr := hfr.tr hfk (by decide)
                  have hlen := hlk.trans hlen
                  have hsl := hsk.trans hsl
                  have h80 := hN80
                  change ab_W _ _ _ G35 228 [some (vR 80), some (vz wh), some (vz 1114112), some (vz 0), some (vz 0)] [] _
                  refine zz_iconst d_MO_hexadecimal_228 ?_
                  refine zz_iret rfl d_MO_hexadecimal_229 ?_
                  rw [hQ]; exact (Or.inl ⟨_, _, _, rfl, hfr, hlen, hsl, h80, (by omega)⟩)
                · refine zz_iconst d_MO_hexadecimal_155 ?_
                  refine ab_goto (tgt := 160) d_MO_hexadecimal_156 (by decide) ?_
                  refine ab_istore d_MO_hexadecimal_160 (Nat.le_of_ble_eq_true rfl) (Nat.le_of_ble_eq_true rfl) rfl ?_
                  change ab_W _ _ _ G 162 [some (vR 80), some (vz wh), some (vz 0), some (vz 0), some (vz 1)] [] _
                  refine ab_iload d_MO_hexadecimal_162 rfl ?_
                  refine zz_if_eq (tgt := 190) d_MO_hexadecimal_164 (by decide) (by decide) (fun c39 => absurd c39 (by decide)) (fun c39 => ?_)
                  refine zz_bipush d_MO_hexadecimal_167 (by decide) ?_
                  refine ab_aload_n d_MO_hexadecimal_169 rfl ?_
                  refine zz_iconst d_MO_hexadecimal_170 ?_
                  refine ab_callV (d' := d - 1) (as := [vz 0]) (st := [vz 16]) (r := _) (z_MO_here (o := o) (m_thrown := m_thrown) (m_taped := m_taped) (m_length := m_length) (m_out := m_out) (m_wide := m_wide) (m_gathered := m_gathered) (m_sets := m_sets) (m_ranges := m_ranges) (m_nodes := m_nodes) (m_at := m_at) (m_flags := m_flags) (m_fault := m_fault) (m_place := m_place) (m_numbered := m_numbered) (m_depth := m_depth) (m_value := m_value) (m_isNot := m_isNot) (m_least0 := m_least0) (m_most0 := m_most0) (m_slot := m_slot) (m_work := m_work) (m_got := m_got) (m_rowMany := m_rowMany) (m_charAt := m_charAt) (m_charWide := m_charWide) (m_trail := m_trail) (m_isMatch := m_isMatch) (m_matchGroups := m_matchGroups) (m_allFrom := m_allFrom) (m_allBefore := m_allBefore) (m_founds := m_founds) (m_pieces := m_pieces) (m_writtenMany := m_writtenMany) (m_templateWide := m_templateWide) (m_tooMuch := m_tooMuch) (A_tape := A_tape) (k := 0) h80 h84 (by omega) (by omega) jtp (by omega)) (fun oc G2 h => by rcases h with ⟨h, _⟩ | ⟨h, _⟩ <;> exact ⟨_, h⟩) (by omega) m_MO_here ml_MO_297 im_MO_here se_MO_here c_MO h80.2.2 (Nat.le_of_ble_eq_true rfl) d_MO_hexadecimal_171 rfl ?_
                  intro v G40 hq
                  rcases hq with ⟨hv, hGe, hq41⟩ | ⟨hv, hGe, hq42⟩
                  · cases hv
                    rw [hGe]
                    change ab_W _ _ _ G 174 [some (vR 80), some (vz wh), some (vz 0), some (vz 0), some (vz 1)] [vz (A_tape (m_at + 0)), vz 16] _
                    refine ab_callS (d' := d - 1) (as := [vz (A_tape (m_at + 0))]) (st := [vz 16]) (z_MO_hex (o := o) (c := (A_tape (m_at + 0))) (by omega)) (fun oc G2 h => by rcases h with ⟨h, _⟩ <;> exact ⟨_, h⟩) (by omega) m_MO_hex ml_MO_300 st_MO_hex (Nat.le_of_ble_eq_true rfl) d_MO_hexadecimal_174 rfl ?_
                    intro v G43 hq
                    rcases hq with ⟨hv, hGe, hq44⟩
                    cases hv
                    rw [hGe]
                    change ab_W _ _ _ G 177 [some (vR 80), some (vz wh), some (vz 0), some (vz 0), some (vz 1)] [vz (hxd (A_tape (m_at + 0))), vz 16] _
                    refine zz_imul d_MO_hexadecimal_177 ?_
                    refine ab_aload_n d_MO_hexadecimal_178 rfl ?_
                    refine zz_iconst d_MO_hexadecimal_179 ?_
                    refine ab_callV (d' := d - 1) (as := [vz 1]) (st := [vz (16 * (hxd (A_tape (m_at + 0))))]) (r := _) (z_MO_here (o := o) (m_thrown := m_thrown) (m_taped := m_taped) (m_length := m_length) (m_out := m_out) (m_wide := m_wide) (m_gathered := m_gathered) (m_sets := m_sets) (m_ranges := m_ranges) (m_nodes := m_nodes) (m_at := m_at) (m_flags := m_flags) (m_fault := m_fault) (m_place := m_place) (m_numbered := m_numbered) (m_depth := m_depth) (m_value := m_value) (m_isNot := m_isNot) (m_least0 := m_least0) (m_most0 := m_most0) (m_slot := m_slot) (m_work := m_work) (m_got := m_got) (m_rowMany := m_rowMany) (m_charAt := m_charAt) (m_charWide := m_charWide) (m_trail := m_trail) (m_isMatch := m_isMatch) (m_matchGroups := m_matchGroups) (m_allFrom := m_allFrom) (m_allBefore := m_allBefore) (m_founds := m_founds) (m_pieces := m_pieces) (m_writtenMany := m_writtenMany) (m_templateWide := m_templateWide) (m_tooMuch := m_tooMuch) (A_tape := A_tape) (k := 1) h80 h84 (by omega) (by omega) jtp (by omega)) (fun oc G2 h => by rcases h with ⟨h, _⟩ | ⟨h, _⟩ <;> exact ⟨_, h⟩) (by omega) m_MO_here ml_MO_297 im_MO_here se_MO_here c_MO h80.2.2 (Nat.le_of_ble_eq_true rfl) d_MO_hexadecimal_180 rfl ?_
                    intro v G45 hq
                    rcases hq with ⟨hv, hGe, hq46⟩ | ⟨hv, hGe, hq47⟩
                    · cases hv
                      rw [hGe]
                      change ab_W _ _ _ G 183 [some (vR 80), some (vz wh), some (vz 0), some (vz 0), some (vz 1)] [vz (A_tape (m_at + 1)), vz (16 * (hxd (A_tape (m_at + 0))))] _
                      refine ab_callS (d' := d - 1) (as := [vz (A_tape (m_at + 1))]) (st := [vz (16 * (hxd (A_tape (m_at + 0))))]) (z_MO_hex (o := o) (c := (A_tape (m_at + 1))) (by omega)) (fun oc G2 h => by rcases h with ⟨h, _⟩ <;> exact ⟨_, h⟩) (by omega) m_MO_hex ml_MO_300 st_MO_hex (Nat.le_of_ble_eq_true rfl) d_MO_hexadecimal_183 rfl ?_
                      intro v G48 hq
                      rcases hq with ⟨hv, hGe, hq49⟩
                      cases hv
                      rw [hGe]
                      change ab_W _ _ _ G 186 [some (vR 80), some (vz wh), some (vz 0), some (vz 0), some (vz 1)] [vz (hxd (A_tape (m_at + 1))), vz (16 * (hxd (A_tape (m_at + 0))))] _
                      refine zz_iadd d_MO_hexadecimal_186 ?_
                      refine ab_goto (tgt := 193) d_MO_hexadecimal_187 (by decide) ?_
                      refine ab_istore_n d_MO_hexadecimal_193 (Nat.le_of_ble_eq_true rfl) (Nat.le_of_ble_eq_true rfl) rfl ?_
                      change ab_W _ _ _ G 194 [some (vR 80), some (vz wh), some (vz ((16 * (hxd (A_tape (m_at + 0)))) + (hxd (A_tape (m_at + 1))))), some (vz 0), some (vz 1)] [] _
                      refine ab_aload_n d_MO_hexadecimal_194 rfl ?_
                      refine ab_dup d_MO_hexadecimal_195 rfl ?_
                      refine ab_getf (fs := mof m_thrown m_taped m_length m_out m_wide m_gathered m_sets m_ranges m_nodes m_at m_flags m_fault m_place m_numbered m_depth m_value m_isNot m_least0 m_most0 m_slot m_work m_got m_rowMany m_charAt m_charWide m_trail m_isMatch m_matchGroups m_allFrom m_allBefore m_founds m_pieces m_writtenMany m_templateWide m_tooMuch) f_MO_279 d_MO_hexadecimal_196 h80.2.2 rfl ?_
                      refine zz_iconst d_MO_hexadecimal_199 ?_
                      refine zz_iadd d_MO_hexadecimal_200 ?_
                      refine ab_putf (fs := mof m_thrown m_taped m_length m_out m_wide m_gathered m_sets m_ranges m_nodes m_at m_flags m_fault m_place m_numbered m_depth m_value m_isNot m_least0 m_most0 m_slot m_work m_got m_rowMany m_charAt m_charWide m_trail m_isMatch m_matchGroups m_allFrom m_allBefore m_founds m_pieces m_writtenMany m_templateWide m_tooMuch) f_MO_279 (Or.inl rfl) d_MO_hexadecimal_201 h80.2.2 (Nat.le_of_ble_eq_true rfl) (fun _ => ⟨rfl, rfl⟩) (h80.2.1 (by decide)) ?_
                      obtain ⟨G50, eG50⟩ : ∃ z : ab_G, z = List.set G 80 (ab_ob 12 (mof m_thrown m_taped m_length m_out m_wide m_gathered m_sets m_ranges m_nodes (m_at + 2) m_flags m_fault m_place m_numbered m_depth m_value m_isNot m_least0 m_most0 m_slot m_work m_got m_rowMany m_charAt m_charWide m_trail m_isMatch m_matchGroups m_allFrom m_allBefore m_founds m_pieces m_writtenMany m_templateWide m_tooMuch)) := ⟨_, rfl⟩
                      have h84 := h84.keep h80 eG50 (by decide)
                      have hlen := (z_len eG50).trans hlen
                      have hsl := (z_sl h80 eG50 rfl).trans hsl
                      have hfr := hfr.wr h80 eG50 (by decide)
                      have h80 := h80.kept eG50
                      change ab_W _ _ _ (List.set G 80 (ab_ob 12 (mof m_thrown m_taped m_length m_out m_wide m_gathered m_sets m_ranges m_nodes (m_at + 2) m_flags m_fault m_place m_numbered m_depth m_value m_isNot m_least0 m_most0 m_slot m_work m_got m_rowMany m_charAt m_charWide m_trail m_isMatch m_matchGroups m_allFrom m_allBefore m_founds m_pieces m_writtenMany m_templateWide m_tooMuch))) 204 [some (vR 80), some (vz wh), some (vz ((16 * (hxd (A_tape (m_at + 0)))) + (hxd (A_tape (m_at + 1))))), some (vz 0), some (vz 1)] [] _
                      rw [← eG50]
                      refine ab_iload_n d_MO_hexadecimal_204 rfl ?_
                      refine zz_ldc 1114111 d_MO_hexadecimal_205 cn_MO_236 (by decide) ?_
                      refine zz_icmp_gt (tgt := 222) d_MO_hexadecimal_207 (by decide) (by omega) (by decide) (fun c51 => absurd c51 (by omega)) (fun c51 => ?_)
                      refine ab_iload_n d_MO_hexadecimal_210 rfl ?_
                      refine zz_ldc 55296 d_MO_hexadecimal_211 cn_MO_233 (by decide) ?_
                      refine zz_icmp_lt (tgt := 230) d_MO_hexadecimal_213 (by decide) (by omega) (by decide) (fun c52 => ?_) (fun c52 => absurd c52 (by omega))
                      refine ab_aload_n d_MO_hexadecimal_230 rfl ?_
                      refine ab_iload_n d_MO_hexadecimal_231 rfl ?_
                      refine ab_putf (fs := mof m_thrown m_taped m_length m_out m_wide m_gathered m_sets m_ranges m_nodes (m_at + 2) m_flags m_fault m_place m_numbered m_depth m_value m_isNot m_least0 m_most0 m_slot m_work m_got m_rowMany m_charAt m_charWide m_trail m_isMatch m_matchGroups m_allFrom m_allBefore m_founds m_pieces m_writtenMany m_templateWide m_tooMuch) f_MO_307 (Or.inl rfl) d_MO_hexadecimal_232 h80.2.2 (Nat.le_of_ble_eq_true rfl) (fun _ => ⟨rfl, rfl⟩) (h80.2.1 (by decide)) ?_
                      obtain ⟨G53, eG53⟩ : ∃ z : ab_G, z = List.set G50 80 (ab_ob 12 (mof m_thrown m_taped m_length m_out m_wide m_gathered m_sets m_ranges m_nodes (m_at + 2) m_flags m_fault m_place m_numbered m_depth ((16 * (hxd (A_tape (m_at + 0)))) + (hxd (A_tape (m_at + 1)))) m_isNot m_least0 m_most0 m_slot m_work m_got m_rowMany m_charAt m_charWide m_trail m_isMatch m_matchGroups m_allFrom m_allBefore m_founds m_pieces m_writtenMany m_templateWide m_tooMuch)) := ⟨_, rfl⟩
                      have h84 := h84.keep h80 eG53 (by decide)
                      have hlen := (z_len eG53).trans hlen
                      have hsl := (z_sl h80 eG53 rfl).trans hsl
                      have hfr := hfr.wr h80 eG53 (by decide)
                      have h80 := h80.kept eG53
                      change ab_W _ _ _ (List.set G50 80 (ab_ob 12 (mof m_thrown m_taped m_length m_out m_wide m_gathered m_sets m_ranges m_nodes (m_at + 2) m_flags m_fault m_place m_numbered m_depth ((16 * (hxd (A_tape (m_at + 0)))) + (hxd (A_tape (m_at + 1)))) m_isNot m_least0 m_most0 m_slot m_work m_got m_rowMany m_charAt m_charWide m_trail m_isMatch m_matchGroups m_allFrom m_allBefore m_founds m_pieces m_writtenMany m_templateWide m_tooMuch))) 235 [some (vR 80), some (vz wh), some (vz ((16 * (hxd (A_tape (m_at + 0)))) + (hxd (A_tape (m_at + 1))))), some (vz 0), some (vz 1)] [] _
                      rw [← eG53]
                      refine zz_iconst d_MO_hexadecimal_235 ?_
                      refine zz_iret rfl d_MO_hexadecimal_236 ?_
                      rw [hQ]; exact (Or.inr ⟨_, _, rfl, hfr, hlen, hsl, h80, (by omega)⟩)
                    · cases hv
                      rw [hGe]
                      change ab_W _ _ _ G 183 [some (vR 80), some (vz wh), some (vz 0), some (vz 0), some (vz 1)] [vz (-1), vz (16 * (hxd (A_tape (m_at + 0))))] _
                      exfalso; omega
                  · cases hv
                    rw [hGe]
                    change ab_W _ _ _ G 174 [some (vR 80), some (vz wh), some (vz 0), some (vz 0), some (vz 1)] [vz (-1), vz 16] _
                    exfalso; omega
              · cases hv
                rw [hGe]
                change ab_W _ _ _ G 149 [some (vR 80), some (vz wh), some (vz 0), some (vz 0), none] [vz (-1)] _
                exfalso; omega
          · cases hv
            rw [hGe]
            change ab_W _ _ _ G 138 [some (vR 80), some (vz wh), some (vz 0), some (vz 0), none] [vz (-1)] _
            exfalso; omega
        · cases hv
          rw [hGe]
          change ab_W _ _ _ G 130 [some (vR 80), some (vz wh), some (vz 0), some (vz 0), none] [vz (-1)] _
          refine zz_if_lt (tgt := 159) d_MO_hexadecimal_130 (by decide) (by decide) (fun c54 => ?_) (fun c54 => absurd c54 (by decide))
          refine zz_iconst d_MO_hexadecimal_159 ?_
          refine ab_istore d_MO_hexadecimal_160 (Nat.le_of_ble_eq_true rfl) (Nat.le_of_ble_eq_true rfl) rfl ?_
          change ab_W _ _ _ G 162 [some (vR 80), some (vz wh), some (vz 0), some (vz 0), some (vz 0)] [] _
          refine ab_iload d_MO_hexadecimal_162 rfl ?_
          refine zz_if_eq (tgt := 190) d_MO_hexadecimal_164 (by decide) (by decide) (fun c55 => ?_) (fun c55 => absurd c55 (by decide))
          refine zz_ldcw 1114112 d_MO_hexadecimal_190 cn_MO_303 (by decide) ?_
          refine ab_istore_n d_MO_hexadecimal_193 (Nat.le_of_ble_eq_true rfl) (Nat.le_of_ble_eq_true rfl) rfl ?_
          change ab_W _ _ _ G 194 [some (vR 80), some (vz wh), some (vz 1114112), some (vz 0), some (vz 0)] [] _
          refine ab_aload_n d_MO_hexadecimal_194 rfl ?_
          refine ab_dup d_MO_hexadecimal_195 rfl ?_
          refine ab_getf (fs := mof m_thrown m_taped m_length m_out m_wide m_gathered m_sets m_ranges m_nodes m_at m_flags m_fault m_place m_numbered m_depth m_value m_isNot m_least0 m_most0 m_slot m_work m_got m_rowMany m_charAt m_charWide m_trail m_isMatch m_matchGroups m_allFrom m_allBefore m_founds m_pieces m_writtenMany m_templateWide m_tooMuch) f_MO_279 d_MO_hexadecimal_196 h80.2.2 rfl ?_
          refine zz_iconst d_MO_hexadecimal_199 ?_
          refine zz_iadd d_MO_hexadecimal_200 ?_
          refine ab_putf (fs := mof m_thrown m_taped m_length m_out m_wide m_gathered m_sets m_ranges m_nodes m_at m_flags m_fault m_place m_numbered m_depth m_value m_isNot m_least0 m_most0 m_slot m_work m_got m_rowMany m_charAt m_charWide m_trail m_isMatch m_matchGroups m_allFrom m_allBefore m_founds m_pieces m_writtenMany m_templateWide m_tooMuch) f_MO_279 (Or.inl rfl) d_MO_hexadecimal_201 h80.2.2 (Nat.le_of_ble_eq_true rfl) (fun _ => ⟨rfl, rfl⟩) (h80.2.1 (by decide)) ?_
          obtain ⟨G56, eG56⟩ : ∃ z : ab_G, z = List.set G 80 (ab_ob 12 (mof m_thrown m_taped m_length m_out m_wide m_gathered m_sets m_ranges m_nodes (m_at + 2) m_flags m_fault m_place m_numbered m_depth m_value m_isNot m_least0 m_most0 m_slot m_work m_got m_rowMany m_charAt m_charWide m_trail m_isMatch m_matchGroups m_allFrom m_allBefore m_founds m_pieces m_writtenMany m_templateWide m_tooMuch)) := ⟨_, rfl⟩
          have h84 := h84.keep h80 eG56 (by decide)
          have hlen := (z_len eG56).trans hlen
          have hsl := (z_sl h80 eG56 rfl).trans hsl
          have hfr := hfr.wr h80 eG56 (by decide)
          have h80 := h80.kept eG56
          change ab_W _ _ _ (List.set G 80 (ab_ob 12 (mof m_thrown m_taped m_length m_out m_wide m_gathered m_sets m_ranges m_nodes (m_at + 2) m_flags m_fault m_place m_numbered m_depth m_value m_isNot m_least0 m_most0 m_slot m_work m_got m_rowMany m_charAt m_charWide m_trail m_isMatch m_matchGroups m_allFrom m_allBefore m_founds m_pieces m_writtenMany m_templateWide m_tooMuch))) 204 [some (vR 80), some (vz wh), some (vz 1114112), some (vz 0), some (vz 0)] [] _
          rw [← eG56]
          refine ab_iload_n d_MO_hexadecimal_204 rfl ?_
          refine zz_ldc 1114111 d_MO_hexadecimal_205 cn_MO_236 (by decide) ?_
          refine zz_icmp_gt (tgt := 222) d_MO_hexadecimal_207 (by decide) (by decide) (by decide) (fun c57 => ?_) (fun c57 => absurd c57 (by decide))
          refine ab_aload_n d_MO_hexadecimal_222 rfl ?_
          refine zz_iconst d_MO_hexadecimal_223 ?_
          refine ab_iload_n d_MO_hexadecimal_224 rfl ?_
          refine ab_callV (d' := d - 1) (as := [vz 5, vz wh]) (st := []) (r := _) (z_MO_wrong (o := o) (m_thrown := m_thrown) (m_taped := m_taped) (m_length := m_length) (m_out := m_out) (m_wide := m_wide) (m_gathered := m_gathered) (m_sets := m_sets) (m_ranges := m_ranges) (m_nodes := m_nodes) (m_at := (m_at + 2)) (m_flags := m_flags) (m_fault := m_fault) (m_place := m_place) (m_numbered := m_numbered) (m_depth := m_depth) (m_value := m_value) (m_isNot := m_isNot) (m_least0 := m_least0) (m_most0 := m_most0) (m_slot := m_slot) (m_work := m_work) (m_got := m_got) (m_rowMany := m_rowMany) (m_charAt := m_charAt) (m_charWide := m_charWide) (m_trail := m_trail) (m_isMatch := m_isMatch) (m_matchGroups := m_matchGroups) (m_allFrom := m_allFrom) (m_allBefore := m_allBefore) (m_founds := m_founds) (m_pieces := m_pieces) (m_writtenMany := m_writtenMany) (m_templateWide := m_templateWide) (m_tooMuch := m_tooMuch) (x := 5) (y := wh) h80 (by omega) (by omega)) (fun oc G2 h => by rcases h with ⟨_, _, h, _⟩ <;> exact ⟨_, h⟩) (by omega) m_MO_wrong ml_MO_304 im_MO_wrong se_MO_wrong c_MO h80.2.2 (Nat.le_of_ble_eq_true rfl) d_MO_hexadecimal_225 rfl ?_
          intro v G58 hq
          rcases hq with ⟨f259, p260, hv, hfk, hlk, hsk, hN80, hq61⟩
          cases hv
          have h84 := hfk.get h84 (by decide)
          have hfr := hfr.tr hfk (by decide)
          have hlen := hlk.trans hlen
          have hsl := hsk.trans hsl
          have h80 := hN80
          change ab_W _ _ _ G58 228 [some (vR 80), some (vz wh), some (vz 1114112), some (vz 0), some (vz 0)] [] _
          refine zz_iconst d_MO_hexadecimal_228 ?_
          refine zz_iret rfl d_MO_hexadecimal_229 ?_
          rw [hQ]; exact (Or.inl ⟨_, _, _, rfl, hfr, hlen, hsl, h80, (by omega)⟩)
      · cases hv
        rw [hGe]
        change ab_W _ _ _ G 122 [some (vR 80), some (vz wh), some (vz 0), some (vz 0), none] [vz (-1)] _
        exfalso; omega
    · refine ab_aload_n d_MO_hexadecimal_14 rfl ?_
      refine ab_dup d_MO_hexadecimal_15 rfl ?_
      refine ab_getf (fs := mof m_thrown m_taped m_length m_out m_wide m_gathered m_sets m_ranges m_nodes m_at m_flags m_fault m_place m_numbered m_depth m_value m_isNot m_least0 m_most0 m_slot m_work m_got m_rowMany m_charAt m_charWide m_trail m_isMatch m_matchGroups m_allFrom m_allBefore m_founds m_pieces m_writtenMany m_templateWide m_tooMuch) f_MO_279 d_MO_hexadecimal_16 h80.2.2 rfl ?_
      refine zz_iconst d_MO_hexadecimal_19 ?_
      refine zz_iadd d_MO_hexadecimal_20 ?_
      refine ab_putf (fs := mof m_thrown m_taped m_length m_out m_wide m_gathered m_sets m_ranges m_nodes m_at m_flags m_fault m_place m_numbered m_depth m_value m_isNot m_least0 m_most0 m_slot m_work m_got m_rowMany m_charAt m_charWide m_trail m_isMatch m_matchGroups m_allFrom m_allBefore m_founds m_pieces m_writtenMany m_templateWide m_tooMuch) f_MO_279 (Or.inl rfl) d_MO_hexadecimal_21 h80.2.2 (Nat.le_of_ble_eq_true rfl) (fun _ => ⟨rfl, rfl⟩) (h80.2.1 (by decide)) ?_
      obtain ⟨G62, eG62⟩ : ∃ z : ab_G, z = List.set G 80 (ab_ob 12 (mof m_thrown m_taped m_length m_out m_wide m_gathered m_sets m_ranges m_nodes (m_at + 1) m_flags m_fault m_place m_numbered m_depth m_value m_isNot m_least0 m_most0 m_slot m_work m_got m_rowMany m_charAt m_charWide m_trail m_isMatch m_matchGroups m_allFrom m_allBefore m_founds m_pieces m_writtenMany m_templateWide m_tooMuch)) := ⟨_, rfl⟩
      have h84 := h84.keep h80 eG62 (by decide)
      have hlen := (z_len eG62).trans hlen
      have hsl := (z_sl h80 eG62 rfl).trans hsl
      have hfr := hfr.wr h80 eG62 (by decide)
      have h80 := h80.kept eG62
      change ab_W _ _ _ (List.set G 80 (ab_ob 12 (mof m_thrown m_taped m_length m_out m_wide m_gathered m_sets m_ranges m_nodes (m_at + 1) m_flags m_fault m_place m_numbered m_depth m_value m_isNot m_least0 m_most0 m_slot m_work m_got m_rowMany m_charAt m_charWide m_trail m_isMatch m_matchGroups m_allFrom m_allBefore m_founds m_pieces m_writtenMany m_templateWide m_tooMuch))) 24 [some (vR 80), some (vz wh), some (vz 0), some (vz 0), none] [] _
      rw [← eG62]
      refine y_MO_hexadecimal_24 (m_thrown := m_thrown) (m_taped := m_taped) (m_length := m_length) (m_out := m_out) (m_wide := m_wide) (m_gathered := m_gathered) (m_sets := m_sets) (m_ranges := m_ranges) (m_nodes := m_nodes) (m_flags := m_flags) (m_fault := m_fault) (m_place := m_place) (m_numbered := m_numbered) (m_depth := m_depth) (m_value := m_value) (m_isNot := m_isNot) (m_least0 := m_least0) (m_most0 := m_most0) (m_slot := m_slot) (m_work := m_work) (m_got := m_got) (m_rowMany := m_rowMany) (m_charAt := m_charAt) (m_charWide := m_charWide) (m_trail := m_trail) (m_isMatch := m_isMatch) (m_matchGroups := m_matchGroups) (m_allFrom := m_allFrom) (m_allBefore := m_allBefore) (m_founds := m_founds) (m_pieces := m_pieces) (m_writtenMany := m_writtenMany) (m_templateWide := m_templateWide) (m_tooMuch := m_tooMuch) (A_tape := A_tape) (wh := wh) (a0_ := (m_at + 1)) (G0 := G62) (hv := 0) (n := 0) (m_at := (m_at + 1)) (by omega) (by omega) jtp (by omega) (Int.toNat (7 - 0) + 1) h80 h84 (by have t_ := q16_in 0 (by decide) (by decide); omega) (by omega) fx.rf rfl rfl (by omega) (fun G63 v264 n265 a266 hN80 hq67 hfk hlk hsk => ?_)
      · have h84 := hfk.get h84 (by decide)
        have hfr := hfr.tr hfk (by decide)
        have hlen := hlk.trans hlen
        have hsl := hsk.trans hsl
        have h80 := hN80
        change ab_W _ _ _ G63 79 [some (vR 80), some (vz wh), some (vz v264), some (vz n265), none] [] _
        refine ab_iload_n d_MO_hexadecimal_79 rfl ?_
        refine zz_iconst d_MO_hexadecimal_80 ?_
        refine zz_icmp_lt (tgt := 100) d_MO_hexadecimal_81 (by decide) (by omega) (by decide) (fun c68 => ?_) (fun c68 => ?_)
        · refine zz_ldcw 1114112 d_MO_hexadecimal_100 cn_MO_303 (by decide) ?_
          refine ab_istore_n d_MO_hexadecimal_103 (Nat.le_of_ble_eq_true rfl) (Nat.le_of_ble_eq_true rfl) rfl ?_
          change ab_W _ _ _ G63 104 [some (vR 80), some (vz wh), some (vz 1114112), some (vz n265), none] [] _
          refine ab_aload_n d_MO_hexadecimal_104 rfl ?_
          refine ab_dup d_MO_hexadecimal_105 rfl ?_
          refine ab_getf (fs := mof m_thrown m_taped m_length m_out m_wide m_gathered m_sets m_ranges m_nodes a266 m_flags m_fault m_place m_numbered m_depth m_value m_isNot m_least0 m_most0 m_slot m_work m_got m_rowMany m_charAt m_charWide m_trail m_isMatch m_matchGroups m_allFrom m_allBefore m_founds m_pieces m_writtenMany m_templateWide m_tooMuch) f_MO_279 d_MO_hexadecimal_106 h80.2.2 rfl ?_
          refine zz_iconst d_MO_hexadecimal_109 ?_
          refine zz_iadd d_MO_hexadecimal_110 ?_
          refine ab_putf (fs := mof m_thrown m_taped m_length m_out m_wide m_gathered m_sets m_ranges m_nodes a266 m_flags m_fault m_place m_numbered m_depth m_value m_isNot m_least0 m_most0 m_slot m_work m_got m_rowMany m_charAt m_charWide m_trail m_isMatch m_matchGroups m_allFrom m_allBefore m_founds m_pieces m_writtenMany m_templateWide m_tooMuch) f_MO_279 (Or.inl rfl) d_MO_hexadecimal_111 h80.2.2 (Nat.le_of_ble_eq_true rfl) (fun _ => ⟨rfl, rfl⟩) (h80.2.1 (by decide)) ?_
          obtain ⟨G69, eG69⟩ : ∃ z : ab_G, z = List.set G63 80 (ab_ob 12 (mof m_thrown m_taped m_length m_out m_wide m_gathered m_sets m_ranges m_nodes (a266 + 1) m_flags m_fault m_place m_numbered m_depth m_value m_isNot m_least0 m_most0 m_slot m_work m_got m_rowMany m_charAt m_charWide m_trail m_isMatch m_matchGroups m_allFrom m_allBefore m_founds m_pieces m_writtenMany m_templateWide m_tooMuch)) := ⟨_, rfl⟩
          have h84 := h84.keep h80 eG69 (by decide)
          have hlen := (z_len eG69).trans hlen
          have hsl := (z_sl h80 eG69 rfl).trans hsl
          have hfr := hfr.wr h80 eG69 (by decide)
          have h80 := h80.kept eG69
          change ab_W _ _ _ (List.set G63 80 (ab_ob 12 (mof m_thrown m_taped m_length m_out m_wide m_gathered m_sets m_ranges m_nodes (a266 + 1) m_flags m_fault m_place m_numbered m_depth m_value m_isNot m_least0 m_most0 m_slot m_work m_got m_rowMany m_charAt m_charWide m_trail m_isMatch m_matchGroups m_allFrom m_allBefore m_founds m_pieces m_writtenMany m_templateWide m_tooMuch))) 114 [some (vR 80), some (vz wh), some (vz 1114112), some (vz n265), none] [] _
          rw [← eG69]
          refine ab_goto (tgt := 204) d_MO_hexadecimal_114 (by decide) ?_
          refine ab_iload_n d_MO_hexadecimal_204 rfl ?_
          refine zz_ldc 1114111 d_MO_hexadecimal_205 cn_MO_236 (by decide) ?_
          refine zz_icmp_gt (tgt := 222) d_MO_hexadecimal_207 (by decide) (by decide) (by decide) (fun c70 => ?_) (fun c70 => absurd c70 (by decide))
          refine ab_aload_n d_MO_hexadecimal_222 rfl ?_
          refine zz_iconst d_MO_hexadecimal_223 ?_
          refine ab_iload_n d_MO_hexadecimal_224 rfl ?_
          refine ab_callV (d' := d - 1) (as := [vz 5, vz wh]) (st := []) (r := _) (z_MO_wrong (o := o) (m_thrown := m_thrown) (m_taped := m_taped) (m_length := m_length) (m_out := m_out) (m_wide := m_wide) (m_gathered := m_gathered) (m_sets := m_sets) (m_ranges := m_ranges) (m_nodes := m_nodes) (m_at := (a266 + 1)) (m_flags := m_flags) (m_fault := m_fault) (m_place := m_place) (m_numbered := m_numbered) (m_depth := m_depth) (m_value := m_value) (m_isNot := m_isNot) (m_least0 := m_least0) (m_most0 := m_most0) (m_slot := m_slot) (m_work := m_work) (m_got := m_got) (m_rowMany := m_rowMany) (m_charAt := m_charAt) (m_charWide := m_charWide) (m_trail := m_trail) (m_isMatch := m_isMatch) (m_matchGroups := m_matchGroups) (m_allFrom := m_allFrom) (m_allBefore := m_allBefore) (m_founds := m_founds) (m_pieces := m_pieces) (m_writtenMany := m_writtenMany) (m_templateWide := m_templateWide) (m_tooMuch := m_tooMuch) (x := 5) (y := wh) h80 (by omega) (by omega)) (fun oc G2 h => by rcases h with ⟨_, _, h, _⟩ <;> exact ⟨_, h⟩) (by omega) m_MO_wrong ml_MO_304 im_MO_wrong se_MO_wrong c_MO h80.2.2 (Nat.le_of_ble_eq_true rfl) d_MO_hexadecimal_225 rfl ?_
          intro v G71 hq
          rcases hq with ⟨f272, p273, hv, hfk, hlk, hsk, hN80, hq74⟩
          cases hv
          have h84 := hfk.get h84 (by decide)
          have hfr := hfr.tr hfk (by decide)
          have hlen := hlk.trans hlen
          have hsl := hsk.trans hsl
          have h80 := hN80
          change ab_W _ _ _ G71 228 [some (vR 80), some (vz wh), some (vz 1114112), some (vz n265), none] [] _
          refine zz_iconst d_MO_hexadecimal_228 ?_
          refine zz_iret rfl d_MO_hexadecimal_229 ?_
          rw [hQ]; exact (Or.inl ⟨_, _, _, rfl, hfr, hlen, hsl, h80, (by omega)⟩)
        · refine ab_iload_n d_MO_hexadecimal_84 rfl ?_
          refine zz_bipush d_MO_hexadecimal_85 (by decide) ?_
          refine zz_icmp_gt (tgt := 100) d_MO_hexadecimal_87 (by decide) (by omega) (by decide) (fun c75 => ?_) (fun c75 => ?_)
          · refine zz_ldcw 1114112 d_MO_hexadecimal_100 cn_MO_303 (by decide) ?_
            refine ab_istore_n d_MO_hexadecimal_103 (Nat.le_of_ble_eq_true rfl) (Nat.le_of_ble_eq_true rfl) rfl ?_
            change ab_W _ _ _ G63 104 [some (vR 80), some (vz wh), some (vz 1114112), some (vz n265), none] [] _
            refine ab_aload_n d_MO_hexadecimal_104 rfl ?_
            refine ab_dup d_MO_hexadecimal_105 rfl ?_
            refine ab_getf (fs := mof m_thrown m_taped m_length m_out m_wide m_gathered m_sets m_ranges m_nodes a266 m_flags m_fault m_place m_numbered m_depth m_value m_isNot m_least0 m_most0 m_slot m_work m_got m_rowMany m_charAt m_charWide m_trail m_isMatch m_matchGroups m_allFrom m_allBefore m_founds m_pieces m_writtenMany m_templateWide m_tooMuch) f_MO_279 d_MO_hexadecimal_106 h80.2.2 rfl ?_
            refine zz_iconst d_MO_hexadecimal_109 ?_
            refine zz_iadd d_MO_hexadecimal_110 ?_
            refine ab_putf (fs := mof m_thrown m_taped m_length m_out m_wide m_gathered m_sets m_ranges m_nodes a266 m_flags m_fault m_place m_numbered m_depth m_value m_isNot m_least0 m_most0 m_slot m_work m_got m_rowMany m_charAt m_charWide m_trail m_isMatch m_matchGroups m_allFrom m_allBefore m_founds m_pieces m_writtenMany m_templateWide m_tooMuch) f_MO_279 (Or.inl rfl) d_MO_hexadecimal_111 h80.2.2 (Nat.le_of_ble_eq_true rfl) (fun _ => ⟨rfl, rfl⟩) (h80.2.1 (by decide)) ?_
            obtain ⟨G76, eG76⟩ : ∃ z : ab_G, z = List.set G63 80 (ab_ob 12 (mof m_thrown m_taped m_length m_out m_wide m_gathered m_sets m_ranges m_nodes (a266 + 1) m_flags m_fault m_place m_numbered m_depth m_value m_isNot m_least0 m_most0 m_slot m_work m_got m_rowMany m_charAt m_charWide m_trail m_isMatch m_matchGroups m_allFrom m_allBefore m_founds m_pieces m_writtenMany m_templateWide m_tooMuch)) := ⟨_, rfl⟩
            have h84 := h84.keep h80 eG76 (by decide)
            have hlen := (z_len eG76).trans hlen
            have hsl := (z_sl h80 eG76 rfl).trans hsl
            have hfr := hfr.wr h80 eG76 (by decide)
            have h80 := h80.kept eG76
            change ab_W _ _ _ (List.set G63 80 (ab_ob 12 (mof m_thrown m_taped m_length m_out m_wide m_gathered m_sets m_ranges m_nodes (a266 + 1) m_flags m_fault m_place m_numbered m_depth m_value m_isNot m_least0 m_most0 m_slot m_work m_got m_rowMany m_charAt m_charWide m_trail m_isMatch m_matchGroups m_allFrom m_allBefore m_founds m_pieces m_writtenMany m_templateWide m_tooMuch))) 114 [some (vR 80), some (vz wh), some (vz 1114112), some (vz n265), none] [] _
            rw [← eG76]
            refine ab_goto (tgt := 204) d_MO_hexadecimal_114 (by decide) ?_
            refine ab_iload_n d_MO_hexadecimal_204 rfl ?_
            refine zz_ldc 1114111 d_MO_hexadecimal_205 cn_MO_236 (by decide) ?_
            refine zz_icmp_gt (tgt := 222) d_MO_hexadecimal_207 (by decide) (by decide) (by decide) (fun c77 => ?_) (fun c77 => absurd c77 (by decide))
            refine ab_aload_n d_MO_hexadecimal_222 rfl ?_
            refine zz_iconst d_MO_hexadecimal_223 ?_
            refine ab_iload_n d_MO_hexadecimal_224 rfl ?_
            refine ab_callV (d' := d - 1) (as := [vz 5, vz wh]) (st := []) (r := _) (z_MO_wrong (o := o) (m_thrown := m_thrown) (m_taped := m_taped) (m_length := m_length) (m_out := m_out) (m_wide := m_wide) (m_gathered := m_gathered) (m_sets := m_sets) (m_ranges := m_ranges) (m_nodes := m_nodes) (m_at := (a266 + 1)) (m_flags := m_flags) (m_fault := m_fault) (m_place := m_place) (m_numbered := m_numbered) (m_depth := m_depth) (m_value := m_value) (m_isNot := m_isNot) (m_least0 := m_least0) (m_most0 := m_most0) (m_slot := m_slot) (m_work := m_work) (m_got := m_got) (m_rowMany := m_rowMany) (m_charAt := m_charAt) (m_charWide := m_charWide) (m_trail := m_trail) (m_isMatch := m_isMatch) (m_matchGroups := m_matchGroups) (m_allFrom := m_allFrom) (m_allBefore := m_allBefore) (m_founds := m_founds) (m_pieces := m_pieces) (m_writtenMany := m_writtenMany) (m_templateWide := m_templateWide) (m_tooMuch := m_tooMuch) (x := 5) (y := wh) h80 (by omega) (by omega)) (fun oc G2 h => by rcases h with ⟨_, _, h, _⟩ <;> exact ⟨_, h⟩) (by omega) m_MO_wrong ml_MO_304 im_MO_wrong se_MO_wrong c_MO h80.2.2 (Nat.le_of_ble_eq_true rfl) d_MO_hexadecimal_225 rfl ?_
            intro v G78 hq
            rcases hq with ⟨f279, p280, hv, hfk, hlk, hsk, hN80, hq81⟩
            cases hv
            have h84 := hfk.get h84 (by decide)
            have hfr := hfr.tr hfk (by decide)
            have hlen := hlk.trans hlen
            have hsl := hsk.trans hsl
            have h80 := hN80
            change ab_W _ _ _ G78 228 [some (vR 80), some (vz wh), some (vz 1114112), some (vz n265), none] [] _
            refine zz_iconst d_MO_hexadecimal_228 ?_
            refine zz_iret rfl d_MO_hexadecimal_229 ?_
            rw [hQ]; exact (Or.inl ⟨_, _, _, rfl, hfr, hlen, hsl, h80, (by omega)⟩)
          · refine ab_aload_n d_MO_hexadecimal_90 rfl ?_
            refine zz_iconst d_MO_hexadecimal_91 ?_
            refine ab_callV (d' := d - 1) (as := [vz 0]) (st := []) (r := _) (z_MO_here (o := o) (m_thrown := m_thrown) (m_taped := m_taped) (m_length := m_length) (m_out := m_out) (m_wide := m_wide) (m_gathered := m_gathered) (m_sets := m_sets) (m_ranges := m_ranges) (m_nodes := m_nodes) (m_at := a266) (m_flags := m_flags) (m_fault := m_fault) (m_place := m_place) (m_numbered := m_numbered) (m_depth := m_depth) (m_value := m_value) (m_isNot := m_isNot) (m_least0 := m_least0) (m_most0 := m_most0) (m_slot := m_slot) (m_work := m_work) (m_got := m_got) (m_rowMany := m_rowMany) (m_charAt := m_charAt) (m_charWide := m_charWide) (m_trail := m_trail) (m_isMatch := m_isMatch) (m_matchGroups := m_matchGroups) (m_allFrom := m_allFrom) (m_allBefore := m_allBefore) (m_founds := m_founds) (m_pieces := m_pieces) (m_writtenMany := m_writtenMany) (m_templateWide := m_templateWide) (m_tooMuch := m_tooMuch) (A_tape := A_tape) (k := 0) h80 h84 (by omega) (by omega) jtp (by omega)) (fun oc G2 h => by rcases h with ⟨h, _⟩ | ⟨h, _⟩ <;> exact ⟨_, h⟩) (by omega) m_MO_here ml_MO_297 im_MO_here se_MO_here c_MO h80.2.2 (Nat.le_of_ble_eq_true rfl) d_MO_hexadecimal_92 rfl ?_
            intro v G82 hq
            rcases hq with ⟨hv, hGe, hq83⟩ | ⟨hv, hGe, hq84⟩
            · cases hv
              rw [hGe]
              change ab_W _ _ _ G63 95 [some (vR 80), some (vz wh), some (vz v264), some (vz n265), none] [vz (A_tape (a266 + 0))] _
              refine zz_bipush d_MO_hexadecimal_95 (by decide) ?_
              refine zz_icmp_eq (tgt := 104) d_MO_hexadecimal_97 (by decide) (by omega) (by decide) (fun c85 => ?_) (fun c85 => ?_)
              · refine ab_aload_n d_MO_hexadecimal_104 rfl ?_
                refine ab_dup d_MO_hexadecimal_105 rfl ?_
                refine ab_getf (fs := mof m_thrown m_taped m_length m_out m_wide m_gathered m_sets m_ranges m_nodes a266 m_flags m_fault m_place m_numbered m_depth m_value m_isNot m_least0 m_most0 m_slot m_work m_got m_rowMany m_charAt m_charWide m_trail m_isMatch m_matchGroups m_allFrom m_allBefore m_founds m_pieces m_writtenMany m_templateWide m_tooMuch) f_MO_279 d_MO_hexadecimal_106 h80.2.2 rfl ?_
                refine zz_iconst d_MO_hexadecimal_109 ?_
                refine zz_iadd d_MO_hexadecimal_110 ?_
                refine ab_putf (fs := mof m_thrown m_taped m_length m_out m_wide m_gathered m_sets m_ranges m_nodes a266 m_flags m_fault m_place m_numbered m_depth m_value m_isNot m_least0 m_most0 m_slot m_work m_got m_rowMany m_charAt m_charWide m_trail m_isMatch m_matchGroups m_allFrom m_allBefore m_founds m_pieces m_writtenMany m_templateWide m_tooMuch) f_MO_279 (Or.inl rfl) d_MO_hexadecimal_111 h80.2.2 (Nat.le_of_ble_eq_true rfl) (fun _ => ⟨rfl, rfl⟩) (h80.2.1 (by decide)) ?_
                obtain ⟨G86, eG86⟩ : ∃ z : ab_G, z = List.set G63 80 (ab_ob 12 (mof m_thrown m_taped m_length m_out m_wide m_gathered m_sets m_ranges m_nodes (a266 + 1) m_flags m_fault m_place m_numbered m_depth m_value m_isNot m_least0 m_most0 m_slot m_work m_got m_rowMany m_charAt m_charWide m_trail m_isMatch m_matchGroups m_allFrom m_allBefore m_founds m_pieces m_writtenMany m_templateWide m_tooMuch)) := ⟨_, rfl⟩
                have h84 := h84.keep h80 eG86 (by decide)
                have hlen := (z_len eG86).trans hlen
                have hsl := (z_sl h80 eG86 rfl).trans hsl
                have hfr := hfr.wr h80 eG86 (by decide)
                have h80 := h80.kept eG86
                change ab_W _ _ _ (List.set G63 80 (ab_ob 12 (mof m_thrown m_taped m_length m_out m_wide m_gathered m_sets m_ranges m_nodes (a266 + 1) m_flags m_fault m_place m_numbered m_depth m_value m_isNot m_least0 m_most0 m_slot m_work m_got m_rowMany m_charAt m_charWide m_trail m_isMatch m_matchGroups m_allFrom m_allBefore m_founds m_pieces m_writtenMany m_templateWide m_tooMuch))) 114 [some (vR 80), some (vz wh), some (vz v264), some (vz n265), none] [] _
                rw [← eG86]
                refine ab_goto (tgt := 204) d_MO_hexadecimal_114 (by decide) ?_
                refine ab_iload_n d_MO_hexadecimal_204 rfl ?_
                refine zz_ldc 1114111 d_MO_hexadecimal_205 cn_MO_236 (by decide) ?_
                refine zz_icmp_gt (tgt := 222) d_MO_hexadecimal_207 (by decide) (by omega) (by decide) (fun c87 => ?_) (fun c87 => ?_)
                · refine ab_aload_n d_MO_hexadecimal_222 rfl ?_
                  refine zz_iconst d_MO_hexadecimal_223 ?_
                  refine ab_iload_n d_MO_hexadecimal_224 rfl ?_
                  refine ab_callV (d' := d - 1) (as := [vz 5, vz wh]) (st := []) (r := _) (z_MO_wrong (o := o) (m_thrown := m_thrown) (m_taped := m_taped) (m_length := m_length) (m_out := m_out) (m_wide := m_wide) (m_gathered := m_gathered) (m_sets := m_sets) (m_ranges := m_ranges) (m_nodes := m_nodes) (m_at := (a266 + 1)) (m_flags := m_flags) (m_fault := m_fault) (m_place := m_place) (m_numbered := m_numbered) (m_depth := m_depth) (m_value := m_value) (m_isNot := m_isNot) (m_least0 := m_least0) (m_most0 := m_most0) (m_slot := m_slot) (m_work := m_work) (m_got := m_got) (m_rowMany := m_rowMany) (m_charAt := m_charAt) (m_charWide := m_charWide) (m_trail := m_trail) (m_isMatch := m_isMatch) (m_matchGroups := m_matchGroups) (m_allFrom := m_allFrom) (m_allBefore := m_allBefore) (m_founds := m_founds) (m_pieces := m_pieces) (m_writtenMany := m_writtenMany) (m_templateWide := m_templateWide) (m_tooMuch := m_tooMuch) (x := 5) (y := wh) h80 (by omega) (by omega)) (fun oc G2 h => by rcases h with ⟨_, _, h, _⟩ <;> exact ⟨_, h⟩) (by omega) m_MO_wrong ml_MO_304 im_MO_wrong se_MO_wrong c_MO h80.2.2 (Nat.le_of_ble_eq_true rfl) d_MO_hexadecimal_225 rfl ?_
                  intro v G88 hq
                  rcases hq with ⟨f289, p290, hv, hfk, hlk, hsk, hN80, hq91⟩
                  cases hv
                  have h84 := hfk.get h84 (by decide)
                  have hfr := hfr.tr hfk (by decide)
                  have hlen := hlk.trans hlen
                  have hsl := hsk.trans hsl
                  have h80 := hN80
                  change ab_W _ _ _ G88 228 [some (vR 80), some (vz wh), some (vz v264), some (vz n265), none] [] _
                  refine zz_iconst d_MO_hexadecimal_228 ?_
                  refine zz_iret rfl d_MO_hexadecimal_229 ?_
                  rw [hQ]; exact (Or.inl ⟨_, _, _, rfl, hfr, hlen, hsl, h80, (by omega)⟩)
                · refine ab_iload_n d_MO_hexadecimal_210 rfl ?_
                  refine zz_ldc 55296 d_MO_hexadecimal_211 cn_MO_233 (by decide) ?_
                  refine zz_icmp_lt (tgt := 230) d_MO_hexadecimal_213 (by decide) (by omega) (by decide) (fun c92 => ?_) (fun c92 => ?_)
                  · refine ab_aload_n d_MO_hexadecimal_230 rfl ?_
                    refine ab_iload_n d_MO_hexadecimal_231 rfl ?_
                    refine ab_putf (fs := mof m_thrown m_taped m_length m_out m_wide m_gathered m_sets m_ranges m_nodes (a266 + 1) m_flags m_fault m_place m_numbered m_depth m_value m_isNot m_least0 m_most0 m_slot m_work m_got m_rowMany m_charAt m_charWide m_trail m_isMatch m_matchGroups m_allFrom m_allBefore m_founds m_pieces m_writtenMany m_templateWide m_tooMuch) f_MO_307 (Or.inl rfl) d_MO_hexadecimal_232 h80.2.2 (Nat.le_of_ble_eq_true rfl) (fun _ => ⟨rfl, rfl⟩) (h80.2.1 (by decide)) ?_
                    obtain ⟨G93, eG93⟩ : ∃ z : ab_G, z = List.set G86 80 (ab_ob 12 (mof m_thrown m_taped m_length m_out m_wide m_gathered m_sets m_ranges m_nodes (a266 + 1) m_flags m_fault m_place m_numbered m_depth v264 m_isNot m_least0 m_most0 m_slot m_work m_got m_rowMany m_charAt m_charWide m_trail m_isMatch m_matchGroups m_allFrom m_allBefore m_founds m_pieces m_writtenMany m_templateWide m_tooMuch)) := ⟨_, rfl⟩
                    have h84 := h84.keep h80 eG93 (by decide)
                    have hlen := (z_len eG93).trans hlen
                    have hsl := (z_sl h80 eG93 rfl).trans hsl
                    have hfr := hfr.wr h80 eG93 (by decide)
                    have h80 := h80.kept eG93
                    change ab_W _ _ _ (List.set G86 80 (ab_ob 12 (mof m_thrown m_taped m_length m_out m_wide m_gathered m_sets m_ranges m_nodes (a266 + 1) m_flags m_fault m_place m_numbered m_depth v264 m_isNot m_least0 m_most0 m_slot m_work m_got m_rowMany m_charAt m_charWide m_trail m_isMatch m_matchGroups m_allFrom m_allBefore m_founds m_pieces m_writtenMany m_templateWide m_tooMuch))) 235 [some (vR 80), some (vz wh), some (vz v264), some (vz n265), none] [] _
                    rw [← eG93]
                    refine zz_iconst d_MO_hexadecimal_235 ?_
                    refine zz_iret rfl d_MO_hexadecimal_236 ?_
                    rw [hQ]; exact (Or.inr ⟨_, _, rfl, hfr, hlen, hsl, h80, (by omega)⟩)
                  · refine ab_iload_n d_MO_hexadecimal_216 rfl ?_
                    refine zz_ldc 57344 d_MO_hexadecimal_217 cn_MO_234 (by decide) ?_
                    refine zz_icmp_ge (tgt := 230) d_MO_hexadecimal_219 (by decide) (by omega) (by decide) (fun c94 => ?_) (fun c94 => ?_)
                    · refine ab_aload_n d_MO_hexadecimal_230 rfl ?_
                      refine ab_iload_n d_MO_hexadecimal_231 rfl ?_
                      refine ab_putf (fs := mof m_thrown m_taped m_length m_out m_wide m_gathered m_sets m_ranges m_nodes (a266 + 1) m_flags m_fault m_place m_numbered m_depth m_value m_isNot m_least0 m_most0 m_slot m_work m_got m_rowMany m_charAt m_charWide m_trail m_isMatch m_matchGroups m_allFrom m_allBefore m_founds m_pieces m_writtenMany m_templateWide m_tooMuch) f_MO_307 (Or.inl rfl) d_MO_hexadecimal_232 h80.2.2 (Nat.le_of_ble_eq_true rfl) (fun _ => ⟨rfl, rfl⟩) (h80.2.1 (by decide)) ?_
                      obtain ⟨G95, eG95⟩ : ∃ z : ab_G, z = List.set G86 80 (ab_ob 12 (mof m_thrown m_taped m_length m_out m_wide m_gathered m_sets m_ranges m_nodes (a266 + 1) m_flags m_fault m_place m_numbered m_depth v264 m_isNot m_least0 m_most0 m_slot m_work m_got m_rowMany m_charAt m_charWide m_trail m_isMatch m_matchGroups m_allFrom m_allBefore m_founds m_pieces m_writtenMany m_templateWide m_tooMuch)) := ⟨_, rfl⟩
                      have h84 := h84.keep h80 eG95 (by decide)
                      have hlen := (z_len eG95).trans hlen
                      have hsl := (z_sl h80 eG95 rfl).trans hsl
                      have hfr := hfr.wr h80 eG95 (by decide)
                      have h80 := h80.kept eG95
                      change ab_W _ _ _ (List.set G86 80 (ab_ob 12 (mof m_thrown m_taped m_length m_out m_wide m_gathered m_sets m_ranges m_nodes (a266 + 1) m_flags m_fault m_place m_numbered m_depth v264 m_isNot m_least0 m_most0 m_slot m_work m_got m_rowMany m_charAt m_charWide m_trail m_isMatch m_matchGroups m_allFrom m_allBefore m_founds m_pieces m_writtenMany m_templateWide m_tooMuch))) 235 [some (vR 80), some (vz wh), some (vz v264), some (vz n265), none] [] _
                      rw [← eG95]
                      refine zz_iconst d_MO_hexadecimal_235 ?_
                      refine zz_iret rfl d_MO_hexadecimal_236 ?_
                      rw [hQ]; exact (Or.inr ⟨_, _, rfl, hfr, hlen, hsl, h80, (by omega)⟩)
                    · refine ab_aload_n d_MO_hexadecimal_222 rfl ?_
                      refine zz_iconst d_MO_hexadecimal_223 ?_
                      refine ab_iload_n d_MO_hexadecimal_224 rfl ?_
                      refine ab_callV (d' := d - 1) (as := [vz 5, vz wh]) (st := []) (r := _) (z_MO_wrong (o := o) (m_thrown := m_thrown) (m_taped := m_taped) (m_length := m_length) (m_out := m_out) (m_wide := m_wide) (m_gathered := m_gathered) (m_sets := m_sets) (m_ranges := m_ranges) (m_nodes := m_nodes) (m_at := (a266 + 1)) (m_flags := m_flags) (m_fault := m_fault) (m_place := m_place) (m_numbered := m_numbered) (m_depth := m_depth) (m_value := m_value) (m_isNot := m_isNot) (m_least0 := m_least0) (m_most0 := m_most0) (m_slot := m_slot) (m_work := m_work) (m_got := m_got) (m_rowMany := m_rowMany) (m_charAt := m_charAt) (m_charWide := m_charWide) (m_trail := m_trail) (m_isMatch := m_isMatch) (m_matchGroups := m_matchGroups) (m_allFrom := m_allFrom) (m_allBefore := m_allBefore) (m_founds := m_founds) (m_pieces := m_pieces) (m_writtenMany := m_writtenMany) (m_templateWide := m_templateWide) (m_tooMuch := m_tooMuch) (x := 5) (y := wh) h80 (by omega) (by omega)) (fun oc G2 h => by rcases h with ⟨_, _, h, _⟩ <;> exact ⟨_, h⟩) (by omega) m_MO_wrong ml_MO_304 im_MO_wrong se_MO_wrong c_MO h80.2.2 (Nat.le_of_ble_eq_true rfl) d_MO_hexadecimal_225 rfl ?_
                      intro v G96 hq
                      rcases hq with ⟨f297, p298, hv, hfk, hlk, hsk, hN80, hq99⟩
                      cases hv
                      have h84 := hfk.get h84 (by decide)
                      have hfr := hfr.tr hfk (by decide)
                      have hlen := hlk.trans hlen
                      have hsl := hsk.trans hsl
                      have h80 := hN80
                      change ab_W _ _ _ G96 228 [some (vR 80), some (vz wh), some (vz v264), some (vz n265), none] [] _
                      refine zz_iconst d_MO_hexadecimal_228 ?_
                      refine zz_iret rfl d_MO_hexadecimal_229 ?_
                      rw [hQ]; exact (Or.inl ⟨_, _, _, rfl, hfr, hlen, hsl, h80, (by omega)⟩)
              · refine zz_ldcw 1114112 d_MO_hexadecimal_100 cn_MO_303 (by decide) ?_
                refine ab_istore_n d_MO_hexadecimal_103 (Nat.le_of_ble_eq_true rfl) (Nat.le_of_ble_eq_true rfl) rfl ?_
                change ab_W _ _ _ G63 104 [some (vR 80), some (vz wh), some (vz 1114112), some (vz n265), none] [] _
                refine ab_aload_n d_MO_hexadecimal_104 rfl ?_
                refine ab_dup d_MO_hexadecimal_105 rfl ?_
                refine ab_getf (fs := mof m_thrown m_taped m_length m_out m_wide m_gathered m_sets m_ranges m_nodes a266 m_flags m_fault m_place m_numbered m_depth m_value m_isNot m_least0 m_most0 m_slot m_work m_got m_rowMany m_charAt m_charWide m_trail m_isMatch m_matchGroups m_allFrom m_allBefore m_founds m_pieces m_writtenMany m_templateWide m_tooMuch) f_MO_279 d_MO_hexadecimal_106 h80.2.2 rfl ?_
                refine zz_iconst d_MO_hexadecimal_109 ?_
                refine zz_iadd d_MO_hexadecimal_110 ?_
                refine ab_putf (fs := mof m_thrown m_taped m_length m_out m_wide m_gathered m_sets m_ranges m_nodes a266 m_flags m_fault m_place m_numbered m_depth m_value m_isNot m_least0 m_most0 m_slot m_work m_got m_rowMany m_charAt m_charWide m_trail m_isMatch m_matchGroups m_allFrom m_allBefore m_founds m_pieces m_writtenMany m_templateWide m_tooMuch) f_MO_279 (Or.inl rfl) d_MO_hexadecimal_111 h80.2.2 (Nat.le_of_ble_eq_true rfl) (fun _ => ⟨rfl, rfl⟩) (h80.2.1 (by decide)) ?_
                obtain ⟨G100, eG100⟩ : ∃ z : ab_G, z = List.set G63 80 (ab_ob 12 (mof m_thrown m_taped m_length m_out m_wide m_gathered m_sets m_ranges m_nodes (a266 + 1) m_flags m_fault m_place m_numbered m_depth m_value m_isNot m_least0 m_most0 m_slot m_work m_got m_rowMany m_charAt m_charWide m_trail m_isMatch m_matchGroups m_allFrom m_allBefore m_founds m_pieces m_writtenMany m_templateWide m_tooMuch)) := ⟨_, rfl⟩
                have h84 := h84.keep h80 eG100 (by decide)
                have hlen := (z_len eG100).trans hlen
                have hsl := (z_sl h80 eG100 rfl).trans hsl
                have hfr := hfr.wr h80 eG100 (by decide)
                have h80 := h80.kept eG100
                change ab_W _ _ _ (List.set G63 80 (ab_ob 12 (mof m_thrown m_taped m_length m_out m_wide m_gathered m_sets m_ranges m_nodes (a266 + 1) m_flags m_fault m_place m_numbered m_depth m_value m_isNot m_least0 m_most0 m_slot m_work m_got m_rowMany m_charAt m_charWide m_trail m_isMatch m_matchGroups m_allFrom m_allBefore m_founds m_pieces m_writtenMany m_templateWide m_tooMuch))) 114 [some (vR 80), some (vz wh), some (vz 1114112), some (vz n265), none] [] _
                rw [← eG100]
                refine ab_goto (tgt := 204) d_MO_hexadecimal_114 (by decide) ?_
                refine ab_iload_n d_MO_hexadecimal_204 rfl ?_
                refine zz_ldc 1114111 d_MO_hexadecimal_205 cn_MO_236 (by decide) ?_
                refine zz_icmp_gt (tgt := 222) d_MO_hexadecimal_207 (by decide) (by decide) (by decide) (fun c101 => ?_) (fun c101 => absurd c101 (by decide))
                refine ab_aload_n d_MO_hexadecimal_222 rfl ?_
                refine zz_iconst d_MO_hexadecimal_223 ?_
                refine ab_iload_n d_MO_hexadecimal_224 rfl ?_
                refine ab_callV (d' := d - 1) (as := [vz 5, vz wh]) (st := []) (r := _) (z_MO_wrong (o := o) (m_thrown := m_thrown) (m_taped := m_taped) (m_length := m_length) (m_out := m_out) (m_wide := m_wide) (m_gathered := m_gathered) (m_sets := m_sets) (m_ranges := m_ranges) (m_nodes := m_nodes) (m_at := (a266 + 1)) (m_flags := m_flags) (m_fault := m_fault) (m_place := m_place) (m_numbered := m_numbered) (m_depth := m_depth) (m_value := m_value) (m_isNot := m_isNot) (m_least0 := m_least0) (m_most0 := m_most0) (m_slot := m_slot) (m_work := m_work) (m_got := m_got) (m_rowMany := m_rowMany) (m_charAt := m_charAt) (m_charWide := m_charWide) (m_trail := m_trail) (m_isMatch := m_isMatch) (m_matchGroups := m_matchGroups) (m_allFrom := m_allFrom) (m_allBefore := m_allBefore) (m_founds := m_founds) (m_pieces := m_pieces) (m_writtenMany := m_writtenMany) (m_templateWide := m_templateWide) (m_tooMuch := m_tooMuch) (x := 5) (y := wh) h80 (by omega) (by omega)) (fun oc G2 h => by rcases h with ⟨_, _, h, _⟩ <;> exact ⟨_, h⟩) (by omega) m_MO_wrong ml_MO_304 im_MO_wrong se_MO_wrong c_MO h80.2.2 (Nat.le_of_ble_eq_true rfl) d_MO_hexadecimal_225 rfl ?_
                intro v G102 hq
                rcases hq with ⟨f2103, p2104, hv, hfk, hlk, hsk, hN80, hq105⟩
                cases hv
                have h84 := hfk.get h84 (by decide)
                have hfr := hfr.tr hfk (by decide)
                have hlen := hlk.trans hlen
                have hsl := hsk.trans hsl
                have h80 := hN80
                change ab_W _ _ _ G102 228 [some (vR 80), some (vz wh), some (vz 1114112), some (vz n265), none] [] _
                refine zz_iconst d_MO_hexadecimal_228 ?_
                refine zz_iret rfl d_MO_hexadecimal_229 ?_
                rw [hQ]; exact (Or.inl ⟨_, _, _, rfl, hfr, hlen, hsl, h80, (by omega)⟩)
            · cases hv
              rw [hGe]
              change ab_W _ _ _ G63 95 [some (vR 80), some (vz wh), some (vz v264), some (vz n265), none] [vz (-1)] _
              refine zz_bipush d_MO_hexadecimal_95 (by decide) ?_
              refine zz_icmp_eq (tgt := 104) d_MO_hexadecimal_97 (by decide) (by decide) (by decide) (fun c106 => absurd c106 (by decide)) (fun c106 => ?_)
              refine zz_ldcw 1114112 d_MO_hexadecimal_100 cn_MO_303 (by decide) ?_
              refine ab_istore_n d_MO_hexadecimal_103 (Nat.le_of_ble_eq_true rfl) (Nat.le_of_ble_eq_true rfl) rfl ?_
              change ab_W _ _ _ G63 104 [some (vR 80), some (vz wh), some (vz 1114112), some (vz n265), none] [] _
              refine ab_aload_n d_MO_hexadecimal_104 rfl ?_
              refine ab_dup d_MO_hexadecimal_105 rfl ?_
              refine ab_getf (fs := mof m_thrown m_taped m_length m_out m_wide m_gathered m_sets m_ranges m_nodes a266 m_flags m_fault m_place m_numbered m_depth m_value m_isNot m_least0 m_most0 m_slot m_work m_got m_rowMany m_charAt m_charWide m_trail m_isMatch m_matchGroups m_allFrom m_allBefore m_founds m_pieces m_writtenMany m_templateWide m_tooMuch) f_MO_279 d_MO_hexadecimal_106 h80.2.2 rfl ?_
              refine zz_iconst d_MO_hexadecimal_109 ?_
              refine zz_iadd d_MO_hexadecimal_110 ?_
              refine ab_putf (fs := mof m_thrown m_taped m_length m_out m_wide m_gathered m_sets m_ranges m_nodes a266 m_flags m_fault m_place m_numbered m_depth m_value m_isNot m_least0 m_most0 m_slot m_work m_got m_rowMany m_charAt m_charWide m_trail m_isMatch m_matchGroups m_allFrom m_allBefore m_founds m_pieces m_writtenMany m_templateWide m_tooMuch) f_MO_279 (Or.inl rfl) d_MO_hexadecimal_111 h80.2.2 (Nat.le_of_ble_eq_true rfl) (fun _ => ⟨rfl, rfl⟩) (h80.2.1 (by decide)) ?_
              obtain ⟨G107, eG107⟩ : ∃ z : ab_G, z = List.set G63 80 (ab_ob 12 (mof m_thrown m_taped m_length m_out m_wide m_gathered m_sets m_ranges m_nodes (a266 + 1) m_flags m_fault m_place m_numbered m_depth m_value m_isNot m_least0 m_most0 m_slot m_work m_got m_rowMany m_charAt m_charWide m_trail m_isMatch m_matchGroups m_allFrom m_allBefore m_founds m_pieces m_writtenMany m_templateWide m_tooMuch)) := ⟨_, rfl⟩
              have h84 := h84.keep h80 eG107 (by decide)
              have hlen := (z_len eG107).trans hlen
              have hsl := (z_sl h80 eG107 rfl).trans hsl
              have hfr := hfr.wr h80 eG107 (by decide)
              have h80 := h80.kept eG107
              change ab_W _ _ _ (List.set G63 80 (ab_ob 12 (mof m_thrown m_taped m_length m_out m_wide m_gathered m_sets m_ranges m_nodes (a266 + 1) m_flags m_fault m_place m_numbered m_depth m_value m_isNot m_least0 m_most0 m_slot m_work m_got m_rowMany m_charAt m_charWide m_trail m_isMatch m_matchGroups m_allFrom m_allBefore m_founds m_pieces m_writtenMany m_templateWide m_tooMuch))) 114 [some (vR 80), some (vz wh), some (vz 1114112), some (vz n265), none] [] _
              rw [← eG107]
              refine ab_goto (tgt := 204) d_MO_hexadecimal_114 (by decide) ?_
              refine ab_iload_n d_MO_hexadecimal_204 rfl ?_
              refine zz_ldc 1114111 d_MO_hexadecimal_205 cn_MO_236 (by decide) ?_
              refine zz_icmp_gt (tgt := 222) d_MO_hexadecimal_207 (by decide) (by decide) (by decide) (fun c108 => ?_) (fun c108 => absurd c108 (by decide))
              refine ab_aload_n d_MO_hexadecimal_222 rfl ?_
              refine zz_iconst d_MO_hexadecimal_223 ?_
              refine ab_iload_n d_MO_hexadecimal_224 rfl ?_
              refine ab_callV (d' := d - 1) (as := [vz 5, vz wh]) (st := []) (r := _) (z_MO_wrong (o := o) (m_thrown := m_thrown) (m_taped := m_taped) (m_length := m_length) (m_out := m_out) (m_wide := m_wide) (m_gathered := m_gathered) (m_sets := m_sets) (m_ranges := m_ranges) (m_nodes := m_nodes) (m_at := (a266 + 1)) (m_flags := m_flags) (m_fault := m_fault) (m_place := m_place) (m_numbered := m_numbered) (m_depth := m_depth) (m_value := m_value) (m_isNot := m_isNot) (m_least0 := m_least0) (m_most0 := m_most0) (m_slot := m_slot) (m_work := m_work) (m_got := m_got) (m_rowMany := m_rowMany) (m_charAt := m_charAt) (m_charWide := m_charWide) (m_trail := m_trail) (m_isMatch := m_isMatch) (m_matchGroups := m_matchGroups) (m_allFrom := m_allFrom) (m_allBefore := m_allBefore) (m_founds := m_founds) (m_pieces := m_pieces) (m_writtenMany := m_writtenMany) (m_templateWide := m_templateWide) (m_tooMuch := m_tooMuch) (x := 5) (y := wh) h80 (by omega) (by omega)) (fun oc G2 h => by rcases h with ⟨_, _, h, _⟩ <;> exact ⟨_, h⟩) (by omega) m_MO_wrong ml_MO_304 im_MO_wrong se_MO_wrong c_MO h80.2.2 (Nat.le_of_ble_eq_true rfl) d_MO_hexadecimal_225 rfl ?_
              intro v G109 hq
              rcases hq with ⟨f2110, p2111, hv, hfk, hlk, hsk, hN80, hq112⟩
              cases hv
              have h84 := hfk.get h84 (by decide)
              have hfr := hfr.tr hfk (by decide)
              have hlen := hlk.trans hlen
              have hsl := hsk.trans hsl
              have h80 := hN80
              change ab_W _ _ _ G109 228 [some (vR 80), some (vz wh), some (vz 1114112), some (vz n265), none] [] _
              refine zz_iconst d_MO_hexadecimal_228 ?_
              refine zz_iret rfl d_MO_hexadecimal_229 ?_
              rw [hQ]; exact (Or.inl ⟨_, _, _, rfl, hfr, hlen, hsl, h80, (by omega)⟩)
  · cases hv
    rw [hGe]
    change ab_W _ _ _ G 9 [some (vR 80), some (vz wh), some (vz 0), some (vz 0), none] [vz (-1)] _
    refine zz_bipush d_MO_hexadecimal_9 (by decide) ?_
    refine zz_icmp_ne (tgt := 117) d_MO_hexadecimal_11 (by decide) (by decide) (by decide) (fun c113 => ?_) (fun c113 => absurd c113 (by decide))
    refine ab_aload_n d_MO_hexadecimal_117 rfl ?_
    refine zz_iconst d_MO_hexadecimal_118 ?_
    refine ab_callV (d' := d - 1) (as := [vz 0]) (st := []) (r := _) (z_MO_here (o := o) (m_thrown := m_thrown) (m_taped := m_taped) (m_length := m_length) (m_out := m_out) (m_wide := m_wide) (m_gathered := m_gathered) (m_sets := m_sets) (m_ranges := m_ranges) (m_nodes := m_nodes) (m_at := m_at) (m_flags := m_flags) (m_fault := m_fault) (m_place := m_place) (m_numbered := m_numbered) (m_depth := m_depth) (m_value := m_value) (m_isNot := m_isNot) (m_least0 := m_least0) (m_most0 := m_most0) (m_slot := m_slot) (m_work := m_work) (m_got := m_got) (m_rowMany := m_rowMany) (m_charAt := m_charAt) (m_charWide := m_charWide) (m_trail := m_trail) (m_isMatch := m_isMatch) (m_matchGroups := m_matchGroups) (m_allFrom := m_allFrom) (m_allBefore := m_allBefore) (m_founds := m_founds) (m_pieces := m_pieces) (m_writtenMany := m_writtenMany) (m_templateWide := m_templateWide) (m_tooMuch := m_tooMuch) (A_tape := A_tape) (k := 0) h80 h84 (by omega) (by omega) jtp (by omega)) (fun oc G2 h => by rcases h with ⟨h, _⟩ | ⟨h, _⟩ <;> exact ⟨_, h⟩) (by omega) m_MO_here ml_MO_297 im_MO_here se_MO_here c_MO h80.2.2 (Nat.le_of_ble_eq_true rfl) d_MO_hexadecimal_119 rfl ?_
    intro v G114 hq
    rcases hq with ⟨hv, hGe, hq115⟩ | ⟨hv, hGe, hq116⟩
    · cases hv
      rw [hGe]
      change ab_W _ _ _ G 122 [some (vR 80), some (vz wh), some (vz 0), some (vz 0), none] [vz (A_tape (m_at + 0))] _
      exfalso; omega
    · cases hv
      rw [hGe]
      change ab_W _ _ _ G 122 [some (vR 80), some (vz wh), some (vz 0), some (vz 0), none] [vz (-1)] _
      refine zz_if_lt (tgt := 159) d_MO_hexadecimal_122 (by decide) (by decide) (fun c117 => ?_) (fun c117 => absurd c117 (by decide))
      refine zz_iconst d_MO_hexadecimal_159 ?_
      refine ab_istore d_MO_hexadecimal_160 (Nat.le_of_ble_eq_true rfl) (Nat.le_of_ble_eq_true rfl) rfl ?_
      change ab_W _ _ _ G 162 [some (vR 80), some (vz wh), some (vz 0), some (vz 0), some (vz 0)] [] _
      refine ab_iload d_MO_hexadecimal_162 rfl ?_
      refine zz_if_eq (tgt := 190) d_MO_hexadecimal_164 (by decide) (by decide) (fun c118 => ?_) (fun c118 => absurd c118 (by decide))
      refine zz_ldcw 1114112 d_MO_hexadecimal_190 cn_MO_303 (by decide) ?_
      refine ab_istore_n d_MO_hexadecimal_193 (Nat.le_of_ble_eq_true rfl) (Nat.le_of_ble_eq_true rfl) rfl ?_
      change ab_W _ _ _ G 194 [some (vR 80), some (vz wh), some (vz 1114112), some (vz 0), some (vz 0)] [] _
      refine ab_aload_n d_MO_hexadecimal_194 rfl ?_
      refine ab_dup d_MO_hexadecimal_195 rfl ?_
      refine ab_getf (fs := mof m_thrown m_taped m_length m_out m_wide m_gathered m_sets m_ranges m_nodes m_at m_flags m_fault m_place m_numbered m_depth m_value m_isNot m_least0 m_most0 m_slot m_work m_got m_rowMany m_charAt m_charWide m_trail m_isMatch m_matchGroups m_allFrom m_allBefore m_founds m_pieces m_writtenMany m_templateWide m_tooMuch) f_MO_279 d_MO_hexadecimal_196 h80.2.2 rfl ?_
      refine zz_iconst d_MO_hexadecimal_199 ?_
      refine zz_iadd d_MO_hexadecimal_200 ?_
      refine ab_putf (fs := mof m_thrown m_taped m_length m_out m_wide m_gathered m_sets m_ranges m_nodes m_at m_flags m_fault m_place m_numbered m_depth m_value m_isNot m_least0 m_most0 m_slot m_work m_got m_rowMany m_charAt m_charWide m_trail m_isMatch m_matchGroups m_allFrom m_allBefore m_founds m_pieces m_writtenMany m_templateWide m_tooMuch) f_MO_279 (Or.inl rfl) d_MO_hexadecimal_201 h80.2.2 (Nat.le_of_ble_eq_true rfl) (fun _ => ⟨rfl, rfl⟩) (h80.2.1 (by decide)) ?_
      obtain ⟨G119, eG119⟩ : ∃ z : ab_G, z = List.set G 80 (ab_ob 12 (mof m_thrown m_taped m_length m_out m_wide m_gathered m_sets m_ranges m_nodes (m_at + 2) m_flags m_fault m_place m_numbered m_depth m_value m_isNot m_least0 m_most0 m_slot m_work m_got m_rowMany m_charAt m_charWide m_trail m_isMatch m_matchGroups m_allFrom m_allBefore m_founds m_pieces m_writtenMany m_templateWide m_tooMuch)) := ⟨_, rfl⟩
      have h84 := h84.keep h80 eG119 (by decide)
      have hlen := (z_len eG119).trans hlen
      have hsl := (z_sl h80 eG119 rfl).trans hsl
      have hfr := hfr.wr h80 eG119 (by decide)
      have h80 := h80.kept eG119
      change ab_W _ _ _ (List.set G 80 (ab_ob 12 (mof m_thrown m_taped m_length m_out m_wide m_gathered m_sets m_ranges m_nodes (m_at + 2) m_flags m_fault m_place m_numbered m_depth m_value m_isNot m_least0 m_most0 m_slot m_work m_got m_rowMany m_charAt m_charWide m_trail m_isMatch m_matchGroups m_allFrom m_allBefore m_founds m_pieces m_writtenMany m_templateWide m_tooMuch))) 204 [some (vR 80), some (vz wh), some (vz 1114112), some (vz 0), some (vz 0)] [] _
      rw [← eG119]
      refine ab_iload_n d_MO_hexadecimal_204 rfl ?_
      refine zz_ldc 1114111 d_MO_hexadecimal_205 cn_MO_236 (by decide) ?_
      refine zz_icmp_gt (tgt := 222) d_MO_hexadecimal_207 (by decide) (by decide) (by decide) (fun c120 => ?_) (fun c120 => absurd c120 (by decide))
      refine ab_aload_n d_MO_hexadecimal_222 rfl ?_
      refine zz_iconst d_MO_hexadecimal_223 ?_
      refine ab_iload_n d_MO_hexadecimal_224 rfl ?_
      refine ab_callV (d' := d - 1) (as := [vz 5, vz wh]) (st := []) (r := _) (z_MO_wrong (o := o) (m_thrown := m_thrown) (m_taped := m_taped) (m_length := m_length) (m_out := m_out) (m_wide := m_wide) (m_gathered := m_gathered) (m_sets := m_sets) (m_ranges := m_ranges) (m_nodes := m_nodes) (m_at := (m_at + 2)) (m_flags := m_flags) (m_fault := m_fault) (m_place := m_place) (m_numbered := m_numbered) (m_depth := m_depth) (m_value := m_value) (m_isNot := m_isNot) (m_least0 := m_least0) (m_most0 := m_most0) (m_slot := m_slot) (m_work := m_work) (m_got := m_got) (m_rowMany := m_rowMany) (m_charAt := m_charAt) (m_charWide := m_charWide) (m_trail := m_trail) (m_isMatch := m_isMatch) (m_matchGroups := m_matchGroups) (m_allFrom := m_allFrom) (m_allBefore := m_allBefore) (m_founds := m_founds) (m_pieces := m_pieces) (m_writtenMany := m_writtenMany) (m_templateWide := m_templateWide) (m_tooMuch := m_tooMuch) (x := 5) (y := wh) h80 (by omega) (by omega)) (fun oc G2 h => by rcases h with ⟨_, _, h, _⟩ <;> exact ⟨_, h⟩) (by omega) m_MO_wrong ml_MO_304 im_MO_wrong se_MO_wrong c_MO h80.2.2 (Nat.le_of_ble_eq_true rfl) d_MO_hexadecimal_225 rfl ?_
      intro v G121 hq
      rcases hq with ⟨f2122, p2123, hv, hfk, hlk, hsk, hN80, hq124⟩
      cases hv
      have h84 := hfk.get h84 (by decide)
      have hfr := hfr.tr hfk (by decide)
      have hlen := hlk.trans hlen
      have hsl := hsk.trans hsl
      have h80 := hN80
      change ab_W _ _ _ G121 228 [some (vR 80), some (vz wh), some (vz 1114112), some (vz 0), some (vz 0)] [] _
      refine zz_iconst d_MO_hexadecimal_228 ?_
      refine zz_iret rfl d_MO_hexadecimal_229 ?_
      rw [hQ]; exact (Or.inl ⟨_, _, _, rfl, hfr, hlen, hsl, h80, (by omega)⟩)
set_option maxRecDepth 100000 in
set_option maxHeartbeats 4000000 in
theorem z_MO_escape {X : ab_X} {d : Nat} {o : Nat → Nat} {G : ab_G} {m_thrown : Int} {m_taped : Int} {m_length : Int} {m_out : Int} {m_wide : Int} {m_gathered : Int} {m_sets : Int} {m_ranges : Int} {m_nodes : Int} {m_at : Int} {m_flags : Int} {m_fault : Int} {m_place : Int} {m_numbered : Int} {m_depth : Int} {m_value : Int} {m_isNot : Int} {m_least0 : Int} {m_most0 : Int} {m_slot : Int} {m_work : Int} {m_got : Int} {m_rowMany : Int} {m_charAt : Int} {m_charWide : Int} {m_trail : Int} {m_isMatch : Int} {m_matchGroups : Int} {m_allFrom : Int} {m_allBefore : Int} {m_founds : Int} {m_pieces : Int} {m_writtenMany : Int} {m_templateWide : Int} {m_tooMuch : Int} {A_tape : Int → Int} {ic : Int} (h80 : cc o G 80 280 (ab_ob 12 (mof m_thrown m_taped m_length m_out m_wide m_gathered m_sets m_ranges m_nodes m_at m_flags m_fault m_place m_numbered m_depth m_value m_isNot m_least0 m_most0 m_slot m_work m_got m_rowMany m_charAt m_charWide m_trail m_isMatch m_matchGroups m_allFrom m_allBefore m_founds m_pieces m_writtenMany m_templateWide m_tooMuch))) (h84 : cc o G 84 284 (za 2000 A_tape)) (n18 : ab_n0 = 18) (cta : 0 ≤ m_taped ∧ m_taped ≤ 2000) (jtp : rgs A_tape 2000 0 255) (cat : 0 ≤ m_at ∧ m_at < m_taped) (cic : 0 ≤ ic ∧ ic ≤ 1) (cf : m_fault = 0) (hd : 3 ≤ d) : ab_F X d y_MO_escape (.code y_MO_escape b_MO_escape 5 (some (.int))) [vR 80, vz ic] G (fun oc G2 => (∃ a2 : Int, ∃ f2 : Int, ∃ p2 : Int, oc = .returned (some (vz (-1))) ∧ fx o o [280] G G2 ∧ G2.length = G.length ∧ ab_slots G2 = ab_slots G ∧ cc o G2 80 280 (ab_ob 12 (mof m_thrown m_taped m_length m_out m_wide m_gathered m_sets m_ranges m_nodes a2 m_flags f2 p2 m_numbered m_depth m_value m_isNot m_least0 m_most0 m_slot m_work m_got m_rowMany m_charAt m_charWide m_trail m_isMatch m_matchGroups m_allFrom m_allBefore m_founds m_pieces m_writtenMany m_templateWide m_tooMuch)) ∧ (1 ≤ f2 ∧ f2 ≤ 14 ∧ 0 ≤ a2 ∧ a2 ≤ 4000)) ∨ (∃ a2 : Int, ∃ v2 : Int, oc = .returned (some (vz 0)) ∧ fx o o [280] G G2 ∧ G2.length = G.length ∧ ab_slots G2 = ab_slots G ∧ cc o G2 80 280 (ab_ob 12 (mof m_thrown m_taped m_length m_out m_wide m_gathered m_sets m_ranges m_nodes a2 m_flags m_fault m_place m_numbered m_depth v2 m_isNot m_least0 m_most0 m_slot m_work m_got m_rowMany m_charAt m_charWide m_trail m_isMatch m_matchGroups m_allFrom m_allBefore m_founds m_pieces m_writtenMany m_templateWide m_tooMuch)) ∧ (0 ≤ v2 ∧ v2 ≤ 1114111 ∧ m_at + 2 ≤ a2 ∧ a2 ≤ m_taped)) ∨ (∃ a2 : Int, ∃ v2 : Int, ∃ nt2 : Int, oc = .returned (some (vz 1)) ∧ fx o o [280] G G2 ∧ G2.length = G.length ∧ ab_slots G2 = ab_slots G ∧ cc o G2 80 280 (ab_ob 12 (mof m_thrown m_taped m_length m_out m_wide m_gathered m_sets m_ranges m_nodes a2 m_flags m_fault m_place m_numbered m_depth v2 nt2 m_least0 m_most0 m_slot m_work m_got m_rowMany m_charAt m_charWide m_trail m_isMatch m_matchGroups m_allFrom m_allBefore m_founds m_pieces m_writtenMany m_templateWide m_tooMuch)) ∧ (0 ≤ v2 ∧ v2 ≤ 6 ∧ m_at + 2 ≤ a2 ∧ a2 ≤ m_taped ∧ 0 ≤ nt2 ∧ nt2 ≤ 1 ∧ (v2 ≤ 2 ∨ m_at + 3 ≤ a2))) ∨ (∃ v2 : Int, oc = .returned (some (vz 2)) ∧ fx o o [280] G G2 ∧ G2.length = G.length ∧ ab_slots G2 = ab_slots G ∧ cc o G2 80 280 (ab_ob 12 (mof m_thrown m_taped m_length m_out m_wide m_gathered m_sets m_ranges m_nodes (m_at + 2) m_flags m_fault m_place m_numbered m_depth v2 m_isNot m_least0 m_most0 m_slot m_work m_got m_rowMany m_charAt m_charWide m_trail m_isMatch m_matchGroups m_allFrom m_allBefore m_founds m_pieces m_writtenMany m_templateWide m_tooMuch)) ∧ (0 ≤ v2 ∧ v2 ≤ 3 ∧ m_at + 2 ≤ m_taped ∧ ic = 0)) ∨ (oc = .returned (some (vz 3)) ∧ fx o o [280] G G2 ∧ G2.length = G.length ∧ ab_slots G2 = ab_slots G ∧ cc o G2 80 280 (ab_ob 12 (mof m_thrown m_taped m_length m_out m_wide m_gathered m_sets m_ranges m_nodes (m_at + 2) m_flags m_fault m_place m_numbered m_depth m_value m_isNot m_least0 m_most0 m_slot m_work m_got m_rowMany m_charAt m_charWide m_trail m_isMatch m_matchGroups m_allFrom m_allBefore m_founds m_pieces m_writtenMany m_templateWide m_tooMuch)) ∧ (m_at + 2 ≤ m_taped ∧ ic = 0))) := by
  refine ab_F_of (by decide +kernel) (Nat.le_of_ble_eq_true rfl) ?_
  obtain ⟨Q, hQ⟩ : ∃ z : Outcome → ab_G → Prop, z = (fun oc G2 => (∃ a2 : Int, ∃ f2 : Int, ∃ p2 : Int, oc = .returned (some (vz (-1))) ∧ fx o o [280] G G2 ∧ G2.length = G.length ∧ ab_slots G2 = ab_slots G ∧ cc o G2 80 280 (ab_ob 12 (mof m_thrown m_taped m_length m_out m_wide m_gathered m_sets m_ranges m_nodes a2 m_flags f2 p2 m_numbered m_depth m_value m_isNot m_least0 m_most0 m_slot m_work m_got m_rowMany m_charAt m_charWide m_trail m_isMatch m_matchGroups m_allFrom m_allBefore m_founds m_pieces m_writtenMany m_templateWide m_tooMuch)) ∧ (1 ≤ f2 ∧ f2 ≤ 14 ∧ 0 ≤ a2 ∧ a2 ≤ 4000)) ∨ (∃ a2 : Int, ∃ v2 : Int, oc = .returned (some (vz 0)) ∧ fx o o [280] G G2 ∧ G2.length = G.length ∧ ab_slots G2 = ab_slots G ∧ cc o G2 80 280 (ab_ob 12 (mof m_thrown m_taped m_length m_out m_wide m_gathered m_sets m_ranges m_nodes a2 m_flags m_fault m_place m_numbered m_depth v2 m_isNot m_least0 m_most0 m_slot m_work m_got m_rowMany m_charAt m_charWide m_trail m_isMatch m_matchGroups m_allFrom m_allBefore m_founds m_pieces m_writtenMany m_templateWide m_tooMuch)) ∧ (0 ≤ v2 ∧ v2 ≤ 1114111 ∧ m_at + 2 ≤ a2 ∧ a2 ≤ m_taped)) ∨ (∃ a2 : Int, ∃ v2 : Int, ∃ nt2 : Int, oc = .returned (some (vz 1)) ∧ fx o o [280] G G2 ∧ G2.length = G.length ∧ ab_slots G2 = ab_slots G ∧ cc o G2 80 280 (ab_ob 12 (mof m_thrown m_taped m_length m_out m_wide m_gathered m_sets m_ranges m_nodes a2 m_flags m_fault m_place m_numbered m_depth v2 nt2 m_least0 m_most0 m_slot m_work m_got m_rowMany m_charAt m_charWide m_trail m_isMatch m_matchGroups m_allFrom m_allBefore m_founds m_pieces m_writtenMany m_templateWide m_tooMuch)) ∧ (0 ≤ v2 ∧ v2 ≤ 6 ∧ m_at + 2 ≤ a2 ∧ a2 ≤ m_taped ∧ 0 ≤ nt2 ∧ nt2 ≤ 1 ∧ (v2 ≤ 2 ∨ m_at + 3 ≤ a2))) ∨ (∃ v2 : Int, oc = .returned (some (vz 2)) ∧ fx o o [280] G G2 ∧ G2.length = G.length ∧ ab_slots G2 = ab_slots G ∧ cc o G2 80 280 (ab_ob 12 (mof m_thrown m_taped m_length m_out m_wide m_gathered m_sets m_ranges m_nodes (m_at + 2) m_flags m_fault m_place m_numbered m_depth v2 m_isNot m_least0 m_most0 m_slot m_work m_got m_rowMany m_charAt m_charWide m_trail m_isMatch m_matchGroups m_allFrom m_allBefore m_founds m_pieces m_writtenMany m_templateWide m_tooMuch)) ∧ (0 ≤ v2 ∧ v2 ≤ 3 ∧ m_at + 2 ≤ m_taped ∧ ic = 0)) ∨ (oc = .returned (some (vz 3)) ∧ fx o o [280] G G2 ∧ G2.length = G.length ∧ ab_slots G2 = ab_slots G ∧ cc o G2 80 280 (ab_ob 12 (mof m_thrown m_taped m_length m_out m_wide m_gathered m_sets m_ranges m_nodes (m_at + 2) m_flags m_fault m_place m_numbered m_depth m_value m_isNot m_least0 m_most0 m_slot m_work m_got m_rowMany m_charAt m_charWide m_trail m_isMatch m_matchGroups m_allFrom m_allBefore m_founds m_pieces m_writtenMany m_templateWide m_tooMuch)) ∧ (m_at + 2 ≤ m_taped ∧ ic = 0))) := ⟨_, rfl⟩
  rw [← hQ]
  change ab_W X (ab_pl y_MO_escape b_MO_escape 5 (some (.int))) d G 0 [some (vR 80), some (vz ic), none, none, none] [] Q
  have hfr : fx o o [280] G G := fx.rf
  have hlen : G.length = G.length := rfl
  have hsl : ab_slots G = ab_slots G := rfl
  refine ab_aload_n d_MO_escape_0 rfl ?_
  refine ab_getf (fs := mof m_thrown m_taped m_length m_out m_wide m_gathered m_sets m_ranges m_nodes m_at m_flags m_fault m_place m_numbered m_depth m_value m_isNot m_least0 m_most0 m_slot m_work m_got m_rowMany m_charAt m_charWide m_trail m_isMatch m_matchGroups m_allFrom m_allBefore m_founds m_pieces m_writtenMany m_templateWide m_tooMuch) f_MO_279 d_MO_escape_1 h80.2.2 rfl ?_
  refine ab_istore_n d_MO_escape_4 (Nat.le_of_ble_eq_true rfl) (Nat.le_of_ble_eq_true rfl) rfl ?_
  change ab_W _ _ _ G 5 [some (vR 80), some (vz ic), some (vz m_at), none, none] [] _
  refine ab_aload_n d_MO_escape_5 rfl ?_
  refine zz_iconst d_MO_escape_6 ?_
  refine ab_callV (d' := d - 1) (as := [vz 1]) (st := []) (r := _) (z_MO_here (o := o) (m_thrown := m_thrown) (m_taped := m_taped) (m_length := m_length) (m_out := m_out) (m_wide := m_wide) (m_gathered := m_gathered) (m_sets := m_sets) (m_ranges := m_ranges) (m_nodes := m_nodes) (m_at := m_at) (m_flags := m_flags) (m_fault := m_fault) (m_place := m_place) (m_numbered := m_numbered) (m_depth := m_depth) (m_value := m_value) (m_isNot := m_isNot) (m_least0 := m_least0) (m_most0 := m_most0) (m_slot := m_slot) (m_work := m_work) (m_got := m_got) (m_rowMany := m_rowMany) (m_charAt := m_charAt) (m_charWide := m_charWide) (m_trail := m_trail) (m_isMatch := m_isMatch) (m_matchGroups := m_matchGroups) (m_allFrom := m_allFrom) (m_allBefore := m_allBefore) (m_founds := m_founds) (m_pieces := m_pieces) (m_writtenMany := m_writtenMany) (m_templateWide := m_templateWide) (m_tooMuch := m_tooMuch) (A_tape := A_tape) (k := 1) h80 h84 (by omega) (by omega) jtp (by omega)) (fun oc G2 h => by rcases h with ⟨h, _⟩ | ⟨h, _⟩ <;> exact ⟨_, h⟩) (by omega) m_MO_here ml_MO_297 im_MO_here se_MO_here c_MO h80.2.2 (Nat.le_of_ble_eq_true rfl) d_MO_escape_7 rfl ?_
  intro v G1 hq
  rcases hq with ⟨hv, hGe, hq2⟩ | ⟨hv, hGe, hq3⟩
  · cases hv
    rw [hGe]
    change ab_W _ _ _ G 10 [some (vR 80), some (vz ic), some (vz m_at), none, none] [vz (A_tape (m_at + 1))] _
    refine ab_istore_n d_MO_escape_10 (Nat.le_of_ble_eq_true rfl) (Nat.le_of_ble_eq_true rfl) rfl ?_
    change ab_W _ _ _ G 11 [some (vR 80), some (vz ic), some (vz m_at), some (vz (A_tape (m_at + 1))), none] [] _
    refine ab_aload_n d_MO_escape_11 rfl ?_
    refine ab_dup d_MO_escape_12 rfl ?_
    refine ab_getf (fs := mof m_thrown m_taped m_length m_out m_wide m_gathered m_sets m_ranges m_nodes m_at m_flags m_fault m_place m_numbered m_depth m_value m_isNot m_least0 m_most0 m_slot m_work m_got m_rowMany m_charAt m_charWide m_trail m_isMatch m_matchGroups m_allFrom m_allBefore m_founds m_pieces m_writtenMany m_templateWide m_tooMuch) f_MO_279 d_MO_escape_13 h80.2.2 rfl ?_
    refine zz_iconst d_MO_escape_16 ?_
    refine zz_iadd d_MO_escape_17 ?_
    refine ab_putf (fs := mof m_thrown m_taped m_length m_out m_wide m_gathered m_sets m_ranges m_nodes m_at m_flags m_fault m_place m_numbered m_depth m_value m_isNot m_least0 m_most0 m_slot m_work m_got m_rowMany m_charAt m_charWide m_trail m_isMatch m_matchGroups m_allFrom m_allBefore m_founds m_pieces m_writtenMany m_templateWide m_tooMuch) f_MO_279 (Or.inl rfl) d_MO_escape_18 h80.2.2 (Nat.le_of_ble_eq_true rfl) (fun _ => ⟨rfl, rfl⟩) (h80.2.1 (by decide)) ?_
    obtain ⟨G4, eG4⟩ : ∃ z : ab_G, z = List.set G 80 (ab_ob 12 (mof m_thrown m_taped m_length m_out m_wide m_gathered m_sets m_ranges m_nodes (m_at + 2) m_flags m_fault m_place m_numbered m_depth m_value m_isNot m_least0 m_most0 m_slot m_work m_got m_rowMany m_charAt m_charWide m_trail m_isMatch m_matchGroups m_allFrom m_allBefore m_founds m_pieces m_writtenMany m_templateWide m_tooMuch)) := ⟨_, rfl⟩
    have h84 := h84.keep h80 eG4 (by decide)
    have hlen := (z_len eG4).trans hlen
    have hsl := (z_sl h80 eG4 rfl).trans hsl
    have hfr := hfr.wr h80 eG4 (by decide)
    have h80 := h80.kept eG4
    change ab_W _ _ _ (List.set G 80 (ab_ob 12 (mof m_thrown m_taped m_length m_out m_wide m_gathered m_sets m_ranges m_nodes (m_at + 2) m_flags m_fault m_place m_numbered m_depth m_value m_isNot m_least0 m_most0 m_slot m_work m_got m_rowMany m_charAt m_charWide m_trail m_isMatch m_matchGroups m_allFrom m_allBefore m_founds m_pieces m_writtenMany m_templateWide m_tooMuch))) 21 [some (vR 80), some (vz ic), some (vz m_at), some (vz (A_tape (m_at + 1))), none] [] _
    rw [← eG4]
    refine ab_iload_n d_MO_escape_21 rfl ?_
    refine zz_bipush d_MO_escape_22 (by decide) ?_
    refine zz_icmp_ne (tgt := 33) d_MO_escape_24 (by decide) (by omega) (by decide) (fun c5 => ?_) (fun c5 => ?_)
    · replace c5 : nzq (A_tape (m_at + 1)) 120 := c5
      refine ab_iload_n d_MO_escape_33 rfl ?_
      refine ab_callS (d' := d - 1) (as := [vz (A_tape (m_at + 1))]) (st := []) (z_MO_control (o := o) (c := (A_tape (m_at + 1))) (by omega)) (fun oc G2 h => by rcases h with ⟨h, _⟩ <;> exact ⟨_, h⟩) (by omega) m_MO_control ml_MO_313 st_MO_control (Nat.le_of_ble_eq_true rfl) d_MO_escape_34 rfl ?_
      intro v G6 hq
      rcases hq with ⟨hv, hGe, hq7⟩
      cases hv
      rw [hGe]
      change ab_W _ _ _ G4 37 [some (vR 80), some (vz ic), some (vz m_at), some (vz (A_tape (m_at + 1))), none] [vz (ctf (A_tape (m_at + 1)))] _
      refine zz_if_lt (tgt := 50) d_MO_escape_37 (by decide) (by omega) (fun c8 => ?_) (fun c8 => ?_)
      · refine ab_iload_n d_MO_escape_50 rfl ?_
        refine zz_bipush d_MO_escape_51 (by decide) ?_
        refine zz_icmp_eq (tgt := 86) d_MO_escape_53 (by decide) (by omega) (by decide) (fun c9 => ?_) (fun c9 => ?_)
        · refine ab_aload_n d_MO_escape_86 rfl ?_
          refine ab_iload_n d_MO_escape_87 rfl ?_
          refine ab_callS (d' := d - 1) (as := [vz (A_tape (m_at + 1))]) (st := [vR 80]) (z_MO_whichSet (o := o) (c := (A_tape (m_at + 1))) (by omega)) (fun oc G2 h => by rcases h with ⟨_, h, _⟩ <;> exact ⟨_, h⟩) (by omega) m_MO_whichSet ml_MO_316 st_MO_whichSet (Nat.le_of_ble_eq_true rfl) d_MO_escape_88 rfl ?_
          intro v G10 hq
          rcases hq with ⟨v11, hv, hGe, hq12⟩
          cases hv
          rw [hGe]
          change ab_W _ _ _ G4 91 [some (vR 80), some (vz ic), some (vz m_at), some (vz (A_tape (m_at + 1))), none] [vz v11, vR 80] _
          refine ab_putf (fs := mof m_thrown m_taped m_length m_out m_wide m_gathered m_sets m_ranges m_nodes (m_at + 2) m_flags m_fault m_place m_numbered m_depth m_value m_isNot m_least0 m_most0 m_slot m_work m_got m_rowMany m_charAt m_charWide m_trail m_isMatch m_matchGroups m_allFrom m_allBefore m_founds m_pieces m_writtenMany m_templateWide m_tooMuch) f_MO_307 (Or.inl rfl) d_MO_escape_91 h80.2.2 (Nat.le_of_ble_eq_true rfl) (fun _ => ⟨rfl, rfl⟩) (h80.2.1 (by decide)) ?_
          obtain ⟨G13, eG13⟩ : ∃ z : ab_G, z = List.set G4 80 (ab_ob 12 (mof m_thrown m_taped m_length m_out m_wide m_gathered m_sets m_ranges m_nodes (m_at + 2) m_flags m_fault m_place m_numbered m_depth v11 m_isNot m_least0 m_most0 m_slot m_work m_got m_rowMany m_charAt m_charWide m_trail m_isMatch m_matchGroups m_allFrom m_allBefore m_founds m_pieces m_writtenMany m_templateWide m_tooMuch)) := ⟨_, rfl⟩
          have h84 := h84.keep h80 eG13 (by decide)
          have hlen := (z_len eG13).trans hlen
          have hsl := (z_sl h80 eG13 rfl).trans hsl
          have hfr := hfr.wr h80 eG13 (by decide)
          have h80 := h80.kept eG13
          change ab_W _ _ _ (List.set G4 80 (ab_ob 12 (mof m_thrown m_taped m_length m_out m_wide m_gathered m_sets m_ranges m_nodes (m_at + 2) m_flags m_fault m_place m_numbered m_depth v11 m_isNot m_least0 m_most0 m_slot m_work m_got m_rowMany m_charAt m_charWide m_trail m_isMatch m_matchGroups m_allFrom m_allBefore m_founds m_pieces m_writtenMany m_templateWide m_tooMuch))) 94 [some (vR 80), some (vz ic), some (vz m_at), some (vz (A_tape (m_at + 1))), none] [] _
          rw [← eG13]
          refine ab_aload_n d_MO_escape_94 rfl ?_
          refine ab_iload_n d_MO_escape_95 rfl ?_
          refine zz_bipush d_MO_escape_96 (by decide) ?_
          refine zz_icmp_ge (tgt := 105) d_MO_escape_98 (by decide) (by omega) (by decide) (fun c14 => ?_) (fun c14 => absurd c14 (by omega))
          refine zz_iconst d_MO_escape_105 ?_
          refine ab_putf (fs := mof m_thrown m_taped m_length m_out m_wide m_gathered m_sets m_ranges m_nodes (m_at + 2) m_flags m_fault m_place m_numbered m_depth v11 m_isNot m_least0 m_most0 m_slot m_work m_got m_rowMany m_charAt m_charWide m_trail m_isMatch m_matchGroups m_allFrom m_allBefore m_founds m_pieces m_writtenMany m_templateWide m_tooMuch) f_MO_319 (Or.inl rfl) d_MO_escape_106 h80.2.2 (Nat.le_of_ble_eq_true rfl) (ab_fbz (by decide)) (h80.2.1 (by decide)) ?_
          obtain ⟨G15, eG15⟩ : ∃ z : ab_G, z = List.set G13 80 (ab_ob 12 (mof m_thrown m_taped m_length m_out m_wide m_gathered m_sets m_ranges m_nodes (m_at + 2) m_flags m_fault m_place m_numbered m_depth v11 0 m_least0 m_most0 m_slot m_work m_got m_rowMany m_charAt m_charWide m_trail m_isMatch m_matchGroups m_allFrom m_allBefore m_founds m_pieces m_writtenMany m_templateWide m_tooMuch)) := ⟨_, rfl⟩
          have h84 := h84.keep h80 eG15 (by decide)
          have hlen := (z_len eG15).trans hlen
          have hsl := (z_sl h80 eG15 rfl).trans hsl
          have hfr := hfr.wr h80 eG15 (by decide)
          have h80 := h80.kept eG15
          change ab_W _ _ _ (List.set G13 80 (ab_ob 12 (mof m_thrown m_taped m_length m_out m_wide m_gathered m_sets m_ranges m_nodes (m_at + 2) m_flags m_fault m_place m_numbered m_depth v11 0 m_least0 m_most0 m_slot m_work m_got m_rowMany m_charAt m_charWide m_trail m_isMatch m_matchGroups m_allFrom m_allBefore m_founds m_pieces m_writtenMany m_templateWide m_tooMuch))) 109 [some (vR 80), some (vz ic), some (vz m_at), some (vz (A_tape (m_at + 1))), none] [] _
          rw [← eG15]
          refine zz_iconst d_MO_escape_109 ?_
          refine zz_iret rfl d_MO_escape_110 ?_
          rw [hQ]; exact (Or.inr (Or.inr (Or.inl ⟨_, _, _, rfl, hfr, hlen, hsl, h80, (by omega)⟩)))
        · replace c9 : nzq (A_tape (m_at + 1)) 100 := c9
          refine ab_iload_n d_MO_escape_56 rfl ?_
          refine zz_bipush d_MO_escape_57 (by decide) ?_
          refine zz_icmp_eq (tgt := 86) d_MO_escape_59 (by decide) (by omega) (by decide) (fun c16 => ?_) (fun c16 => ?_)
          · refine ab_aload_n d_MO_escape_86 rfl ?_
            refine ab_iload_n d_MO_escape_87 rfl ?_
            refine ab_callS (d' := d - 1) (as := [vz (A_tape (m_at + 1))]) (st := [vR 80]) (z_MO_whichSet (o := o) (c := (A_tape (m_at + 1))) (by omega)) (fun oc G2 h => by rcases h with ⟨_, h, _⟩ <;> exact ⟨_, h⟩) (by omega) m_MO_whichSet ml_MO_316 st_MO_whichSet (Nat.le_of_ble_eq_true rfl) d_MO_escape_88 rfl ?_
            intro v G17 hq
            rcases hq with ⟨v18, hv, hGe, hq19⟩
            cases hv
            rw [hGe]
            change ab_W _ _ _ G4 91 [some (vR 80), some (vz ic), some (vz m_at), some (vz (A_tape (m_at + 1))), none] [vz v18, vR 80] _
            refine ab_putf (fs := mof m_thrown m_taped m_length m_out m_wide m_gathered m_sets m_ranges m_nodes (m_at + 2) m_flags m_fault m_place m_numbered m_depth m_value m_isNot m_least0 m_most0 m_slot m_work m_got m_rowMany m_charAt m_charWide m_trail m_isMatch m_matchGroups m_allFrom m_allBefore m_founds m_pieces m_writtenMany m_templateWide m_tooMuch) f_MO_307 (Or.inl rfl) d_MO_escape_91 h80.2.2 (Nat.le_of_ble_eq_true rfl) (fun _ => ⟨rfl, rfl⟩) (h80.2.1 (by decide)) ?_
            obtain ⟨G20, eG20⟩ : ∃ z : ab_G, z = List.set G4 80 (ab_ob 12 (mof m_thrown m_taped m_length m_out m_wide m_gathered m_sets m_ranges m_nodes (m_at + 2) m_flags m_fault m_place m_numbered m_depth v18 m_isNot m_least0 m_most0 m_slot m_work m_got m_rowMany m_charAt m_charWide m_trail m_isMatch m_matchGroups m_allFrom m_allBefore m_founds m_pieces m_writtenMany m_templateWide m_tooMuch)) := ⟨_, rfl⟩
            have h84 := h84.keep h80 eG20 (by decide)
            have hlen := (z_len eG20).trans hlen
            have hsl := (z_sl h80 eG20 rfl).trans hsl
            have hfr := hfr.wr h80 eG20 (by decide)
            have h80 := h80.kept eG20
            change ab_W _ _ _ (List.set G4 80 (ab_ob 12 (mof m_thrown m_taped m_length m_out m_wide m_gathered m_sets m_ranges m_nodes (m_at + 2) m_flags m_fault m_place m_numbered m_depth v18 m_isNot m_least0 m_most0 m_slot m_work m_got m_rowMany m_charAt m_charWide m_trail m_isMatch m_matchGroups m_allFrom m_allBefore m_founds m_pieces m_writtenMany m_templateWide m_tooMuch))) 94 [some (vR 80), some (vz ic), some (vz m_at), some (vz (A_tape (m_at + 1))), none] [] _
            rw [← eG20]
            refine ab_aload_n d_MO_escape_94 rfl ?_
            refine ab_iload_n d_MO_escape_95 rfl ?_
            refine zz_bipush d_MO_escape_96 (by decide) ?_
            refine zz_icmp_ge (tgt := 105) d_MO_escape_98 (by decide) (by omega) (by decide) (fun c21 => ?_) (fun c21 => absurd c21 (by omega))
            refine zz_iconst d_MO_escape_105 ?_
            refine ab_putf (fs := mof m_thrown m_taped m_length m_out m_wide m_gathered m_sets m_ranges m_nodes (m_at + 2) m_flags m_fault m_place m_numbered m_depth v18 m_isNot m_least0 m_most0 m_slot m_work m_got m_rowMany m_charAt m_charWide m_trail m_isMatch m_matchGroups m_allFrom m_allBefore m_founds m_pieces m_writtenMany m_templateWide m_tooMuch) f_MO_319 (Or.inl rfl) d_MO_escape_106 h80.2.2 (Nat.le_of_ble_eq_true rfl) (ab_fbz (by decide)) (h80.2.1 (by decide)) ?_
            obtain ⟨G22, eG22⟩ : ∃ z : ab_G, z = List.set G20 80 (ab_ob 12 (mof m_thrown m_taped m_length m_out m_wide m_gathered m_sets m_ranges m_nodes (m_at + 2) m_flags m_fault m_place m_numbered m_depth v18 0 m_least0 m_most0 m_slot m_work m_got m_rowMany m_charAt m_charWide m_trail m_isMatch m_matchGroups m_allFrom m_allBefore m_founds m_pieces m_writtenMany m_templateWide m_tooMuch)) := ⟨_, rfl⟩
            have h84 := h84.keep h80 eG22 (by decide)
            have hlen := (z_len eG22).trans hlen
            have hsl := (z_sl h80 eG22 rfl).trans hsl
            have hfr := hfr.wr h80 eG22 (by decide)
            have h80 := h80.kept eG22
            change ab_W _ _ _ (List.set G20 80 (ab_ob 12 (mof m_thrown m_taped m_length m_out m_wide m_gathered m_sets m_ranges m_nodes (m_at + 2) m_flags m_fault m_place m_numbered m_depth v18 0 m_least0 m_most0 m_slot m_work m_got m_rowMany m_charAt m_charWide m_trail m_isMatch m_matchGroups m_allFrom m_allBefore m_founds m_pieces m_writtenMany m_templateWide m_tooMuch))) 109 [some (vR 80), some (vz ic), some (vz m_at), some (vz (A_tape (m_at + 1))), none] [] _
            rw [← eG22]
            refine zz_iconst d_MO_escape_109 ?_
            refine zz_iret rfl d_MO_escape_110 ?_
            rw [hQ]; exact (Or.inr (Or.inr (Or.inl ⟨_, _, _, rfl, hfr, hlen, hsl, h80, (by omega)⟩)))
          · replace c16 : nzq (A_tape (m_at + 1)) 115 := c16
            refine ab_iload_n d_MO_escape_62 rfl ?_
            refine zz_bipush d_MO_escape_63 (by decide) ?_
            refine zz_icmp_eq (tgt := 86) d_MO_escape_65 (by decide) (by omega) (by decide) (fun c23 => ?_) (fun c23 => ?_)
            · refine ab_aload_n d_MO_escape_86 rfl ?_
              refine ab_iload_n d_MO_escape_87 rfl ?_
              refine ab_callS (d' := d - 1) (as := [vz (A_tape (m_at + 1))]) (st := [vR 80]) (z_MO_whichSet (o := o) (c := (A_tape (m_at + 1))) (by omega)) (fun oc G2 h => by rcases h with ⟨_, h, _⟩ <;> exact ⟨_, h⟩) (by omega) m_MO_whichSet ml_MO_316 st_MO_whichSet (Nat.le_of_ble_eq_true rfl) d_MO_escape_88 rfl ?_
              intro v G24 hq
              rcases hq with ⟨v25, hv, hGe, hq26⟩
              cases hv
              rw [hGe]
              change ab_W _ _ _ G4 91 [some (vR 80), some (vz ic), some (vz m_at), some (vz (A_tape (m_at + 1))), none] [vz v25, vR 80] _
              refine ab_putf (fs := mof m_thrown m_taped m_length m_out m_wide m_gathered m_sets m_ranges m_nodes (m_at + 2) m_flags m_fault m_place m_numbered m_depth m_value m_isNot m_least0 m_most0 m_slot m_work m_got m_rowMany m_charAt m_charWide m_trail m_isMatch m_matchGroups m_allFrom m_allBefore m_founds m_pieces m_writtenMany m_templateWide m_tooMuch) f_MO_307 (Or.inl rfl) d_MO_escape_91 h80.2.2 (Nat.le_of_ble_eq_true rfl) (fun _ => ⟨rfl, rfl⟩) (h80.2.1 (by decide)) ?_
              obtain ⟨G27, eG27⟩ : ∃ z : ab_G, z = List.set G4 80 (ab_ob 12 (mof m_thrown m_taped m_length m_out m_wide m_gathered m_sets m_ranges m_nodes (m_at + 2) m_flags m_fault m_place m_numbered m_depth v25 m_isNot m_least0 m_most0 m_slot m_work m_got m_rowMany m_charAt m_charWide m_trail m_isMatch m_matchGroups m_allFrom m_allBefore m_founds m_pieces m_writtenMany m_templateWide m_tooMuch)) := ⟨_, rfl⟩
              have h84 := h84.keep h80 eG27 (by decide)
              have hlen := (z_len eG27).trans hlen
              have hsl := (z_sl h80 eG27 rfl).trans hsl
              have hfr := hfr.wr h80 eG27 (by decide)
              have h80 := h80.kept eG27
              change ab_W _ _ _ (List.set G4 80 (ab_ob 12 (mof m_thrown m_taped m_length m_out m_wide m_gathered m_sets m_ranges m_nodes (m_at + 2) m_flags m_fault m_place m_numbered m_depth v25 m_isNot m_least0 m_most0 m_slot m_work m_got m_rowMany m_charAt m_charWide m_trail m_isMatch m_matchGroups m_allFrom m_allBefore m_founds m_pieces m_writtenMany m_templateWide m_tooMuch))) 94 [some (vR 80), some (vz ic), some (vz m_at), some (vz (A_tape (m_at + 1))), none] [] _
              rw [← eG27]
              refine ab_aload_n d_MO_escape_94 rfl ?_
              refine ab_iload_n d_MO_escape_95 rfl ?_
              refine zz_bipush d_MO_escape_96 (by decide) ?_
              refine zz_icmp_ge (tgt := 105) d_MO_escape_98 (by decide) (by omega) (by decide) (fun c28 => ?_) (fun c28 => absurd c28 (by omega))
              refine zz_iconst d_MO_escape_105 ?_
              refine ab_putf (fs := mof m_thrown m_taped m_length m_out m_wide m_gathered m_sets m_ranges m_nodes (m_at + 2) m_flags m_fault m_place m_numbered m_depth v25 m_isNot m_least0 m_most0 m_slot m_work m_got m_rowMany m_charAt m_charWide m_trail m_isMatch m_matchGroups m_allFrom m_allBefore m_founds m_pieces m_writtenMany m_templateWide m_tooMuch) f_MO_319 (Or.inl rfl) d_MO_escape_106 h80.2.2 (Nat.le_of_ble_eq_true rfl) (ab_fbz (by decide)) (h80.2.1 (by decide)) ?_
              obtain ⟨G29, eG29⟩ : ∃ z : ab_G, z = List.set G27 80 (ab_ob 12 (mof m_thrown m_taped m_length m_out m_wide m_gathered m_sets m_ranges m_nodes (m_at + 2) m_flags m_fault m_place m_numbered m_depth v25 0 m_least0 m_most0 m_slot m_work m_got m_rowMany m_charAt m_charWide m_trail m_isMatch m_matchGroups m_allFrom m_allBefore m_founds m_pieces m_writtenMany m_templateWide m_tooMuch)) := ⟨_, rfl⟩
              have h84 := h84.keep h80 eG29 (by decide)
              have hlen := (z_len eG29).trans hlen
              have hsl := (z_sl h80 eG29 rfl).trans hsl
              have hfr := hfr.wr h80 eG29 (by decide)
              have h80 := h80.kept eG29
              change ab_W _ _ _ (List.set G27 80 (ab_ob 12 (mof m_thrown m_taped m_length m_out m_wide m_gathered m_sets m_ranges m_nodes (m_at + 2) m_flags m_fault m_place m_numbered m_depth v25 0 m_least0 m_most0 m_slot m_work m_got m_rowMany m_charAt m_charWide m_trail m_isMatch m_matchGroups m_allFrom m_allBefore m_founds m_pieces m_writtenMany m_templateWide m_tooMuch))) 109 [some (vR 80), some (vz ic), some (vz m_at), some (vz (A_tape (m_at + 1))), none] [] _
              rw [← eG29]
              refine zz_iconst d_MO_escape_109 ?_
              refine zz_iret rfl d_MO_escape_110 ?_
              rw [hQ]; exact (Or.inr (Or.inr (Or.inl ⟨_, _, _, rfl, hfr, hlen, hsl, h80, (by omega)⟩)))
            · replace c23 : nzq (A_tape (m_at + 1)) 119 := c23
              refine ab_iload_n d_MO_escape_68 rfl ?_
              refine zz_bipush d_MO_escape_69 (by decide) ?_
              refine zz_icmp_eq (tgt := 86) d_MO_escape_71 (by decide) (by omega) (by decide) (fun c30 => ?_) (fun c30 => ?_)
              · refine ab_aload_n d_MO_escape_86 rfl ?_
                refine ab_iload_n d_MO_escape_87 rfl ?_
                refine ab_callS (d' := d - 1) (as := [vz (A_tape (m_at + 1))]) (st := [vR 80]) (z_MO_whichSet (o := o) (c := (A_tape (m_at + 1))) (by omega)) (fun oc G2 h => by rcases h with ⟨_, h, _⟩ <;> exact ⟨_, h⟩) (by omega) m_MO_whichSet ml_MO_316 st_MO_whichSet (Nat.le_of_ble_eq_true rfl) d_MO_escape_88 rfl ?_
                intro v G31 hq
                rcases hq with ⟨v32, hv, hGe, hq33⟩
                cases hv
                rw [hGe]
                change ab_W _ _ _ G4 91 [some (vR 80), some (vz ic), some (vz m_at), some (vz (A_tape (m_at + 1))), none] [vz v32, vR 80] _
                refine ab_putf (fs := mof m_thrown m_taped m_length m_out m_wide m_gathered m_sets m_ranges m_nodes (m_at + 2) m_flags m_fault m_place m_numbered m_depth m_value m_isNot m_least0 m_most0 m_slot m_work m_got m_rowMany m_charAt m_charWide m_trail m_isMatch m_matchGroups m_allFrom m_allBefore m_founds m_pieces m_writtenMany m_templateWide m_tooMuch) f_MO_307 (Or.inl rfl) d_MO_escape_91 h80.2.2 (Nat.le_of_ble_eq_true rfl) (fun _ => ⟨rfl, rfl⟩) (h80.2.1 (by decide)) ?_
                obtain ⟨G34, eG34⟩ : ∃ z : ab_G, z = List.set G4 80 (ab_ob 12 (mof m_thrown m_taped m_length m_out m_wide m_gathered m_sets m_ranges m_nodes (m_at + 2) m_flags m_fault m_place m_numbered m_depth v32 m_isNot m_least0 m_most0 m_slot m_work m_got m_rowMany m_charAt m_charWide m_trail m_isMatch m_matchGroups m_allFrom m_allBefore m_founds m_pieces m_writtenMany m_templateWide m_tooMuch)) := ⟨_, rfl⟩
                have h84 := h84.keep h80 eG34 (by decide)
                have hlen := (z_len eG34).trans hlen
                have hsl := (z_sl h80 eG34 rfl).trans hsl
                have hfr := hfr.wr h80 eG34 (by decide)
                have h80 := h80.kept eG34
                change ab_W _ _ _ (List.set G4 80 (ab_ob 12 (mof m_thrown m_taped m_length m_out m_wide m_gathered m_sets m_ranges m_nodes (m_at + 2) m_flags m_fault m_place m_numbered m_depth v32 m_isNot m_least0 m_most0 m_slot m_work m_got m_rowMany m_charAt m_charWide m_trail m_isMatch m_matchGroups m_allFrom m_allBefore m_founds m_pieces m_writtenMany m_templateWide m_tooMuch))) 94 [some (vR 80), some (vz ic), some (vz m_at), some (vz (A_tape (m_at + 1))), none] [] _
                rw [← eG34]
                refine ab_aload_n d_MO_escape_94 rfl ?_
                refine ab_iload_n d_MO_escape_95 rfl ?_
                refine zz_bipush d_MO_escape_96 (by decide) ?_
                refine zz_icmp_ge (tgt := 105) d_MO_escape_98 (by decide) (by omega) (by decide) (fun c35 => absurd c35 (by omega)) (fun c35 => ?_)
                refine zz_iconst d_MO_escape_101 ?_
                refine ab_goto (tgt := 106) d_MO_escape_102 (by decide) ?_
                refine ab_putf (fs := mof m_thrown m_taped m_length m_out m_wide m_gathered m_sets m_ranges m_nodes (m_at + 2) m_flags m_fault m_place m_numbered m_depth v32 m_isNot m_least0 m_most0 m_slot m_work m_got m_rowMany m_charAt m_charWide m_trail m_isMatch m_matchGroups m_allFrom m_allBefore m_founds m_pieces m_writtenMany m_templateWide m_tooMuch) f_MO_319 (Or.inl rfl) d_MO_escape_106 h80.2.2 (Nat.le_of_ble_eq_true rfl) (ab_fbz (by decide)) (h80.2.1 (by decide)) ?_
                obtain ⟨G36, eG36⟩ : ∃ z : ab_G, z = List.set G34 80 (ab_ob 12 (mof m_thrown m_taped m_length m_out m_wide m_gathered m_sets m_ranges m_nodes (m_at + 2) m_flags m_fault m_place m_numbered m_depth v32 1 m_least0 m_most0 m_slot m_work m_got m_rowMany m_charAt m_charWide m_trail m_isMatch m_matchGroups m_allFrom m_allBefore m_founds m_pieces m_writtenMany m_templateWide m_tooMuch)) := ⟨_, rfl⟩
                have h84 := h84.keep h80 eG36 (by decide)
                have hlen := (z_len eG36).trans hlen
                have hsl := (z_sl h80 eG36 rfl).trans hsl
                have hfr := hfr.wr h80 eG36 (by decide)
                have h80 := h80.kept eG36
                change ab_W _ _ _ (List.set G34 80 (ab_ob 12 (mof m_thrown m_taped m_length m_out m_wide m_gathered m_sets m_ranges m_nodes (m_at + 2) m_flags m_fault m_place m_numbered m_depth v32 1 m_least0 m_most0 m_slot m_work m_got m_rowMany m_charAt m_charWide m_trail m_isMatch m_matchGroups m_allFrom m_allBefore m_founds m_pieces m_writtenMany m_templateWide m_tooMuch))) 109 [some (vR 80), some (vz ic), some (vz m_at), some (vz (A_tape (m_at + 1))), none] [] _
                rw [← eG36]
                refine zz_iconst d_MO_escape_109 ?_
                refine zz_iret rfl d_MO_escape_110 ?_
                rw [hQ]; exact (Or.inr (Or.inr (Or.inl ⟨_, _, _, rfl, hfr, hlen, hsl, h80, (by omega)⟩)))
              · replace c30 : nzq (A_tape (m_at + 1)) 68 := c30
                refine ab_iload_n d_MO_escape_74 rfl ?_
                refine zz_bipush d_MO_escape_75 (by decide) ?_
                refine zz_icmp_eq (tgt := 86) d_MO_escape_77 (by decide) (by omega) (by decide) (fun c37 => ?_) (fun c37 => ?_)
                · refine ab_aload_n d_MO_escape_86 rfl ?_
                  refine ab_iload_n d_MO_escape_87 rfl ?_
                  refine ab_callS (d' := d - 1) (as := [vz (A_tape (m_at + 1))]) (st := [vR 80]) (z_MO_whichSet (o := o) (c := (A_tape (m_at + 1))) (by omega)) (fun oc G2 h => by rcases h with ⟨_, h, _⟩ <;> exact ⟨_, h⟩) (by omega) m_MO_whichSet ml_MO_316 st_MO_whichSet (Nat.le_of_ble_eq_true rfl) d_MO_escape_88 rfl ?_
                  intro v G38 hq
                  rcases hq with ⟨v39, hv, hGe, hq40⟩
                  cases hv
                  rw [hGe]
                  change ab_W _ _ _ G4 91 [some (vR 80), some (vz ic), some (vz m_at), some (vz (A_tape (m_at + 1))), none] [vz v39, vR 80] _
                  refine ab_putf (fs := mof m_thrown m_taped m_length m_out m_wide m_gathered m_sets m_ranges m_nodes (m_at + 2) m_flags m_fault m_place m_numbered m_depth m_value m_isNot m_least0 m_most0 m_slot m_work m_got m_rowMany m_charAt m_charWide m_trail m_isMatch m_matchGroups m_allFrom m_allBefore m_founds m_pieces m_writtenMany m_templateWide m_tooMuch) f_MO_307 (Or.inl rfl) d_MO_escape_91 h80.2.2 (Nat.le_of_ble_eq_true rfl) (fun _ => ⟨rfl, rfl⟩) (h80.2.1 (by decide)) ?_
                  obtain ⟨G41, eG41⟩ : ∃ z : ab_G, z = List.set G4 80 (ab_ob 12 (mof m_thrown m_taped m_length m_out m_wide m_gathered m_sets m_ranges m_nodes (m_at + 2) m_flags m_fault m_place m_numbered m_depth v39 m_isNot m_least0 m_most0 m_slot m_work m_got m_rowMany m_charAt m_charWide m_trail m_isMatch m_matchGroups m_allFrom m_allBefore m_founds m_pieces m_writtenMany m_templateWide m_tooMuch)) := ⟨_, rfl⟩
                  have h84 := h84.keep h80 eG41 (by decide)
                  have hlen := (z_len eG41).trans hlen
                  have hsl := (z_sl h80 eG41 rfl).trans hsl
                  have hfr := hfr.wr h80 eG41 (by decide)
                  have h80 := h80.kept eG41
                  change ab_W _ _ _ (List.set G4 80 (ab_ob 12 (mof m_thrown m_taped m_length m_out m_wide m_gathered m_sets m_ranges m_nodes (m_at + 2) m_flags m_fault m_place m_numbered m_depth v39 m_isNot m_least0 m_most0 m_slot m_work m_got m_rowMany m_charAt m_charWide m_trail m_isMatch m_matchGroups m_allFrom m_allBefore m_founds m_pieces m_writtenMany m_templateWide m_tooMuch))) 94 [some (vR 80), some (vz ic), some (vz m_at), some (vz (A_tape (m_at + 1))), none] [] _
                  rw [← eG41]
                  refine ab_aload_n d_MO_escape_94 rfl ?_
                  refine ab_iload_n d_MO_escape_95 rfl ?_
                  refine zz_bipush d_MO_escape_96 (by decide) ?_
                  refine zz_icmp_ge (tgt := 105) d_MO_escape_98 (by decide) (by omega) (by decide) (fun c42 => absurd c42 (by omega)) (fun c42 => ?_)
                  refine zz_iconst d_MO_escape_101 ?_
                  refine ab_goto (tgt := 106) d_MO_escape_102 (by decide) ?_
                  refine ab_putf (fs := mof m_thrown m_taped m_length m_out m_wide m_gathered m_sets m_ranges m_nodes (m_at + 2) m_flags m_fault m_place m_numbered m_depth v39 m_isNot m_least0 m_most0 m_slot m_work m_got m_rowMany m_charAt m_charWide m_trail m_isMatch m_matchGroups m_allFrom m_allBefore m_founds m_pieces m_writtenMany m_templateWide m_tooMuch) f_MO_319 (Or.inl rfl) d_MO_escape_106 h80.2.2 (Nat.le_of_ble_eq_true rfl) (ab_fbz (by decide)) (h80.2.1 (by decide)) ?_
                  obtain ⟨G43, eG43⟩ : ∃ z : ab_G, z = List.set G41 80 (ab_ob 12 (mof m_thrown m_taped m_length m_out m_wide m_gathered m_sets m_ranges m_nodes (m_at + 2) m_flags m_fault m_place m_numbered m_depth v39 1 m_least0 m_most0 m_slot m_work m_got m_rowMany m_charAt m_charWide m_trail m_isMatch m_matchGroups m_allFrom m_allBefore m_founds m_pieces m_writtenMany m_templateWide m_tooMuch)) := ⟨_, rfl⟩
                  have h84 := h84.keep h80 eG43 (by decide)
                  have hlen := (z_len eG43).trans hlen
                  have hsl := (z_sl h80 eG43 rfl).trans hsl
                  have hfr := hfr.wr h80 eG43 (by decide)
                  have h80 := h80.kept eG43
                  change ab_W _ _ _ (List.set G41 80 (ab_ob 12 (mof m_thrown m_taped m_length m_out m_wide m_gathered m_sets m_ranges m_nodes (m_at + 2) m_flags m_fault m_place m_numbered m_depth v39 1 m_least0 m_most0 m_slot m_work m_got m_rowMany m_charAt m_charWide m_trail m_isMatch m_matchGroups m_allFrom m_allBefore m_founds m_pieces m_writtenMany m_templateWide m_tooMuch))) 109 [some (vR 80), some (vz ic), some (vz m_at), some (vz (A_tape (m_at + 1))), none] [] _
                  rw [← eG43]
                  refine zz_iconst d_MO_escape_109 ?_
                  refine zz_iret rfl d_MO_escape_110 ?_
                  rw [hQ]; exact (Or.inr (Or.inr (Or.inl ⟨_, _, _, rfl, hfr, hlen, hsl, h80, (by omega)⟩)))
                · replace c37 : nzq (A_tape (m_at + 1)) 83 := c37
                  refine ab_iload_n d_MO_escape_80 rfl ?_
                  refine zz_bipush d_MO_escape_81 (by decide) ?_
                  refine zz_icmp_ne (tgt := 111) d_MO_escape_83 (by decide) (by omega) (by decide) (fun c44 => ?_) (fun c44 => ?_)
                  · replace c44 : nzq (A_tape (m_at + 1)) 87 := c44
                    refine ab_iload_n d_MO_escape_111 rfl ?_
                    refine zz_bipush d_MO_escape_112 (by decide) ?_
                    refine zz_icmp_eq (tgt := 123) d_MO_escape_114 (by decide) (by omega) (by decide) (fun c45 => ?_) (fun c45 => ?_)
                    · refine ab_aload_n d_MO_escape_123 rfl ?_
                      refine zz_iconst d_MO_escape_124 ?_
                      refine ab_callV (d' := d - 1) (as := [vz 0]) (st := []) (r := _) (z_MO_here (o := o) (m_thrown := m_thrown) (m_taped := m_taped) (m_length := m_length) (m_out := m_out) (m_wide := m_wide) (m_gathered := m_gathered) (m_sets := m_sets) (m_ranges := m_ranges) (m_nodes := m_nodes) (m_at := (m_at + 2)) (m_flags := m_flags) (m_fault := m_fault) (m_place := m_place) (m_numbered := m_numbered) (m_depth := m_depth) (m_value := m_value) (m_isNot := m_isNot) (m_least0 := m_least0) (m_most0 := m_most0) (m_slot := m_slot) (m_work := m_work) (m_got := m_got) (m_rowMany := m_rowMany) (m_charAt := m_charAt) (m_charWide := m_charWide) (m_trail := m_trail) (m_isMatch := m_isMatch) (m_matchGroups := m_matchGroups) (m_allFrom := m_allFrom) (m_allBefore := m_allBefore) (m_founds := m_founds) (m_pieces := m_pieces) (m_writtenMany := m_writtenMany) (m_templateWide := m_templateWide) (m_tooMuch := m_tooMuch) (A_tape := A_tape) (k := 0) h80 h84 (by omega) (by omega) jtp (by omega)) (fun oc G2 h => by rcases h with ⟨h, _⟩ | ⟨h, _⟩ <;> exact ⟨_, h⟩) (by omega) m_MO_here ml_MO_297 im_MO_here se_MO_here c_MO h80.2.2 (Nat.le_of_ble_eq_true rfl) d_MO_escape_125 rfl ?_
                      intro v G46 hq
                      rcases hq with ⟨hv, hGe, hq47⟩ | ⟨hv, hGe, hq48⟩
                      · cases hv
                        rw [hGe]
                        change ab_W _ _ _ G4 128 [some (vR 80), some (vz ic), some (vz m_at), some (vz (A_tape (m_at + 1))), none] [vz (A_tape ((m_at + 2) + 0))] _
                        refine ab_istore d_MO_escape_128 (Nat.le_of_ble_eq_true rfl) (Nat.le_of_ble_eq_true rfl) rfl ?_
                        change ab_W _ _ _ G4 130 [some (vR 80), some (vz ic), some (vz m_at), some (vz (A_tape (m_at + 1))), some (vz (A_tape ((m_at + 2) + 0)))] [] _
                        refine ab_iload d_MO_escape_130 rfl ?_
                        refine zz_if_ge (tgt := 144) d_MO_escape_132 (by decide) (by omega) (fun c49 => ?_) (fun c49 => absurd c49 (by omega))
                        refine ab_iload d_MO_escape_144 rfl ?_
                        refine ab_callS (d' := d - 1) (as := [vz (A_tape ((m_at + 2) + 0))]) (st := []) (z_MO_whichLetter (o := o) (c := (A_tape ((m_at + 2) + 0))) (by omega)) (fun oc G2 h => by rcases h with ⟨h, _⟩ <;> exact ⟨_, h⟩) (by omega) m_MO_whichLetter ml_MO_323 st_MO_whichLetter (Nat.le_of_ble_eq_true rfl) d_MO_escape_146 rfl ?_
                        intro v G50 hq
                        rcases hq with ⟨hv, hGe, hq51⟩
                        cases hv
                        rw [hGe]
                        change ab_W _ _ _ G4 149 [some (vR 80), some (vz ic), some (vz m_at), some (vz (A_tape (m_at + 1))), some (vz (A_tape ((m_at + 2) + 0)))] [vz (wlf (A_tape ((m_at + 2) + 0)))] _
                        refine zz_if_ge (tgt := 159) d_MO_escape_149 (by decide) (by omega) (fun c52 => ?_) (fun c52 => ?_)
                        · refine ab_aload_n d_MO_escape_159 rfl ?_
                          refine ab_getf (fs := mof m_thrown m_taped m_length m_out m_wide m_gathered m_sets m_ranges m_nodes (m_at + 2) m_flags m_fault m_place m_numbered m_depth m_value m_isNot m_least0 m_most0 m_slot m_work m_got m_rowMany m_charAt m_charWide m_trail m_isMatch m_matchGroups m_allFrom m_allBefore m_founds m_pieces m_writtenMany m_templateWide m_tooMuch) f_MO_273 d_MO_escape_160 h80.2.2 rfl ?_
                          refine zz_if_le (tgt := 168) d_MO_escape_163 (by decide) (by omega) (fun c53 => ?_) (fun c53 => absurd c53 (by omega))
                          have hwl_ := wlf_0 (c := (A_tape ((m_at + 2) + 0))) (by omega)
                          refine ab_aload_n d_MO_escape_168 rfl ?_
                          refine ab_iload d_MO_escape_169 rfl ?_
                          refine ab_callS (d' := d - 1) (as := [vz (A_tape ((m_at + 2) + 0))]) (st := [vR 80]) (z_MO_whichLetter (o := o) (c := (A_tape ((m_at + 2) + 0))) (by omega)) (fun oc G2 h => by rcases h with ⟨h, _⟩ <;> exact ⟨_, h⟩) (by omega) m_MO_whichLetter ml_MO_323 st_MO_whichLetter (Nat.le_of_ble_eq_true rfl) d_MO_escape_171 rfl ?_
                          intro v G54 hq
                          rcases hq with ⟨hv, hGe, hq55⟩
                          cases hv
                          rw [hGe]
                          change ab_W _ _ _ G4 174 [some (vR 80), some (vz ic), some (vz m_at), some (vz (A_tape (m_at + 1))), some (vz (A_tape ((m_at + 2) + 0)))] [vz (wlf (A_tape ((m_at + 2) + 0))), vR 80] _
                          refine ab_putf (fs := mof m_thrown m_taped m_length m_out m_wide m_gathered m_sets m_ranges m_nodes (m_at + 2) m_flags m_fault m_place m_numbered m_depth m_value m_isNot m_least0 m_most0 m_slot m_work m_got m_rowMany m_charAt m_charWide m_trail m_isMatch m_matchGroups m_allFrom m_allBefore m_founds m_pieces m_writtenMany m_templateWide m_tooMuch) f_MO_307 (Or.inl rfl) d_MO_escape_174 h80.2.2 (Nat.le_of_ble_eq_true rfl) (fun _ => ⟨rfl, rfl⟩) (h80.2.1 (by decide)) ?_
                          obtain ⟨G56, eG56⟩ : ∃ z : ab_G, z = List.set G4 80 (ab_ob 12 (mof m_thrown m_taped m_length m_out m_wide m_gathered m_sets m_ranges m_nodes (m_at + 2) m_flags m_fault m_place m_numbered m_depth (wlf (A_tape ((m_at + 2) + 0))) m_isNot m_least0 m_most0 m_slot m_work m_got m_rowMany m_charAt m_charWide m_trail m_isMatch m_matchGroups m_allFrom m_allBefore m_founds m_pieces m_writtenMany m_templateWide m_tooMuch)) := ⟨_, rfl⟩
                          have h84 := h84.keep h80 eG56 (by decide)
                          have hlen := (z_len eG56).trans hlen
                          have hsl := (z_sl h80 eG56 rfl).trans hsl
                          have hfr := hfr.wr h80 eG56 (by decide)
                          have h80 := h80.kept eG56
                          change ab_W _ _ _ (List.set G4 80 (ab_ob 12 (mof m_thrown m_taped m_length m_out m_wide m_gathered m_sets m_ranges m_nodes (m_at + 2) m_flags m_fault m_place m_numbered m_depth (wlf (A_tape ((m_at + 2) + 0))) m_isNot m_least0 m_most0 m_slot m_work m_got m_rowMany m_charAt m_charWide m_trail m_isMatch m_matchGroups m_allFrom m_allBefore m_founds m_pieces m_writtenMany m_templateWide m_tooMuch))) 177 [some (vR 80), some (vz ic), some (vz m_at), some (vz (A_tape (m_at + 1))), some (vz (A_tape ((m_at + 2) + 0)))] [] _
                          rw [← eG56]
                          refine ab_aload_n d_MO_escape_177 rfl ?_
                          refine ab_iload_n d_MO_escape_178 rfl ?_
                          refine zz_bipush d_MO_escape_179 (by decide) ?_
                          refine zz_icmp_ne (tgt := 188) d_MO_escape_181 (by decide) (by omega) (by decide) (fun c57 => ?_) (fun c57 => absurd c57 (by omega))
                          refine zz_iconst d_MO_escape_188 ?_
                          refine ab_putf (fs := mof m_thrown m_taped m_length m_out m_wide m_gathered m_sets m_ranges m_nodes (m_at + 2) m_flags m_fault m_place m_numbered m_depth (wlf (A_tape ((m_at + 2) + 0))) m_isNot m_least0 m_most0 m_slot m_work m_got m_rowMany m_charAt m_charWide m_trail m_isMatch m_matchGroups m_allFrom m_allBefore m_founds m_pieces m_writtenMany m_templateWide m_tooMuch) f_MO_319 (Or.inl rfl) d_MO_escape_189 h80.2.2 (Nat.le_of_ble_eq_true rfl) (ab_fbz (by decide)) (h80.2.1 (by decide)) ?_
                          obtain ⟨G58, eG58⟩ : ∃ z : ab_G, z = List.set G56 80 (ab_ob 12 (mof m_thrown m_taped m_length m_out m_wide m_gathered m_sets m_ranges m_nodes (m_at + 2) m_flags m_fault m_place m_numbered m_depth (wlf (A_tape ((m_at + 2) + 0))) 0 m_least0 m_most0 m_slot m_work m_got m_rowMany m_charAt m_charWide m_trail m_isMatch m_matchGroups m_allFrom m_allBefore m_founds m_pieces m_writtenMany m_templateWide m_tooMuch)) := ⟨_, rfl⟩
                          have h84 := h84.keep h80 eG58 (by decide)
                          have hlen := (z_len eG58).trans hlen
                          have hsl := (z_sl h80 eG58 rfl).trans hsl
                          have hfr := hfr.wr h80 eG58 (by decide)
                          have h80 := h80.kept eG58
                          change ab_W _ _ _ (List.set G56 80 (ab_ob 12 (mof m_thrown m_taped m_length m_out m_wide m_gathered m_sets m_ranges m_nodes (m_at + 2) m_flags m_fault m_place m_numbered m_depth (wlf (A_tape ((m_at + 2) + 0))) 0 m_least0 m_most0 m_slot m_work m_got m_rowMany m_charAt m_charWide m_trail m_isMatch m_matchGroups m_allFrom m_allBefore m_founds m_pieces m_writtenMany m_templateWide m_tooMuch))) 192 [some (vR 80), some (vz ic), some (vz m_at), some (vz (A_tape (m_at + 1))), some (vz (A_tape ((m_at + 2) + 0)))] [] _
                          rw [← eG58]
                          refine ab_aload_n d_MO_escape_192 rfl ?_
                          refine ab_dup d_MO_escape_193 rfl ?_
                          refine ab_getf (fs := mof m_thrown m_taped m_length m_out m_wide m_gathered m_sets m_ranges m_nodes (m_at + 2) m_flags m_fault m_place m_numbered m_depth (wlf (A_tape ((m_at + 2) + 0))) 0 m_least0 m_most0 m_slot m_work m_got m_rowMany m_charAt m_charWide m_trail m_isMatch m_matchGroups m_allFrom m_allBefore m_founds m_pieces m_writtenMany m_templateWide m_tooMuch) f_MO_279 d_MO_escape_194 h80.2.2 rfl ?_
                          refine zz_iconst d_MO_escape_197 ?_
                          refine zz_iadd d_MO_escape_198 ?_
                          refine ab_putf (fs := mof m_thrown m_taped m_length m_out m_wide m_gathered m_sets m_ranges m_nodes (m_at + 2) m_flags m_fault m_place m_numbered m_depth (wlf (A_tape ((m_at + 2) + 0))) 0 m_least0 m_most0 m_slot m_work m_got m_rowMany m_charAt m_charWide m_trail m_isMatch m_matchGroups m_allFrom m_allBefore m_founds m_pieces m_writtenMany m_templateWide m_tooMuch) f_MO_279 (Or.inl rfl) d_MO_escape_199 h80.2.2 (Nat.le_of_ble_eq_true rfl) (fun _ => ⟨rfl, rfl⟩) (h80.2.1 (by decide)) ?_
                          obtain ⟨G59, eG59⟩ : ∃ z : ab_G, z = List.set G58 80 (ab_ob 12 (mof m_thrown m_taped m_length m_out m_wide m_gathered m_sets m_ranges m_nodes ((m_at + 2) + 1) m_flags m_fault m_place m_numbered m_depth (wlf (A_tape ((m_at + 2) + 0))) 0 m_least0 m_most0 m_slot m_work m_got m_rowMany m_charAt m_charWide m_trail m_isMatch m_matchGroups m_allFrom m_allBefore m_founds m_pieces m_writtenMany m_templateWide m_tooMuch)) := ⟨_, rfl⟩
                          have h84 := h84.keep h80 eG59 (by decide)
                          have hlen := (z_len eG59).trans hlen
                          have hsl := (z_sl h80 eG59 rfl).trans hsl
                          have hfr := hfr.wr h80 eG59 (by decide)
                          have h80 := h80.kept eG59
                          change ab_W _ _ _ (List.set G58 80 (ab_ob 12 (mof m_thrown m_taped m_length m_out m_wide m_gathered m_sets m_ranges m_nodes ((m_at + 2) + 1) m_flags m_fault m_place m_numbered m_depth (wlf (A_tape ((m_at + 2) + 0))) 0 m_least0 m_most0 m_slot m_work m_got m_rowMany m_charAt m_charWide m_trail m_isMatch m_matchGroups m_allFrom m_allBefore m_founds m_pieces m_writtenMany m_templateWide m_tooMuch))) 202 [some (vR 80), some (vz ic), some (vz m_at), some (vz (A_tape (m_at + 1))), some (vz (A_tape ((m_at + 2) + 0)))] [] _
                          rw [← eG59]
                          refine zz_iconst d_MO_escape_202 ?_
                          refine zz_iret rfl d_MO_escape_203 ?_
                          rw [hQ]; exact (Or.inr (Or.inr (Or.inl ⟨_, _, _, rfl, hfr, hlen, hsl, h80, (by omega)⟩)))
                        · refine ab_aload_n d_MO_escape_152 rfl ?_
                          refine zz_bipush d_MO_escape_153 (by decide) ?_
                          refine ab_iload_n d_MO_escape_155 rfl ?_
                          refine ab_callV (d' := d - 1) (as := [vz 7, vz m_at]) (st := []) (r := _) (z_MO_wrong (o := o) (m_thrown := m_thrown) (m_taped := m_taped) (m_length := m_length) (m_out := m_out) (m_wide := m_wide) (m_gathered := m_gathered) (m_sets := m_sets) (m_ranges := m_ranges) (m_nodes := m_nodes) (m_at := (m_at + 2)) (m_flags := m_flags) (m_fault := m_fault) (m_place := m_place) (m_numbered := m_numbered) (m_depth := m_depth) (m_value := m_value) (m_isNot := m_isNot) (m_least0 := m_least0) (m_most0 := m_most0) (m_slot := m_slot) (m_work := m_work) (m_got := m_got) (m_rowMany := m_rowMany) (m_charAt := m_charAt) (m_charWide := m_charWide) (m_trail := m_trail) (m_isMatch := m_isMatch) (m_matchGroups := m_matchGroups) (m_allFrom := m_allFrom) (m_allBefore := m_allBefore) (m_founds := m_founds) (m_pieces := m_pieces) (m_writtenMany := m_writtenMany) (m_templateWide := m_templateWide) (m_tooMuch := m_tooMuch) (x := 7) (y := m_at) h80 (by omega) (by omega)) (fun oc G2 h => by rcases h with ⟨_, _, h, _⟩ <;> exact ⟨_, h⟩) (by omega) m_MO_wrong ml_MO_304 im_MO_wrong se_MO_wrong c_MO h80.2.2 (Nat.le_of_ble_eq_true rfl) d_MO_escape_156 rfl ?_
                          intro v G60 hq
                          rcases hq with ⟨f261, p262, hv, hfk, hlk, hsk, hN80, hq63⟩
                          cases hv
                          have h84 := hfk.get h84 (by decide)
                          have hfr := hfr.tr hfk (by decide)
                          have hlen := hlk.trans hlen
                          have hsl := hsk.trans hsl
                          have h80 := hN80
                          change ab_W _ _ _ G60 159 [some (vR 80), some (vz ic), some (vz m_at), some (vz (A_tape (m_at + 1))), some (vz (A_tape ((m_at + 2) + 0)))] [] _
                          refine ab_aload_n d_MO_escape_159 rfl ?_
                          refine ab_getf (fs := mof m_thrown m_taped m_length m_out m_wide m_gathered m_sets m_ranges m_nodes (m_at + 2) m_flags f261 p262 m_numbered m_depth m_value m_isNot m_least0 m_most0 m_slot m_work m_got m_rowMany m_charAt m_charWide m_trail m_isMatch m_matchGroups m_allFrom m_allBefore m_founds m_pieces m_writtenMany m_templateWide m_tooMuch) f_MO_273 d_MO_escape_160 h80.2.2 rfl ?_
                          refine zz_if_le (tgt := 168) d_MO_escape_163 (by decide) (by omega) (fun c64 => absurd c64 (by omega)) (fun c64 => ?_)
                          refine zz_iconst d_MO_escape_166 ?_
                          refine zz_iret rfl d_MO_escape_167 ?_
                          rw [hQ]; exact (Or.inl ⟨_, _, _, rfl, hfr, hlen, hsl, h80, (by omega)⟩)
                      · cases hv
                        rw [hGe]
                        change ab_W _ _ _ G4 128 [some (vR 80), some (vz ic), some (vz m_at), some (vz (A_tape (m_at + 1))), none] [vz (-1)] _
                        refine ab_istore d_MO_escape_128 (Nat.le_of_ble_eq_true rfl) (Nat.le_of_ble_eq_true rfl) rfl ?_
                        change ab_W _ _ _ G4 130 [some (vR 80), some (vz ic), some (vz m_at), some (vz (A_tape (m_at + 1))), some (vz (-1))] [] _
                        refine ab_iload d_MO_escape_130 rfl ?_
                        refine zz_if_ge (tgt := 144) d_MO_escape_132 (by decide) (by decide) (fun c65 => absurd c65 (by decide)) (fun c65 => ?_)
                        refine ab_aload_n d_MO_escape_135 rfl ?_
                        refine zz_iconst d_MO_escape_136 ?_
                        refine ab_iload_n d_MO_escape_137 rfl ?_
                        refine ab_callV (d' := d - 1) (as := [vz 5, vz m_at]) (st := []) (r := _) (z_MO_wrong (o := o) (m_thrown := m_thrown) (m_taped := m_taped) (m_length := m_length) (m_out := m_out) (m_wide := m_wide) (m_gathered := m_gathered) (m_sets := m_sets) (m_ranges := m_ranges) (m_nodes := m_nodes) (m_at := (m_at + 2)) (m_flags := m_flags) (m_fault := m_fault) (m_place := m_place) (m_numbered := m_numbered) (m_depth := m_depth) (m_value := m_value) (m_isNot := m_isNot) (m_least0 := m_least0) (m_most0 := m_most0) (m_slot := m_slot) (m_work := m_work) (m_got := m_got) (m_rowMany := m_rowMany) (m_charAt := m_charAt) (m_charWide := m_charWide) (m_trail := m_trail) (m_isMatch := m_isMatch) (m_matchGroups := m_matchGroups) (m_allFrom := m_allFrom) (m_allBefore := m_allBefore) (m_founds := m_founds) (m_pieces := m_pieces) (m_writtenMany := m_writtenMany) (m_templateWide := m_templateWide) (m_tooMuch := m_tooMuch) (x := 5) (y := m_at) h80 (by omega) (by omega)) (fun oc G2 h => by rcases h with ⟨_, _, h, _⟩ <;> exact ⟨_, h⟩) (by omega) m_MO_wrong ml_MO_304 im_MO_wrong se_MO_wrong c_MO h80.2.2 (Nat.le_of_ble_eq_true rfl) d_MO_escape_138 rfl ?_
                        intro v G66 hq
                        rcases hq with ⟨f267, p268, hv, hfk, hlk, hsk, hN80, hq69⟩
                        cases hv
                        have h84 := hfk.get h84 (by decide)
                        have hfr := hfr.tr hfk (by decide)
                        have hlen := hlk.trans hlen
                        have hsl := hsk.trans hsl
                        have h80 := hN80
                        change ab_W _ _ _ G66 141 [some (vR 80), some (vz ic), some (vz m_at), some (vz (A_tape (m_at + 1))), some (vz (-1))] [] _
                        refine ab_goto (tgt := 159) d_MO_escape_141 (by decide) ?_
                        refine ab_aload_n d_MO_escape_159 rfl ?_
                        refine ab_getf (fs := mof m_thrown m_taped m_length m_out m_wide m_gathered m_sets m_ranges m_nodes (m_at + 2) m_flags f267 p268 m_numbered m_depth m_value m_isNot m_least0 m_most0 m_slot m_work m_got m_rowMany m_charAt m_charWide m_trail m_isMatch m_matchGroups m_allFrom m_allBefore m_founds m_pieces m_writtenMany m_templateWide m_tooMuch) f_MO_273 d_MO_escape_160 h80.2.2 rfl ?_
                        refine zz_if_le (tgt := 168) d_MO_escape_163 (by decide) (by omega) (fun c70 => absurd c70 (by omega)) (fun c70 => ?_)
                        refine zz_iconst d_MO_escape_166 ?_
                        refine zz_iret rfl d_MO_escape_167 ?_
                        rw [hQ]; exact (Or.inl ⟨_, _, _, rfl, hfr, hlen, hsl, h80, (by omega)⟩)
                    · replace c45 : nzq (A_tape (m_at + 1)) 112 := c45
                      refine ab_iload_n d_MO_escape_117 rfl ?_
                      refine zz_bipush d_MO_escape_118 (by decide) ?_
                      refine zz_icmp_ne (tgt := 204) d_MO_escape_120 (by decide) (by omega) (by decide) (fun c71 => ?_) (fun c71 => ?_)
                      · replace c71 : nzq (A_tape (m_at + 1)) 80 := c71
                        refine ab_iload_n d_MO_escape_204 rfl ?_
                        refine zz_if_ne (tgt := 269) d_MO_escape_205 (by decide) (by omega) (fun c72 => ?_) (fun c72 => ?_)
                        · replace c72 : nzq ic 0 := c72
                          refine ab_iload_n d_MO_escape_269 rfl ?_
                          refine zz_if_ne (tgt := 281) d_MO_escape_270 (by decide) (by omega) (fun c73 => ?_) (fun c73 => ?_)
                          · replace c73 : nzq ic 0 := c73
                            refine ab_iload_n d_MO_escape_281 rfl ?_
                            refine zz_if_lt (tgt := 298) d_MO_escape_282 (by decide) (by omega) (fun c74 => absurd c74 (by omega)) (fun c74 => ?_)
                            refine ab_iload_n d_MO_escape_285 rfl ?_
                            refine zz_bipush d_MO_escape_286 (by decide) ?_
                            refine zz_icmp_gt (tgt := 298) d_MO_escape_288 (by decide) (by omega) (by decide) (fun c75 => ?_) (fun c75 => ?_)
                            · refine ab_aload_n d_MO_escape_298 rfl ?_
                              refine zz_iconst d_MO_escape_299 ?_
                              refine ab_iload_n d_MO_escape_300 rfl ?_
                              refine ab_callV (d' := d - 1) (as := [vz 5, vz m_at]) (st := []) (r := _) (z_MO_wrong (o := o) (m_thrown := m_thrown) (m_taped := m_taped) (m_length := m_length) (m_out := m_out) (m_wide := m_wide) (m_gathered := m_gathered) (m_sets := m_sets) (m_ranges := m_ranges) (m_nodes := m_nodes) (m_at := (m_at + 2)) (m_flags := m_flags) (m_fault := m_fault) (m_place := m_place) (m_numbered := m_numbered) (m_depth := m_depth) (m_value := m_value) (m_isNot := m_isNot) (m_least0 := m_least0) (m_most0 := m_most0) (m_slot := m_slot) (m_work := m_work) (m_got := m_got) (m_rowMany := m_rowMany) (m_charAt := m_charAt) (m_charWide := m_charWide) (m_trail := m_trail) (m_isMatch := m_isMatch) (m_matchGroups := m_matchGroups) (m_allFrom := m_allFrom) (m_allBefore := m_allBefore) (m_founds := m_founds) (m_pieces := m_pieces) (m_writtenMany := m_writtenMany) (m_templateWide := m_templateWide) (m_tooMuch := m_tooMuch) (x := 5) (y := m_at) h80 (by omega) (by omega)) (fun oc G2 h => by rcases h with ⟨_, _, h, _⟩ <;> exact ⟨_, h⟩) (by omega) m_MO_wrong ml_MO_304 im_MO_wrong se_MO_wrong c_MO h80.2.2 (Nat.le_of_ble_eq_true rfl) d_MO_escape_301 rfl ?_
                              intro v G76 hq
                              rcases hq with ⟨f277, p278, hv, hfk, hlk, hsk, hN80, hq79⟩
                              cases hv
                              have h84 := hfk.get h84 (by decide)
                              have hfr := hfr.tr hfk (by decide)
                              have hlen := hlk.trans hlen
                              have hsl := hsk.trans hsl
                              have h80 := hN80
                              change ab_W _ _ _ G76 304 [some (vR 80), some (vz ic), some (vz m_at), some (vz (A_tape (m_at + 1))), none] [] _
                              refine zz_iconst d_MO_escape_304 ?_
                              refine zz_iret rfl d_MO_escape_305 ?_
                              rw [hQ]; exact (Or.inl ⟨_, _, _, rfl, hfr, hlen, hsl, h80, (by omega)⟩)
                            · refine ab_iload_n d_MO_escape_291 rfl ?_
                              refine ab_callS (d' := d - 1) (as := [vz (A_tape (m_at + 1))]) (st := []) (z_MO_isWord (o := o) (x := (A_tape (m_at + 1))) (by omega)) (fun oc G2 h => by rcases h with ⟨h, _⟩ | ⟨h, _⟩ <;> exact ⟨_, h⟩) (by omega) m_MO_isWord ml_MO_326 st_MO_isWord (Nat.le_of_ble_eq_true rfl) d_MO_escape_292 rfl ?_
                              intro v G80 hq
                              rcases hq with ⟨hv, hGe, hq81⟩ | ⟨hv, hGe, hq82⟩
                              · cases hv
                                rw [hGe]
                                change ab_W _ _ _ G4 295 [some (vR 80), some (vz ic), some (vz m_at), some (vz (A_tape (m_at + 1))), none] [vz 1] _
                                refine zz_if_eq (tgt := 306) d_MO_escape_295 (by decide) (by decide) (fun c83 => absurd c83 (by decide)) (fun c83 => ?_)
                                refine ab_aload_n d_MO_escape_298 rfl ?_
                                refine zz_iconst d_MO_escape_299 ?_
                                refine ab_iload_n d_MO_escape_300 rfl ?_
                                refine ab_callV (d' := d - 1) (as := [vz 5, vz m_at]) (st := []) (r := _) (z_MO_wrong (o := o) (m_thrown := m_thrown) (m_taped := m_taped) (m_length := m_length) (m_out := m_out) (m_wide := m_wide) (m_gathered := m_gathered) (m_sets := m_sets) (m_ranges := m_ranges) (m_nodes := m_nodes) (m_at := (m_at + 2)) (m_flags := m_flags) (m_fault := m_fault) (m_place := m_place) (m_numbered := m_numbered) (m_depth := m_depth) (m_value := m_value) (m_isNot := m_isNot) (m_least0 := m_least0) (m_most0 := m_most0) (m_slot := m_slot) (m_work := m_work) (m_got := m_got) (m_rowMany := m_rowMany) (m_charAt := m_charAt) (m_charWide := m_charWide) (m_trail := m_trail) (m_isMatch := m_isMatch) (m_matchGroups := m_matchGroups) (m_allFrom := m_allFrom) (m_allBefore := m_allBefore) (m_founds := m_founds) (m_pieces := m_pieces) (m_writtenMany := m_writtenMany) (m_templateWide := m_templateWide) (m_tooMuch := m_tooMuch) (x := 5) (y := m_at) h80 (by omega) (by omega)) (fun oc G2 h => by rcases h with ⟨_, _, h, _⟩ <;> exact ⟨_, h⟩) (by omega) m_MO_wrong ml_MO_304 im_MO_wrong se_MO_wrong c_MO h80.2.2 (Nat.le_of_ble_eq_true rfl) d_MO_escape_301 rfl ?_
                                intro v G84 hq
                                rcases hq with ⟨f285, p286, hv, hfk, hlk, hsk, hN80, hq87⟩
                                cases hv
                                have h84 := hfk.get h84 (by decide)
                                have hfr := hfr.tr hfk (by decide)
                                have hlen := hlk.trans hlen
                                have hsl := hsk.trans hsl
                                have h80 := hN80
                                change ab_W _ _ _ G84 304 [some (vR 80), some (vz ic), some (vz m_at), some (vz (A_tape (m_at + 1))), none] [] _
                                refine zz_iconst d_MO_escape_304 ?_
                                refine zz_iret rfl d_MO_escape_305 ?_
                                rw [hQ]; exact (Or.inl ⟨_, _, _, rfl, hfr, hlen, hsl, h80, (by omega)⟩)
                              · cases hv
                                rw [hGe]
                                change ab_W _ _ _ G4 295 [some (vR 80), some (vz ic), some (vz m_at), some (vz (A_tape (m_at + 1))), none] [vz 0] _
                                refine zz_if_eq (tgt := 306) d_MO_escape_295 (by decide) (by decide) (fun c88 => ?_) (fun c88 => absurd c88 (by decide))
                                refine ab_aload_n d_MO_escape_306 rfl ?_
                                refine ab_iload_n d_MO_escape_307 rfl ?_
                                refine ab_putf (fs := mof m_thrown m_taped m_length m_out m_wide m_gathered m_sets m_ranges m_nodes (m_at + 2) m_flags m_fault m_place m_numbered m_depth m_value m_isNot m_least0 m_most0 m_slot m_work m_got m_rowMany m_charAt m_charWide m_trail m_isMatch m_matchGroups m_allFrom m_allBefore m_founds m_pieces m_writtenMany m_templateWide m_tooMuch) f_MO_307 (Or.inl rfl) d_MO_escape_308 h80.2.2 (Nat.le_of_ble_eq_true rfl) (fun _ => ⟨rfl, rfl⟩) (h80.2.1 (by decide)) ?_
                                obtain ⟨G89, eG89⟩ : ∃ z : ab_G, z = List.set G4 80 (ab_ob 12 (mof m_thrown m_taped m_length m_out m_wide m_gathered m_sets m_ranges m_nodes (m_at + 2) m_flags m_fault m_place m_numbered m_depth (A_tape (m_at + 1)) m_isNot m_least0 m_most0 m_slot m_work m_got m_rowMany m_charAt m_charWide m_trail m_isMatch m_matchGroups m_allFrom m_allBefore m_founds m_pieces m_writtenMany m_templateWide m_tooMuch)) := ⟨_, rfl⟩
                                have h84 := h84.keep h80 eG89 (by decide)
                                have hlen := (z_len eG89).trans hlen
                                have hsl := (z_sl h80 eG89 rfl).trans hsl
                                have hfr := hfr.wr h80 eG89 (by decide)
                                have h80 := h80.kept eG89
                                change ab_W _ _ _ (List.set G4 80 (ab_ob 12 (mof m_thrown m_taped m_length m_out m_wide m_gathered m_sets m_ranges m_nodes (m_at + 2) m_flags m_fault m_place m_numbered m_depth (A_tape (m_at + 1)) m_isNot m_least0 m_most0 m_slot m_work m_got m_rowMany m_charAt m_charWide m_trail m_isMatch m_matchGroups m_allFrom m_allBefore m_founds m_pieces m_writtenMany m_templateWide m_tooMuch))) 311 [some (vR 80), some (vz ic), some (vz m_at), some (vz (A_tape (m_at + 1))), none] [] _
                                rw [← eG89]
                                refine zz_iconst d_MO_escape_311 ?_
                                refine zz_iret rfl d_MO_escape_312 ?_
                                rw [hQ]; exact (Or.inr (Or.inl ⟨_, _, rfl, hfr, hlen, hsl, h80, (by omega)⟩))
                          · refine ab_iload_n d_MO_escape_273 rfl ?_
                            refine zz_bipush d_MO_escape_274 (by decide) ?_
                            refine zz_icmp_ne (tgt := 281) d_MO_escape_276 (by decide) (by omega) (by decide) (fun c90 => ?_) (fun c90 => ?_)
                            · replace c90 : nzq (A_tape (m_at + 1)) 67 := c90
                              refine ab_iload_n d_MO_escape_281 rfl ?_
                              refine zz_if_lt (tgt := 298) d_MO_escape_282 (by decide) (by omega) (fun c91 => absurd c91 (by omega)) (fun c91 => ?_)
                              refine ab_iload_n d_MO_escape_285 rfl ?_
                              refine zz_bipush d_MO_escape_286 (by decide) ?_
                              refine zz_icmp_gt (tgt := 298) d_MO_escape_288 (by decide) (by omega) (by decide) (fun c92 => ?_) (fun c92 => ?_)
                              · refine ab_aload_n d_MO_escape_298 rfl ?_
                                refine zz_iconst d_MO_escape_299 ?_
                                refine ab_iload_n d_MO_escape_300 rfl ?_
                                refine ab_callV (d' := d - 1) (as := [vz 5, vz m_at]) (st := []) (r := _) (z_MO_wrong (o := o) (m_thrown := m_thrown) (m_taped := m_taped) (m_length := m_length) (m_out := m_out) (m_wide := m_wide) (m_gathered := m_gathered) (m_sets := m_sets) (m_ranges := m_ranges) (m_nodes := m_nodes) (m_at := (m_at + 2)) (m_flags := m_flags) (m_fault := m_fault) (m_place := m_place) (m_numbered := m_numbered) (m_depth := m_depth) (m_value := m_value) (m_isNot := m_isNot) (m_least0 := m_least0) (m_most0 := m_most0) (m_slot := m_slot) (m_work := m_work) (m_got := m_got) (m_rowMany := m_rowMany) (m_charAt := m_charAt) (m_charWide := m_charWide) (m_trail := m_trail) (m_isMatch := m_isMatch) (m_matchGroups := m_matchGroups) (m_allFrom := m_allFrom) (m_allBefore := m_allBefore) (m_founds := m_founds) (m_pieces := m_pieces) (m_writtenMany := m_writtenMany) (m_templateWide := m_templateWide) (m_tooMuch := m_tooMuch) (x := 5) (y := m_at) h80 (by omega) (by omega)) (fun oc G2 h => by rcases h with ⟨_, _, h, _⟩ <;> exact ⟨_, h⟩) (by omega) m_MO_wrong ml_MO_304 im_MO_wrong se_MO_wrong c_MO h80.2.2 (Nat.le_of_ble_eq_true rfl) d_MO_escape_301 rfl ?_
                                intro v G93 hq
                                rcases hq with ⟨f294, p295, hv, hfk, hlk, hsk, hN80, hq96⟩
                                cases hv
                                have h84 := hfk.get h84 (by decide)
                                have hfr := hfr.tr hfk (by decide)
                                have hlen := hlk.trans hlen
                                have hsl := hsk.trans hsl
                                have h80 := hN80
                                change ab_W _ _ _ G93 304 [some (vR 80), some (vz ic), some (vz m_at), some (vz (A_tape (m_at + 1))), none] [] _
                                refine zz_iconst d_MO_escape_304 ?_
                                refine zz_iret rfl d_MO_escape_305 ?_
                                rw [hQ]; exact (Or.inl ⟨_, _, _, rfl, hfr, hlen, hsl, h80, (by omega)⟩)
                              · refine ab_iload_n d_MO_escape_291 rfl ?_
                                refine ab_callS (d' := d - 1) (as := [vz (A_tape (m_at + 1))]) (st := []) (z_MO_isWord (o := o) (x := (A_tape (m_at + 1))) (by omega)) (fun oc G2 h => by rcases h with ⟨h, _⟩ | ⟨h, _⟩ <;> exact ⟨_, h⟩) (by omega) m_MO_isWord ml_MO_326 st_MO_isWord (Nat.le_of_ble_eq_true rfl) d_MO_escape_292 rfl ?_
                                intro v G97 hq
                                rcases hq with ⟨hv, hGe, hq98⟩ | ⟨hv, hGe, hq99⟩
                                · cases hv
                                  rw [hGe]
                                  change ab_W _ _ _ G4 295 [some (vR 80), some (vz ic), some (vz m_at), some (vz (A_tape (m_at + 1))), none] [vz 1] _
                                  refine zz_if_eq (tgt := 306) d_MO_escape_295 (by decide) (by decide) (fun c100 => absurd c100 (by decide)) (fun c100 => ?_)
                                  refine ab_aload_n d_MO_escape_298 rfl ?_
                                  refine zz_iconst d_MO_escape_299 ?_
                                  refine ab_iload_n d_MO_escape_300 rfl ?_
                                  refine ab_callV (d' := d - 1) (as := [vz 5, vz m_at]) (st := []) (r := _) (z_MO_wrong (o := o) (m_thrown := m_thrown) (m_taped := m_taped) (m_length := m_length) (m_out := m_out) (m_wide := m_wide) (m_gathered := m_gathered) (m_sets := m_sets) (m_ranges := m_ranges) (m_nodes := m_nodes) (m_at := (m_at + 2)) (m_flags := m_flags) (m_fault := m_fault) (m_place := m_place) (m_numbered := m_numbered) (m_depth := m_depth) (m_value := m_value) (m_isNot := m_isNot) (m_least0 := m_least0) (m_most0 := m_most0) (m_slot := m_slot) (m_work := m_work) (m_got := m_got) (m_rowMany := m_rowMany) (m_charAt := m_charAt) (m_charWide := m_charWide) (m_trail := m_trail) (m_isMatch := m_isMatch) (m_matchGroups := m_matchGroups) (m_allFrom := m_allFrom) (m_allBefore := m_allBefore) (m_founds := m_founds) (m_pieces := m_pieces) (m_writtenMany := m_writtenMany) (m_templateWide := m_templateWide) (m_tooMuch := m_tooMuch) (x := 5) (y := m_at) h80 (by omega) (by omega)) (fun oc G2 h => by rcases h with ⟨_, _, h, _⟩ <;> exact ⟨_, h⟩) (by omega) m_MO_wrong ml_MO_304 im_MO_wrong se_MO_wrong c_MO h80.2.2 (Nat.le_of_ble_eq_true rfl) d_MO_escape_301 rfl ?_
                                  intro v G101 hq
                                  rcases hq with ⟨f2102, p2103, hv, hfk, hlk, hsk, hN80, hq104⟩
                                  cases hv
                                  have h84 := hfk.get h84 (by decide)
                                  have hfr := hfr.tr hfk (by decide)
                                  have hlen := hlk.trans hlen
                                  have hsl := hsk.trans hsl
                                  have h80 := hN80
                                  change ab_W _ _ _ G101 304 [some (vR 80), some (vz ic), some (vz m_at), some (vz (A_tape (m_at + 1))), none] [] _
                                  refine zz_iconst d_MO_escape_304 ?_
                                  refine zz_iret rfl d_MO_escape_305 ?_
                                  rw [hQ]; exact (Or.inl ⟨_, _, _, rfl, hfr, hlen, hsl, h80, (by omega)⟩)
                                · cases hv
                                  rw [hGe]
                                  change ab_W _ _ _ G4 295 [some (vR 80), some (vz ic), some (vz m_at), some (vz (A_tape (m_at + 1))), none] [vz 0] _
                                  refine zz_if_eq (tgt := 306) d_MO_escape_295 (by decide) (by decide) (fun c105 => ?_) (fun c105 => absurd c105 (by decide))
                                  refine ab_aload_n d_MO_escape_306 rfl ?_
                                  refine ab_iload_n d_MO_escape_307 rfl ?_
                                  refine ab_putf (fs := mof m_thrown m_taped m_length m_out m_wide m_gathered m_sets m_ranges m_nodes (m_at + 2) m_flags m_fault m_place m_numbered m_depth m_value m_isNot m_least0 m_most0 m_slot m_work m_got m_rowMany m_charAt m_charWide m_trail m_isMatch m_matchGroups m_allFrom m_allBefore m_founds m_pieces m_writtenMany m_templateWide m_tooMuch) f_MO_307 (Or.inl rfl) d_MO_escape_308 h80.2.2 (Nat.le_of_ble_eq_true rfl) (fun _ => ⟨rfl, rfl⟩) (h80.2.1 (by decide)) ?_
                                  obtain ⟨G106, eG106⟩ : ∃ z : ab_G, z = List.set G4 80 (ab_ob 12 (mof m_thrown m_taped m_length m_out m_wide m_gathered m_sets m_ranges m_nodes (m_at + 2) m_flags m_fault m_place m_numbered m_depth (A_tape (m_at + 1)) m_isNot m_least0 m_most0 m_slot m_work m_got m_rowMany m_charAt m_charWide m_trail m_isMatch m_matchGroups m_allFrom m_allBefore m_founds m_pieces m_writtenMany m_templateWide m_tooMuch)) := ⟨_, rfl⟩
                                  have h84 := h84.keep h80 eG106 (by decide)
                                  have hlen := (z_len eG106).trans hlen
                                  have hsl := (z_sl h80 eG106 rfl).trans hsl
                                  have hfr := hfr.wr h80 eG106 (by decide)
                                  have h80 := h80.kept eG106
                                  change ab_W _ _ _ (List.set G4 80 (ab_ob 12 (mof m_thrown m_taped m_length m_out m_wide m_gathered m_sets m_ranges m_nodes (m_at + 2) m_flags m_fault m_place m_numbered m_depth (A_tape (m_at + 1)) m_isNot m_least0 m_most0 m_slot m_work m_got m_rowMany m_charAt m_charWide m_trail m_isMatch m_matchGroups m_allFrom m_allBefore m_founds m_pieces m_writtenMany m_templateWide m_tooMuch))) 311 [some (vR 80), some (vz ic), some (vz m_at), some (vz (A_tape (m_at + 1))), none] [] _
                                  rw [← eG106]
                                  refine zz_iconst d_MO_escape_311 ?_
                                  refine zz_iret rfl d_MO_escape_312 ?_
                                  rw [hQ]; exact (Or.inr (Or.inl ⟨_, _, rfl, hfr, hlen, hsl, h80, (by omega)⟩))
                            · refine zz_iconst d_MO_escape_279 ?_
                              refine zz_iret rfl d_MO_escape_280 ?_
                              rw [hQ]; exact (Or.inr (Or.inr (Or.inr (Or.inr ⟨rfl, hfr, hlen, hsl, h80, (by omega)⟩))))
                        · refine ab_iload_n d_MO_escape_208 rfl ?_
                          refine zz_bipush d_MO_escape_209 (by decide) ?_
                          refine zz_icmp_eq (tgt := 232) d_MO_escape_211 (by decide) (by omega) (by decide) (fun c107 => ?_) (fun c107 => ?_)
                          · refine ab_aload_n d_MO_escape_232 rfl ?_
                            refine ab_iload_n d_MO_escape_233 rfl ?_
                            refine zz_bipush d_MO_escape_234 (by decide) ?_
                            refine zz_icmp_ne (tgt := 243) d_MO_escape_236 (by decide) (by omega) (by decide) (fun c108 => absurd c108 (by omega)) (fun c108 => ?_)
                            refine zz_iconst d_MO_escape_239 ?_
                            refine ab_goto (tgt := 264) d_MO_escape_240 (by decide) ?_
                            refine ab_putf (fs := mof m_thrown m_taped m_length m_out m_wide m_gathered m_sets m_ranges m_nodes (m_at + 2) m_flags m_fault m_place m_numbered m_depth m_value m_isNot m_least0 m_most0 m_slot m_work m_got m_rowMany m_charAt m_charWide m_trail m_isMatch m_matchGroups m_allFrom m_allBefore m_founds m_pieces m_writtenMany m_templateWide m_tooMuch) f_MO_307 (Or.inl rfl) d_MO_escape_264 h80.2.2 (Nat.le_of_ble_eq_true rfl) (fun _ => ⟨rfl, rfl⟩) (h80.2.1 (by decide)) ?_
                            obtain ⟨G109, eG109⟩ : ∃ z : ab_G, z = List.set G4 80 (ab_ob 12 (mof m_thrown m_taped m_length m_out m_wide m_gathered m_sets m_ranges m_nodes (m_at + 2) m_flags m_fault m_place m_numbered m_depth 0 m_isNot m_least0 m_most0 m_slot m_work m_got m_rowMany m_charAt m_charWide m_trail m_isMatch m_matchGroups m_allFrom m_allBefore m_founds m_pieces m_writtenMany m_templateWide m_tooMuch)) := ⟨_, rfl⟩
                            have h84 := h84.keep h80 eG109 (by decide)
                            have hlen := (z_len eG109).trans hlen
                            have hsl := (z_sl h80 eG109 rfl).trans hsl
                            have hfr := hfr.wr h80 eG109 (by decide)
                            have h80 := h80.kept eG109
                            change ab_W _ _ _ (List.set G4 80 (ab_ob 12 (mof m_thrown m_taped m_length m_out m_wide m_gathered m_sets m_ranges m_nodes (m_at + 2) m_flags m_fault m_place m_numbered m_depth 0 m_isNot m_least0 m_most0 m_slot m_work m_got m_rowMany m_charAt m_charWide m_trail m_isMatch m_matchGroups m_allFrom m_allBefore m_founds m_pieces m_writtenMany m_templateWide m_tooMuch))) 267 [some (vR 80), some (vz ic), some (vz m_at), some (vz (A_tape (m_at + 1))), none] [] _
                            rw [← eG109]
                            refine zz_iconst d_MO_escape_267 ?_
                            refine zz_iret rfl d_MO_escape_268 ?_
                            rw [hQ]; exact (Or.inr (Or.inr (Or.inr (Or.inl ⟨_, rfl, hfr, hlen, hsl, h80, (by omega)⟩))))
                          · replace c107 : nzq (A_tape (m_at + 1)) 65 := c107
                            refine ab_iload_n d_MO_escape_214 rfl ?_
                            refine zz_bipush d_MO_escape_215 (by decide) ?_
                            refine zz_icmp_eq (tgt := 232) d_MO_escape_217 (by decide) (by omega) (by decide) (fun c110 => ?_) (fun c110 => ?_)
                            · refine ab_aload_n d_MO_escape_232 rfl ?_
                              refine ab_iload_n d_MO_escape_233 rfl ?_
                              refine zz_bipush d_MO_escape_234 (by decide) ?_
                              refine zz_icmp_ne (tgt := 243) d_MO_escape_236 (by decide) (by omega) (by decide) (fun c111 => ?_) (fun c111 => absurd c111 (by omega))
                              refine ab_iload_n d_MO_escape_243 rfl ?_
                              refine zz_bipush d_MO_escape_244 (by decide) ?_
                              refine zz_icmp_ne (tgt := 253) d_MO_escape_246 (by decide) (by omega) (by decide) (fun c112 => absurd c112 (by omega)) (fun c112 => ?_)
                              refine zz_iconst d_MO_escape_249 ?_
                              refine ab_goto (tgt := 264) d_MO_escape_250 (by decide) ?_
                              refine ab_putf (fs := mof m_thrown m_taped m_length m_out m_wide m_gathered m_sets m_ranges m_nodes (m_at + 2) m_flags m_fault m_place m_numbered m_depth m_value m_isNot m_least0 m_most0 m_slot m_work m_got m_rowMany m_charAt m_charWide m_trail m_isMatch m_matchGroups m_allFrom m_allBefore m_founds m_pieces m_writtenMany m_templateWide m_tooMuch) f_MO_307 (Or.inl rfl) d_MO_escape_264 h80.2.2 (Nat.le_of_ble_eq_true rfl) (fun _ => ⟨rfl, rfl⟩) (h80.2.1 (by decide)) ?_
                              obtain ⟨G113, eG113⟩ : ∃ z : ab_G, z = List.set G4 80 (ab_ob 12 (mof m_thrown m_taped m_length m_out m_wide m_gathered m_sets m_ranges m_nodes (m_at + 2) m_flags m_fault m_place m_numbered m_depth 1 m_isNot m_least0 m_most0 m_slot m_work m_got m_rowMany m_charAt m_charWide m_trail m_isMatch m_matchGroups m_allFrom m_allBefore m_founds m_pieces m_writtenMany m_templateWide m_tooMuch)) := ⟨_, rfl⟩
                              have h84 := h84.keep h80 eG113 (by decide)
                              have hlen := (z_len eG113).trans hlen
                              have hsl := (z_sl h80 eG113 rfl).trans hsl
                              have hfr := hfr.wr h80 eG113 (by decide)
                              have h80 := h80.kept eG113
                              change ab_W _ _ _ (List.set G4 80 (ab_ob 12 (mof m_thrown m_taped m_length m_out m_wide m_gathered m_sets m_ranges m_nodes (m_at + 2) m_flags m_fault m_place m_numbered m_depth 1 m_isNot m_least0 m_most0 m_slot m_work m_got m_rowMany m_charAt m_charWide m_trail m_isMatch m_matchGroups m_allFrom m_allBefore m_founds m_pieces m_writtenMany m_templateWide m_tooMuch))) 267 [some (vR 80), some (vz ic), some (vz m_at), some (vz (A_tape (m_at + 1))), none] [] _
                              rw [← eG113]
                              refine zz_iconst d_MO_escape_267 ?_
                              refine zz_iret rfl d_MO_escape_268 ?_
                              rw [hQ]; exact (Or.inr (Or.inr (Or.inr (Or.inl ⟨_, rfl, hfr, hlen, hsl, h80, (by omega)⟩))))
                            · replace c110 : nzq (A_tape (m_at + 1)) 122 := c110
                              refine ab_iload_n d_MO_escape_220 rfl ?_
                              refine zz_bipush d_MO_escape_221 (by decide) ?_
                              refine zz_icmp_eq (tgt := 232) d_MO_escape_223 (by decide) (by omega) (by decide) (fun c114 => ?_) (fun c114 => ?_)
                              · refine ab_aload_n d_MO_escape_232 rfl ?_
                                refine ab_iload_n d_MO_escape_233 rfl ?_
                                refine zz_bipush d_MO_escape_234 (by decide) ?_
                                refine zz_icmp_ne (tgt := 243) d_MO_escape_236 (by decide) (by omega) (by decide) (fun c115 => ?_) (fun c115 => absurd c115 (by omega))
                                refine ab_iload_n d_MO_escape_243 rfl ?_
                                refine zz_bipush d_MO_escape_244 (by decide) ?_
                                refine zz_icmp_ne (tgt := 253) d_MO_escape_246 (by decide) (by omega) (by decide) (fun c116 => ?_) (fun c116 => absurd c116 (by omega))
                                refine ab_iload_n d_MO_escape_253 rfl ?_
                                refine zz_bipush d_MO_escape_254 (by decide) ?_
                                refine zz_icmp_ne (tgt := 263) d_MO_escape_256 (by decide) (by omega) (by decide) (fun c117 => absurd c117 (by omega)) (fun c117 => ?_)
                                refine zz_iconst d_MO_escape_259 ?_
                                refine ab_goto (tgt := 264) d_MO_escape_260 (by decide) ?_
                                refine ab_putf (fs := mof m_thrown m_taped m_length m_out m_wide m_gathered m_sets m_ranges m_nodes (m_at + 2) m_flags m_fault m_place m_numbered m_depth m_value m_isNot m_least0 m_most0 m_slot m_work m_got m_rowMany m_charAt m_charWide m_trail m_isMatch m_matchGroups m_allFrom m_allBefore m_founds m_pieces m_writtenMany m_templateWide m_tooMuch) f_MO_307 (Or.inl rfl) d_MO_escape_264 h80.2.2 (Nat.le_of_ble_eq_true rfl) (fun _ => ⟨rfl, rfl⟩) (h80.2.1 (by decide)) ?_
                                obtain ⟨G118, eG118⟩ : ∃ z : ab_G, z = List.set G4 80 (ab_ob 12 (mof m_thrown m_taped m_length m_out m_wide m_gathered m_sets m_ranges m_nodes (m_at + 2) m_flags m_fault m_place m_numbered m_depth 2 m_isNot m_least0 m_most0 m_slot m_work m_got m_rowMany m_charAt m_charWide m_trail m_isMatch m_matchGroups m_allFrom m_allBefore m_founds m_pieces m_writtenMany m_templateWide m_tooMuch)) := ⟨_, rfl⟩
                                have h84 := h84.keep h80 eG118 (by decide)
                                have hlen := (z_len eG118).trans hlen
                                have hsl := (z_sl h80 eG118 rfl).trans hsl
                                have hfr := hfr.wr h80 eG118 (by decide)
                                have h80 := h80.kept eG118
                                change ab_W _ _ _ (List.set G4 80 (ab_ob 12 (mof m_thrown m_taped m_length m_out m_wide m_gathered m_sets m_ranges m_nodes (m_at + 2) m_flags m_fault m_place m_numbered m_depth 2 m_isNot m_least0 m_most0 m_slot m_work m_got m_rowMany m_charAt m_charWide m_trail m_isMatch m_matchGroups m_allFrom m_allBefore m_founds m_pieces m_writtenMany m_templateWide m_tooMuch))) 267 [some (vR 80), some (vz ic), some (vz m_at), some (vz (A_tape (m_at + 1))), none] [] _
                                rw [← eG118]
                                refine zz_iconst d_MO_escape_267 ?_
                                refine zz_iret rfl d_MO_escape_268 ?_
                                rw [hQ]; exact (Or.inr (Or.inr (Or.inr (Or.inl ⟨_, rfl, hfr, hlen, hsl, h80, (by omega)⟩))))
                              · replace c114 : nzq (A_tape (m_at + 1)) 98 := c114
                                refine ab_iload_n d_MO_escape_226 rfl ?_
                                refine zz_bipush d_MO_escape_227 (by decide) ?_
                                refine zz_icmp_ne (tgt := 269) d_MO_escape_229 (by decide) (by omega) (by decide) (fun c119 => ?_) (fun c119 => ?_)
                                · replace c119 : nzq (A_tape (m_at + 1)) 66 := c119
                                  refine ab_iload_n d_MO_escape_269 rfl ?_
                                  refine zz_if_ne (tgt := 281) d_MO_escape_270 (by decide) (by omega) (fun c120 => absurd c120 (by omega)) (fun c120 => ?_)
                                  refine ab_iload_n d_MO_escape_273 rfl ?_
                                  refine zz_bipush d_MO_escape_274 (by decide) ?_
                                  refine zz_icmp_ne (tgt := 281) d_MO_escape_276 (by decide) (by omega) (by decide) (fun c121 => ?_) (fun c121 => ?_)
                                  · replace c121 : nzq (A_tape (m_at + 1)) 67 := c121
                                    refine ab_iload_n d_MO_escape_281 rfl ?_
                                    refine zz_if_lt (tgt := 298) d_MO_escape_282 (by decide) (by omega) (fun c122 => absurd c122 (by omega)) (fun c122 => ?_)
                                    refine ab_iload_n d_MO_escape_285 rfl ?_
                                    refine zz_bipush d_MO_escape_286 (by decide) ?_
                                    refine zz_icmp_gt (tgt := 298) d_MO_escape_288 (by decide) (by omega) (by decide) (fun c123 => ?_) (fun c123 => ?_)
                                    · refine ab_aload_n d_MO_escape_298 rfl ?_
                                      refine zz_iconst d_MO_escape_299 ?_
                                      refine ab_iload_n d_MO_escape_300 rfl ?_
                                      refine ab_callV (d' := d - 1) (as := [vz 5, vz m_at]) (st := []) (r := _) (z_MO_wrong (o := o) (m_thrown := m_thrown) (m_taped := m_taped) (m_length := m_length) (m_out := m_out) (m_wide := m_wide) (m_gathered := m_gathered) (m_sets := m_sets) (m_ranges := m_ranges) (m_nodes := m_nodes) (m_at := (m_at + 2)) (m_flags := m_flags) (m_fault := m_fault) (m_place := m_place) (m_numbered := m_numbered) (m_depth := m_depth) (m_value := m_value) (m_isNot := m_isNot) (m_least0 := m_least0) (m_most0 := m_most0) (m_slot := m_slot) (m_work := m_work) (m_got := m_got) (m_rowMany := m_rowMany) (m_charAt := m_charAt) (m_charWide := m_charWide) (m_trail := m_trail) (m_isMatch := m_isMatch) (m_matchGroups := m_matchGroups) (m_allFrom := m_allFrom) (m_allBefore := m_allBefore) (m_founds := m_founds) (m_pieces := m_pieces) (m_writtenMany := m_writtenMany) (m_templateWide := m_templateWide) (m_tooMuch := m_tooMuch) (x := 5) (y := m_at) h80 (by omega) (by omega)) (fun oc G2 h => by rcases h with ⟨_, _, h, _⟩ <;> exact ⟨_, h⟩) (by omega) m_MO_wrong ml_MO_304 im_MO_wrong se_MO_wrong c_MO h80.2.2 (Nat.le_of_ble_eq_true rfl) d_MO_escape_301 rfl ?_
                                      intro v G124 hq
                                      rcases hq with ⟨f2125, p2126, hv, hfk, hlk, hsk, hN80, hq127⟩
                                      cases hv
                                      have h84 := hfk.get h84 (by decide)
                                      have hfr := hfr.tr hfk (by decide)
                                      have hlen := hlk.trans hlen
                                      have hsl := hsk.trans hsl
                                      have h80 := hN80
                                      change ab_W _ _ _ G124 304 [some (vR 80), some (vz ic), some (vz m_at), some (vz (A_tape (m_at + 1))), none] [] _
                                      refine zz_iconst d_MO_escape_304 ?_
                                      refine zz_iret rfl d_MO_escape_305 ?_
                                      rw [hQ]; exact (Or.inl ⟨_, _, _, rfl, hfr, hlen, hsl, h80, (by omega)⟩)
                                    · refine ab_iload_n d_MO_escape_291 rfl ?_
                                      refine ab_callS (d' := d - 1) (as := [vz (A_tape (m_at + 1))]) (st := []) (z_MO_isWord (o := o) (x := (A_tape (m_at + 1))) (by omega)) (fun oc G2 h => by rcases h with ⟨h, _⟩ | ⟨h, _⟩ <;> exact ⟨_, h⟩) (by omega) m_MO_isWord ml_MO_326 st_MO_isWord (Nat.le_of_ble_eq_true rfl) d_MO_escape_292 rfl ?_
                                      intro v G128 hq
                                      rcases hq with ⟨hv, hGe, hq129⟩ | ⟨hv, hGe, hq130⟩
                                      · cases hv
                                        rw [hGe]
                                        change ab_W _ _ _ G4 295 [some (vR 80), some (vz ic), some (vz m_at), some (vz (A_tape (m_at + 1))), none] [vz 1] _
                                        refine zz_if_eq (tgt := 306) d_MO_escape_295 (by decide) (by decide) (fun c131 => absurd c131 (by decide)) (fun c131 => ?_)
                                        refine ab_aload_n d_MO_escape_298 rfl ?_
                                        refine zz_iconst d_MO_escape_299 ?_
                                        refine ab_iload_n d_MO_escape_300 rfl ?_
                                        refine ab_callV (d' := d - 1) (as := [vz 5, vz m_at]) (st := []) (r := _) (z_MO_wrong (o := o) (m_thrown := m_thrown) (m_taped := m_taped) (m_length := m_length) (m_out := m_out) (m_wide := m_wide) (m_gathered := m_gathered) (m_sets := m_sets) (m_ranges := m_ranges) (m_nodes := m_nodes) (m_at := (m_at + 2)) (m_flags := m_flags) (m_fault := m_fault) (m_place := m_place) (m_numbered := m_numbered) (m_depth := m_depth) (m_value := m_value) (m_isNot := m_isNot) (m_least0 := m_least0) (m_most0 := m_most0) (m_slot := m_slot) (m_work := m_work) (m_got := m_got) (m_rowMany := m_rowMany) (m_charAt := m_charAt) (m_charWide := m_charWide) (m_trail := m_trail) (m_isMatch := m_isMatch) (m_matchGroups := m_matchGroups) (m_allFrom := m_allFrom) (m_allBefore := m_allBefore) (m_founds := m_founds) (m_pieces := m_pieces) (m_writtenMany := m_writtenMany) (m_templateWide := m_templateWide) (m_tooMuch := m_tooMuch) (x := 5) (y := m_at) h80 (by omega) (by omega)) (fun oc G2 h => by rcases h with ⟨_, _, h, _⟩ <;> exact ⟨_, h⟩) (by omega) m_MO_wrong ml_MO_304 im_MO_wrong se_MO_wrong c_MO h80.2.2 (Nat.le_of_ble_eq_true rfl) d_MO_escape_301 rfl ?_
                                        intro v G132 hq
                                        rcases hq with ⟨f2133, p2134, hv, hfk, hlk, hsk, hN80, hq135⟩
                                        cases hv
                                        have h84 := hfk.get h84 (by decide)
                                        have hfr := hfr.tr hfk (by decide)
                                        have hlen := hlk.trans hlen
                                        have hsl := hsk.trans hsl
                                        have h80 := hN80
                                        change ab_W _ _ _ G132 304 [some (vR 80), some (vz ic), some (vz m_at), some (vz (A_tape (m_at + 1))), none] [] _
                                        refine zz_iconst d_MO_escape_304 ?_
                                        refine zz_iret rfl d_MO_escape_305 ?_
                                        rw [hQ]; exact (Or.inl ⟨_, _, _, rfl, hfr, hlen, hsl, h80, (by omega)⟩)
                                      · cases hv
                                        rw [hGe]
                                        change ab_W _ _ _ G4 295 [some (vR 80), some (vz ic), some (vz m_at), some (vz (A_tape (m_at + 1))), none] [vz 0] _
                                        refine zz_if_eq (tgt := 306) d_MO_escape_295 (by decide) (by decide) (fun c136 => ?_) (fun c136 => absurd c136 (by decide))
                                        refine ab_aload_n d_MO_escape_306 rfl ?_
                                        refine ab_iload_n d_MO_escape_307 rfl ?_
                                        refine ab_putf (fs := mof m_thrown m_taped m_length m_out m_wide m_gathered m_sets m_ranges m_nodes (m_at + 2) m_flags m_fault m_place m_numbered m_depth m_value m_isNot m_least0 m_most0 m_slot m_work m_got m_rowMany m_charAt m_charWide m_trail m_isMatch m_matchGroups m_allFrom m_allBefore m_founds m_pieces m_writtenMany m_templateWide m_tooMuch) f_MO_307 (Or.inl rfl) d_MO_escape_308 h80.2.2 (Nat.le_of_ble_eq_true rfl) (fun _ => ⟨rfl, rfl⟩) (h80.2.1 (by decide)) ?_
                                        obtain ⟨G137, eG137⟩ : ∃ z : ab_G, z = List.set G4 80 (ab_ob 12 (mof m_thrown m_taped m_length m_out m_wide m_gathered m_sets m_ranges m_nodes (m_at + 2) m_flags m_fault m_place m_numbered m_depth (A_tape (m_at + 1)) m_isNot m_least0 m_most0 m_slot m_work m_got m_rowMany m_charAt m_charWide m_trail m_isMatch m_matchGroups m_allFrom m_allBefore m_founds m_pieces m_writtenMany m_templateWide m_tooMuch)) := ⟨_, rfl⟩
                                        have h84 := h84.keep h80 eG137 (by decide)
                                        have hlen := (z_len eG137).trans hlen
                                        have hsl := (z_sl h80 eG137 rfl).trans hsl
                                        have hfr := hfr.wr h80 eG137 (by decide)
                                        have h80 := h80.kept eG137
                                        change ab_W _ _ _ (List.set G4 80 (ab_ob 12 (mof m_thrown m_taped m_length m_out m_wide m_gathered m_sets m_ranges m_nodes (m_at + 2) m_flags m_fault m_place m_numbered m_depth (A_tape (m_at + 1)) m_isNot m_least0 m_most0 m_slot m_work m_got m_rowMany m_charAt m_charWide m_trail m_isMatch m_matchGroups m_allFrom m_allBefore m_founds m_pieces m_writtenMany m_templateWide m_tooMuch))) 311 [some (vR 80), some (vz ic), some (vz m_at), some (vz (A_tape (m_at + 1))), none] [] _
                                        rw [← eG137]
                                        refine zz_iconst d_MO_escape_311 ?_
                                        refine zz_iret rfl d_MO_escape_312 ?_
                                        rw [hQ]; exact (Or.inr (Or.inl ⟨_, _, rfl, hfr, hlen, hsl, h80, (by omega)⟩))
                                  · refine zz_iconst d_MO_escape_279 ?_
                                    refine zz_iret rfl d_MO_escape_280 ?_
                                    rw [hQ]; exact (Or.inr (Or.inr (Or.inr (Or.inr ⟨rfl, hfr, hlen, hsl, h80, (by omega)⟩))))
                                · refine ab_aload_n d_MO_escape_232 rfl ?_
                                  refine ab_iload_n d_MO_escape_233 rfl ?_
                                  refine zz_bipush d_MO_escape_234 (by decide) ?_
                                  refine zz_icmp_ne (tgt := 243) d_MO_escape_236 (by decide) (by omega) (by decide) (fun c138 => ?_) (fun c138 => absurd c138 (by omega))
                                  refine ab_iload_n d_MO_escape_243 rfl ?_
                                  refine zz_bipush d_MO_escape_244 (by decide) ?_
                                  refine zz_icmp_ne (tgt := 253) d_MO_escape_246 (by decide) (by omega) (by decide) (fun c139 => ?_) (fun c139 => absurd c139 (by omega))
                                  refine ab_iload_n d_MO_escape_253 rfl ?_
                                  refine zz_bipush d_MO_escape_254 (by decide) ?_
                                  refine zz_icmp_ne (tgt := 263) d_MO_escape_256 (by decide) (by omega) (by decide) (fun c140 => ?_) (fun c140 => absurd c140 (by omega))
                                  refine zz_iconst d_MO_escape_263 ?_
                                  refine ab_putf (fs := mof m_thrown m_taped m_length m_out m_wide m_gathered m_sets m_ranges m_nodes (m_at + 2) m_flags m_fault m_place m_numbered m_depth m_value m_isNot m_least0 m_most0 m_slot m_work m_got m_rowMany m_charAt m_charWide m_trail m_isMatch m_matchGroups m_allFrom m_allBefore m_founds m_pieces m_writtenMany m_templateWide m_tooMuch) f_MO_307 (Or.inl rfl) d_MO_escape_264 h80.2.2 (Nat.le_of_ble_eq_true rfl) (fun _ => ⟨rfl, rfl⟩) (h80.2.1 (by decide)) ?_
                                  obtain ⟨G141, eG141⟩ : ∃ z : ab_G, z = List.set G4 80 (ab_ob 12 (mof m_thrown m_taped m_length m_out m_wide m_gathered m_sets m_ranges m_nodes (m_at + 2) m_flags m_fault m_place m_numbered m_depth 3 m_isNot m_least0 m_most0 m_slot m_work m_got m_rowMany m_charAt m_charWide m_trail m_isMatch m_matchGroups m_allFrom m_allBefore m_founds m_pieces m_writtenMany m_templateWide m_tooMuch)) := ⟨_, rfl⟩
                                  have h84 := h84.keep h80 eG141 (by decide)
                                  have hlen := (z_len eG141).trans hlen
                                  have hsl := (z_sl h80 eG141 rfl).trans hsl
                                  have hfr := hfr.wr h80 eG141 (by decide)
                                  have h80 := h80.kept eG141
                                  change ab_W _ _ _ (List.set G4 80 (ab_ob 12 (mof m_thrown m_taped m_length m_out m_wide m_gathered m_sets m_ranges m_nodes (m_at + 2) m_flags m_fault m_place m_numbered m_depth 3 m_isNot m_least0 m_most0 m_slot m_work m_got m_rowMany m_charAt m_charWide m_trail m_isMatch m_matchGroups m_allFrom m_allBefore m_founds m_pieces m_writtenMany m_templateWide m_tooMuch))) 267 [some (vR 80), some (vz ic), some (vz m_at), some (vz (A_tape (m_at + 1))), none] [] _
                                  rw [← eG141]
                                  refine zz_iconst d_MO_escape_267 ?_
                                  refine zz_iret rfl d_MO_escape_268 ?_
                                  rw [hQ]; exact (Or.inr (Or.inr (Or.inr (Or.inl ⟨_, rfl, hfr, hlen, hsl, h80, (by omega)⟩))))
                      · refine ab_aload_n d_MO_escape_123 rfl ?_
                        refine zz_iconst d_MO_escape_124 ?_
                        refine ab_callV (d' := d - 1) (as := [vz 0]) (st := []) (r := _) (z_MO_here (o := o) (m_thrown := m_thrown) (m_taped := m_taped) (m_length := m_length) (m_out := m_out) (m_wide := m_wide) (m_gathered := m_gathered) (m_sets := m_sets) (m_ranges := m_ranges) (m_nodes := m_nodes) (m_at := (m_at + 2)) (m_flags := m_flags) (m_fault := m_fault) (m_place := m_place) (m_numbered := m_numbered) (m_depth := m_depth) (m_value := m_value) (m_isNot := m_isNot) (m_least0 := m_least0) (m_most0 := m_most0) (m_slot := m_slot) (m_work := m_work) (m_got := m_got) (m_rowMany := m_rowMany) (m_charAt := m_charAt) (m_charWide := m_charWide) (m_trail := m_trail) (m_isMatch := m_isMatch) (m_matchGroups := m_matchGroups) (m_allFrom := m_allFrom) (m_allBefore := m_allBefore) (m_founds := m_founds) (m_pieces := m_pieces) (m_writtenMany := m_writtenMany) (m_templateWide := m_templateWide) (m_tooMuch := m_tooMuch) (A_tape := A_tape) (k := 0) h80 h84 (by omega) (by omega) jtp (by omega)) (fun oc G2 h => by rcases h with ⟨h, _⟩ | ⟨h, _⟩ <;> exact ⟨_, h⟩) (by omega) m_MO_here ml_MO_297 im_MO_here se_MO_here c_MO h80.2.2 (Nat.le_of_ble_eq_true rfl) d_MO_escape_125 rfl ?_
                        intro v G142 hq
                        rcases hq with ⟨hv, hGe, hq143⟩ | ⟨hv, hGe, hq144⟩
                        · cases hv
                          rw [hGe]
                          change ab_W _ _ _ G4 128 [some (vR 80), some (vz ic), some (vz m_at), some (vz (A_tape (m_at + 1))), none] [vz (A_tape ((m_at + 2) + 0))] _
                          refine ab_istore d_MO_escape_128 (Nat.le_of_ble_eq_true rfl) (Nat.le_of_ble_eq_true rfl) rfl ?_
                          change ab_W _ _ _ G4 130 [some (vR 80), some (vz ic), some (vz m_at), some (vz (A_tape (m_at + 1))), some (vz (A_tape ((m_at + 2) + 0)))] [] _
                          refine ab_iload d_MO_escape_130 rfl ?_
                          refine zz_if_ge (tgt := 144) d_MO_escape_132 (by decide) (by omega) (fun c145 => ?_) (fun c145 => absurd c145 (by omega))
                          refine ab_iload d_MO_escape_144 rfl ?_
                          refine ab_callS (d' := d - 1) (as := [vz (A_tape ((m_at + 2) + 0))]) (st := []) (z_MO_whichLetter (o := o) (c := (A_tape ((m_at + 2) + 0))) (by omega)) (fun oc G2 h => by rcases h with ⟨h, _⟩ <;> exact ⟨_, h⟩) (by omega) m_MO_whichLetter ml_MO_323 st_MO_whichLetter (Nat.le_of_ble_eq_true rfl) d_MO_escape_146 rfl ?_
                          intro v G146 hq
                          rcases hq with ⟨hv, hGe, hq147⟩
                          cases hv
                          rw [hGe]
                          change ab_W _ _ _ G4 149 [some (vR 80), some (vz ic), some (vz m_at), some (vz (A_tape (m_at + 1))), some (vz (A_tape ((m_at + 2) + 0)))] [vz (wlf (A_tape ((m_at + 2) + 0)))] _
                          refine zz_if_ge (tgt := 159) d_MO_escape_149 (by decide) (by omega) (fun c148 => ?_) (fun c148 => ?_)
                          · refine ab_aload_n d_MO_escape_159 rfl ?_
                            refine ab_getf (fs := mof m_thrown m_taped m_length m_out m_wide m_gathered m_sets m_ranges m_nodes (m_at + 2) m_flags m_fault m_place m_numbered m_depth m_value m_isNot m_least0 m_most0 m_slot m_work m_got m_rowMany m_charAt m_charWide m_trail m_isMatch m_matchGroups m_allFrom m_allBefore m_founds m_pieces m_writtenMany m_templateWide m_tooMuch) f_MO_273 d_MO_escape_160 h80.2.2 rfl ?_
                            refine zz_if_le (tgt := 168) d_MO_escape_163 (by decide) (by omega) (fun c149 => ?_) (fun c149 => absurd c149 (by omega))
                            have hwl_ := wlf_0 (c := (A_tape ((m_at + 2) + 0))) (by omega)
                            refine ab_aload_n d_MO_escape_168 rfl ?_
                            refine ab_iload d_MO_escape_169 rfl ?_
                            refine ab_callS (d' := d - 1) (as := [vz (A_tape ((m_at + 2) + 0))]) (st := [vR 80]) (z_MO_whichLetter (o := o) (c := (A_tape ((m_at + 2) + 0))) (by omega)) (fun oc G2 h => by rcases h with ⟨h, _⟩ <;> exact ⟨_, h⟩) (by omega) m_MO_whichLetter ml_MO_323 st_MO_whichLetter (Nat.le_of_ble_eq_true rfl) d_MO_escape_171 rfl ?_
                            intro v G150 hq
                            rcases hq with ⟨hv, hGe, hq151⟩
                            cases hv
                            rw [hGe]
                            change ab_W _ _ _ G4 174 [some (vR 80), some (vz ic), some (vz m_at), some (vz (A_tape (m_at + 1))), some (vz (A_tape ((m_at + 2) + 0)))] [vz (wlf (A_tape ((m_at + 2) + 0))), vR 80] _
                            refine ab_putf (fs := mof m_thrown m_taped m_length m_out m_wide m_gathered m_sets m_ranges m_nodes (m_at + 2) m_flags m_fault m_place m_numbered m_depth m_value m_isNot m_least0 m_most0 m_slot m_work m_got m_rowMany m_charAt m_charWide m_trail m_isMatch m_matchGroups m_allFrom m_allBefore m_founds m_pieces m_writtenMany m_templateWide m_tooMuch) f_MO_307 (Or.inl rfl) d_MO_escape_174 h80.2.2 (Nat.le_of_ble_eq_true rfl) (fun _ => ⟨rfl, rfl⟩) (h80.2.1 (by decide)) ?_
                            obtain ⟨G152, eG152⟩ : ∃ z : ab_G, z = List.set G4 80 (ab_ob 12 (mof m_thrown m_taped m_length m_out m_wide m_gathered m_sets m_ranges m_nodes (m_at + 2) m_flags m_fault m_place m_numbered m_depth (wlf (A_tape ((m_at + 2) + 0))) m_isNot m_least0 m_most0 m_slot m_work m_got m_rowMany m_charAt m_charWide m_trail m_isMatch m_matchGroups m_allFrom m_allBefore m_founds m_pieces m_writtenMany m_templateWide m_tooMuch)) := ⟨_, rfl⟩
                            have h84 := h84.keep h80 eG152 (by decide)
                            have hlen := (z_len eG152).trans hlen
                            have hsl := (z_sl h80 eG152 rfl).trans hsl
                            have hfr := hfr.wr h80 eG152 (by decide)
                            have h80 := h80.kept eG152
                            change ab_W _ _ _ (List.set G4 80 (ab_ob 12 (mof m_thrown m_taped m_length m_out m_wide m_gathered m_sets m_ranges m_nodes (m_at + 2) m_flags m_fault m_place m_numbered m_depth (wlf (A_tape ((m_at + 2) + 0))) m_isNot m_least0 m_most0 m_slot m_work m_got m_rowMany m_charAt m_charWide m_trail m_isMatch m_matchGroups m_allFrom m_allBefore m_founds m_pieces m_writtenMany m_templateWide m_tooMuch))) 177 [some (vR 80), some (vz ic), some (vz m_at), some (vz (A_tape (m_at + 1))), some (vz (A_tape ((m_at + 2) + 0)))] [] _
                            rw [← eG152]
                            refine ab_aload_n d_MO_escape_177 rfl ?_
                            refine ab_iload_n d_MO_escape_178 rfl ?_
                            refine zz_bipush d_MO_escape_179 (by decide) ?_
                            refine zz_icmp_ne (tgt := 188) d_MO_escape_181 (by decide) (by omega) (by decide) (fun c153 => absurd c153 (by omega)) (fun c153 => ?_)
                            refine zz_iconst d_MO_escape_184 ?_
                            refine ab_goto (tgt := 189) d_MO_escape_185 (by decide) ?_
                            refine ab_putf (fs := mof m_thrown m_taped m_length m_out m_wide m_gathered m_sets m_ranges m_nodes (m_at + 2) m_flags m_fault m_place m_numbered m_depth (wlf (A_tape ((m_at + 2) + 0))) m_isNot m_least0 m_most0 m_slot m_work m_got m_rowMany m_charAt m_charWide m_trail m_isMatch m_matchGroups m_allFrom m_allBefore m_founds m_pieces m_writtenMany m_templateWide m_tooMuch) f_MO_319 (Or.inl rfl) d_MO_escape_189 h80.2.2 (Nat.le_of_ble_eq_true rfl) (ab_fbz (by decide)) (h80.2.1 (by decide)) ?_
                            obtain ⟨G154, eG154⟩ : ∃ z : ab_G, z = List.set G152 80 (ab_ob 12 (mof m_thrown m_taped m_length m_out m_wide m_gathered m_sets m_ranges m_nodes (m_at + 2) m_flags m_fault m_place m_numbered m_depth (wlf (A_tape ((m_at + 2) + 0))) 1 m_least0 m_most0 m_slot m_work m_got m_rowMany m_charAt m_charWide m_trail m_isMatch m_matchGroups m_allFrom m_allBefore m_founds m_pieces m_writtenMany m_templateWide m_tooMuch)) := ⟨_, rfl⟩
                            have h84 := h84.keep h80 eG154 (by decide)
                            have hlen := (z_len eG154).trans hlen
                            have hsl := (z_sl h80 eG154 rfl).trans hsl
                            have hfr := hfr.wr h80 eG154 (by decide)
                            have h80 := h80.kept eG154
                            change ab_W _ _ _ (List.set G152 80 (ab_ob 12 (mof m_thrown m_taped m_length m_out m_wide m_gathered m_sets m_ranges m_nodes (m_at + 2) m_flags m_fault m_place m_numbered m_depth (wlf (A_tape ((m_at + 2) + 0))) 1 m_least0 m_most0 m_slot m_work m_got m_rowMany m_charAt m_charWide m_trail m_isMatch m_matchGroups m_allFrom m_allBefore m_founds m_pieces m_writtenMany m_templateWide m_tooMuch))) 192 [some (vR 80), some (vz ic), some (vz m_at), some (vz (A_tape (m_at + 1))), some (vz (A_tape ((m_at + 2) + 0)))] [] _
                            rw [← eG154]
                            refine ab_aload_n d_MO_escape_192 rfl ?_
                            refine ab_dup d_MO_escape_193 rfl ?_
                            refine ab_getf (fs := mof m_thrown m_taped m_length m_out m_wide m_gathered m_sets m_ranges m_nodes (m_at + 2) m_flags m_fault m_place m_numbered m_depth (wlf (A_tape ((m_at + 2) + 0))) 1 m_least0 m_most0 m_slot m_work m_got m_rowMany m_charAt m_charWide m_trail m_isMatch m_matchGroups m_allFrom m_allBefore m_founds m_pieces m_writtenMany m_templateWide m_tooMuch) f_MO_279 d_MO_escape_194 h80.2.2 rfl ?_
                            refine zz_iconst d_MO_escape_197 ?_
                            refine zz_iadd d_MO_escape_198 ?_
                            refine ab_putf (fs := mof m_thrown m_taped m_length m_out m_wide m_gathered m_sets m_ranges m_nodes (m_at + 2) m_flags m_fault m_place m_numbered m_depth (wlf (A_tape ((m_at + 2) + 0))) 1 m_least0 m_most0 m_slot m_work m_got m_rowMany m_charAt m_charWide m_trail m_isMatch m_matchGroups m_allFrom m_allBefore m_founds m_pieces m_writtenMany m_templateWide m_tooMuch) f_MO_279 (Or.inl rfl) d_MO_escape_199 h80.2.2 (Nat.le_of_ble_eq_true rfl) (fun _ => ⟨rfl, rfl⟩) (h80.2.1 (by decide)) ?_
                            obtain ⟨G155, eG155⟩ : ∃ z : ab_G, z = List.set G154 80 (ab_ob 12 (mof m_thrown m_taped m_length m_out m_wide m_gathered m_sets m_ranges m_nodes ((m_at + 2) + 1) m_flags m_fault m_place m_numbered m_depth (wlf (A_tape ((m_at + 2) + 0))) 1 m_least0 m_most0 m_slot m_work m_got m_rowMany m_charAt m_charWide m_trail m_isMatch m_matchGroups m_allFrom m_allBefore m_founds m_pieces m_writtenMany m_templateWide m_tooMuch)) := ⟨_, rfl⟩
                            have h84 := h84.keep h80 eG155 (by decide)
                            have hlen := (z_len eG155).trans hlen
                            have hsl := (z_sl h80 eG155 rfl).trans hsl
                            have hfr := hfr.wr h80 eG155 (by decide)
                            have h80 := h80.kept eG155
                            change ab_W _ _ _ (List.set G154 80 (ab_ob 12 (mof m_thrown m_taped m_length m_out m_wide m_gathered m_sets m_ranges m_nodes ((m_at + 2) + 1) m_flags m_fault m_place m_numbered m_depth (wlf (A_tape ((m_at + 2) + 0))) 1 m_least0 m_most0 m_slot m_work m_got m_rowMany m_charAt m_charWide m_trail m_isMatch m_matchGroups m_allFrom m_allBefore m_founds m_pieces m_writtenMany m_templateWide m_tooMuch))) 202 [some (vR 80), some (vz ic), some (vz m_at), some (vz (A_tape (m_at + 1))), some (vz (A_tape ((m_at + 2) + 0)))] [] _
                            rw [← eG155]
                            refine zz_iconst d_MO_escape_202 ?_
                            refine zz_iret rfl d_MO_escape_203 ?_
                            rw [hQ]; exact (Or.inr (Or.inr (Or.inl ⟨_, _, _, rfl, hfr, hlen, hsl, h80, (by omega)⟩)))
                          · refine ab_aload_n d_MO_escape_152 rfl ?_
                            refine zz_bipush d_MO_escape_153 (by decide) ?_
                            refine ab_iload_n d_MO_escape_155 rfl ?_
                            refine ab_callV (d' := d - 1) (as := [vz 7, vz m_at]) (st := []) (r := _) (z_MO_wrong (o := o) (m_thrown := m_thrown) (m_taped := m_taped) (m_length := m_length) (m_out := m_out) (m_wide := m_wide) (m_gathered := m_gathered) (m_sets := m_sets) (m_ranges := m_ranges) (m_nodes := m_nodes) (m_at := (m_at + 2)) (m_flags := m_flags) (m_fault := m_fault) (m_place := m_place) (m_numbered := m_numbered) (m_depth := m_depth) (m_value := m_value) (m_isNot := m_isNot) (m_least0 := m_least0) (m_most0 := m_most0) (m_slot := m_slot) (m_work := m_work) (m_got := m_got) (m_rowMany := m_rowMany) (m_charAt := m_charAt) (m_charWide := m_charWide) (m_trail := m_trail) (m_isMatch := m_isMatch) (m_matchGroups := m_matchGroups) (m_allFrom := m_allFrom) (m_allBefore := m_allBefore) (m_founds := m_founds) (m_pieces := m_pieces) (m_writtenMany := m_writtenMany) (m_templateWide := m_templateWide) (m_tooMuch := m_tooMuch) (x := 7) (y := m_at) h80 (by omega) (by omega)) (fun oc G2 h => by rcases h with ⟨_, _, h, _⟩ <;> exact ⟨_, h⟩) (by omega) m_MO_wrong ml_MO_304 im_MO_wrong se_MO_wrong c_MO h80.2.2 (Nat.le_of_ble_eq_true rfl) d_MO_escape_156 rfl ?_
                            intro v G156 hq
                            rcases hq with ⟨f2157, p2158, hv, hfk, hlk, hsk, hN80, hq159⟩
                            cases hv
                            have h84 := hfk.get h84 (by decide)
                            have hfr := hfr.tr hfk (by decide)
                            have hlen := hlk.trans hlen
                            have hsl := hsk.trans hsl
                            have h80 := hN80
                            change ab_W _ _ _ G156 159 [some (vR 80), some (vz ic), some (vz m_at), some (vz (A_tape (m_at + 1))), some (vz (A_tape ((m_at + 2) + 0)))] [] _
                            refine ab_aload_n d_MO_escape_159 rfl ?_
                            refine ab_getf (fs := mof m_thrown m_taped m_length m_out m_wide m_gathered m_sets m_ranges m_nodes (m_at + 2) m_flags f2157 p2158 m_numbered m_depth m_value m_isNot m_least0 m_most0 m_slot m_work m_got m_rowMany m_charAt m_charWide m_trail m_isMatch m_matchGroups m_allFrom m_allBefore m_founds m_pieces m_writtenMany m_templateWide m_tooMuch) f_MO_273 d_MO_escape_160 h80.2.2 rfl ?_
                            refine zz_if_le (tgt := 168) d_MO_escape_163 (by decide) (by omega) (fun c160 => absurd c160 (by omega)) (fun c160 => ?_)
                            refine zz_iconst d_MO_escape_166 ?_
                            refine zz_iret rfl d_MO_escape_167 ?_
                            rw [hQ]; exact (Or.inl ⟨_, _, _, rfl, hfr, hlen, hsl, h80, (by omega)⟩)
                        · cases hv
                          rw [hGe]
                          change ab_W _ _ _ G4 128 [some (vR 80), some (vz ic), some (vz m_at), some (vz (A_tape (m_at + 1))), none] [vz (-1)] _
                          refine ab_istore d_MO_escape_128 (Nat.le_of_ble_eq_true rfl) (Nat.le_of_ble_eq_true rfl) rfl ?_
                          change ab_W _ _ _ G4 130 [some (vR 80), some (vz ic), some (vz m_at), some (vz (A_tape (m_at + 1))), some (vz (-1))] [] _
                          refine ab_iload d_MO_escape_130 rfl ?_
                          refine zz_if_ge (tgt := 144) d_MO_escape_132 (by decide) (by decide) (fun c161 => absurd c161 (by decide)) (fun c161 => ?_)
                          refine ab_aload_n d_MO_escape_135 rfl ?_
                          refine zz_iconst d_MO_escape_136 ?_
                          refine ab_iload_n d_MO_escape_137 rfl ?_
                          refine ab_callV (d' := d - 1) (as := [vz 5, vz m_at]) (st := []) (r := _) (z_MO_wrong (o := o) (m_thrown := m_thrown) (m_taped := m_taped) (m_length := m_length) (m_out := m_out) (m_wide := m_wide) (m_gathered := m_gathered) (m_sets := m_sets) (m_ranges := m_ranges) (m_nodes := m_nodes) (m_at := (m_at + 2)) (m_flags := m_flags) (m_fault := m_fault) (m_place := m_place) (m_numbered := m_numbered) (m_depth := m_depth) (m_value := m_value) (m_isNot := m_isNot) (m_least0 := m_least0) (m_most0 := m_most0) (m_slot := m_slot) (m_work := m_work) (m_got := m_got) (m_rowMany := m_rowMany) (m_charAt := m_charAt) (m_charWide := m_charWide) (m_trail := m_trail) (m_isMatch := m_isMatch) (m_matchGroups := m_matchGroups) (m_allFrom := m_allFrom) (m_allBefore := m_allBefore) (m_founds := m_founds) (m_pieces := m_pieces) (m_writtenMany := m_writtenMany) (m_templateWide := m_templateWide) (m_tooMuch := m_tooMuch) (x := 5) (y := m_at) h80 (by omega) (by omega)) (fun oc G2 h => by rcases h with ⟨_, _, h, _⟩ <;> exact ⟨_, h⟩) (by omega) m_MO_wrong ml_MO_304 im_MO_wrong se_MO_wrong c_MO h80.2.2 (Nat.le_of_ble_eq_true rfl) d_MO_escape_138 rfl ?_
                          intro v G162 hq
                          rcases hq with ⟨f2163, p2164, hv, hfk, hlk, hsk, hN80, hq165⟩
                          cases hv
                          have h84 := hfk.get h84 (by decide)
                          have hfr := hfr.tr hfk (by decide)
                          have hlen := hlk.trans hlen
                          have hsl := hsk.trans hsl
                          have h80 := hN80
                          change ab_W _ _ _ G162 141 [some (vR 80), some (vz ic), some (vz m_at), some (vz (A_tape (m_at + 1))), some (vz (-1))] [] _
                          refine ab_goto (tgt := 159) d_MO_escape_141 (by decide) ?_
                          refine ab_aload_n d_MO_escape_159 rfl ?_
                          refine ab_getf (fs := mof m_thrown m_taped m_length m_out m_wide m_gathered m_sets m_ranges m_nodes (m_at + 2) m_flags f2163 p2164 m_numbered m_depth m_value m_isNot m_least0 m_most0 m_slot m_work m_got m_rowMany m_charAt m_charWide m_trail m_isMatch m_matchGroups m_allFrom m_allBefore m_founds m_pieces m_writtenMany m_templateWide m_tooMuch) f_MO_273 d_MO_escape_160 h80.2.2 rfl ?_
                          refine zz_if_le (tgt := 168) d_MO_escape_163 (by decide) (by omega) (fun c166 => absurd c166 (by omega)) (fun c166 => ?_)
                          refine zz_iconst d_MO_escape_166 ?_
                          refine zz_iret rfl d_MO_escape_167 ?_
                          rw [hQ]; exact (Or.inl ⟨_, _, _, rfl, hfr, hlen, hsl, h80, (by omega)⟩)
                  · refine ab_aload_n d_MO_escape_86 rfl ?_
                    refine ab_iload_n d_MO_escape_87 rfl ?_
                    refine ab_callS (d' := d - 1) (as := [vz (A_tape (m_at + 1))]) (st := [vR 80]) (z_MO_whichSet (o := o) (c := (A_tape (m_at + 1))) (by omega)) (fun oc G2 h => by rcases h with ⟨_, h, _⟩ <;> exact ⟨_, h⟩) (by omega) m_MO_whichSet ml_MO_316 st_MO_whichSet (Nat.le_of_ble_eq_true rfl) d_MO_escape_88 rfl ?_
                    intro v G167 hq
                    rcases hq with ⟨v168, hv, hGe, hq169⟩
                    cases hv
                    rw [hGe]
                    change ab_W _ _ _ G4 91 [some (vR 80), some (vz ic), some (vz m_at), some (vz (A_tape (m_at + 1))), none] [vz v168, vR 80] _
                    refine ab_putf (fs := mof m_thrown m_taped m_length m_out m_wide m_gathered m_sets m_ranges m_nodes (m_at + 2) m_flags m_fault m_place m_numbered m_depth m_value m_isNot m_least0 m_most0 m_slot m_work m_got m_rowMany m_charAt m_charWide m_trail m_isMatch m_matchGroups m_allFrom m_allBefore m_founds m_pieces m_writtenMany m_templateWide m_tooMuch) f_MO_307 (Or.inl rfl) d_MO_escape_91 h80.2.2 (Nat.le_of_ble_eq_true rfl) (fun _ => ⟨rfl, rfl⟩) (h80.2.1 (by decide)) ?_
                    obtain ⟨G170, eG170⟩ : ∃ z : ab_G, z = List.set G4 80 (ab_ob 12 (mof m_thrown m_taped m_length m_out m_wide m_gathered m_sets m_ranges m_nodes (m_at + 2) m_flags m_fault m_place m_numbered m_depth v168 m_isNot m_least0 m_most0 m_slot m_work m_got m_rowMany m_charAt m_charWide m_trail m_isMatch m_matchGroups m_allFrom m_allBefore m_founds m_pieces m_writtenMany m_templateWide m_tooMuch)) := ⟨_, rfl⟩
                    have h84 := h84.keep h80 eG170 (by decide)
                    have hlen := (z_len eG170).trans hlen
                    have hsl := (z_sl h80 eG170 rfl).trans hsl
                    have hfr := hfr.wr h80 eG170 (by decide)
                    have h80 := h80.kept eG170
                    change ab_W _ _ _ (List.set G4 80 (ab_ob 12 (mof m_thrown m_taped m_length m_out m_wide m_gathered m_sets m_ranges m_nodes (m_at + 2) m_flags m_fault m_place m_numbered m_depth v168 m_isNot m_least0 m_most0 m_slot m_work m_got m_rowMany m_charAt m_charWide m_trail m_isMatch m_matchGroups m_allFrom m_allBefore m_founds m_pieces m_writtenMany m_templateWide m_tooMuch))) 94 [some (vR 80), some (vz ic), some (vz m_at), some (vz (A_tape (m_at + 1))), none] [] _
                    rw [← eG170]
                    refine ab_aload_n d_MO_escape_94 rfl ?_
                    refine ab_iload_n d_MO_escape_95 rfl ?_
                    refine zz_bipush d_MO_escape_96 (by decide) ?_
                    refine zz_icmp_ge (tgt := 105) d_MO_escape_98 (by decide) (by omega) (by decide) (fun c171 => absurd c171 (by omega)) (fun c171 => ?_)
                    refine zz_iconst d_MO_escape_101 ?_
                    refine ab_goto (tgt := 106) d_MO_escape_102 (by decide) ?_
                    refine ab_putf (fs := mof m_thrown m_taped m_length m_out m_wide m_gathered m_sets m_ranges m_nodes (m_at + 2) m_flags m_fault m_place m_numbered m_depth v168 m_isNot m_least0 m_most0 m_slot m_work m_got m_rowMany m_charAt m_charWide m_trail m_isMatch m_matchGroups m_allFrom m_allBefore m_founds m_pieces m_writtenMany m_templateWide m_tooMuch) f_MO_319 (Or.inl rfl) d_MO_escape_106 h80.2.2 (Nat.le_of_ble_eq_true rfl) (ab_fbz (by decide)) (h80.2.1 (by decide)) ?_
                    obtain ⟨G172, eG172⟩ : ∃ z : ab_G, z = List.set G170 80 (ab_ob 12 (mof m_thrown m_taped m_length m_out m_wide m_gathered m_sets m_ranges m_nodes (m_at + 2) m_flags m_fault m_place m_numbered m_depth v168 1 m_least0 m_most0 m_slot m_work m_got m_rowMany m_charAt m_charWide m_trail m_isMatch m_matchGroups m_allFrom m_allBefore m_founds m_pieces m_writtenMany m_templateWide m_tooMuch)) := ⟨_, rfl⟩
                    have h84 := h84.keep h80 eG172 (by decide)
                    have hlen := (z_len eG172).trans hlen
                    have hsl := (z_sl h80 eG172 rfl).trans hsl
                    have hfr := hfr.wr h80 eG172 (by decide)
                    have h80 := h80.kept eG172
                    change ab_W _ _ _ (List.set G170 80 (ab_ob 12 (mof m_thrown m_taped m_length m_out m_wide m_gathered m_sets m_ranges m_nodes (m_at + 2) m_flags m_fault m_place m_numbered m_depth v168 1 m_least0 m_most0 m_slot m_work m_got m_rowMany m_charAt m_charWide m_trail m_isMatch m_matchGroups m_allFrom m_allBefore m_founds m_pieces m_writtenMany m_templateWide m_tooMuch))) 109 [some (vR 80), some (vz ic), some (vz m_at), some (vz (A_tape (m_at + 1))), none] [] _
                    rw [← eG172]
                    refine zz_iconst d_MO_escape_109 ?_
                    refine zz_iret rfl d_MO_escape_110 ?_
                    rw [hQ]; exact (Or.inr (Or.inr (Or.inl ⟨_, _, _, rfl, hfr, hlen, hsl, h80, (by omega)⟩)))
      · have hct_ := ctf_0 (c := (A_tape (m_at + 1))) (by omega)
        refine ab_aload_n d_MO_escape_40 rfl ?_
        refine ab_iload_n d_MO_escape_41 rfl ?_
        refine ab_callS (d' := d - 1) (as := [vz (A_tape (m_at + 1))]) (st := [vR 80]) (z_MO_control (o := o) (c := (A_tape (m_at + 1))) (by omega)) (fun oc G2 h => by rcases h with ⟨h, _⟩ <;> exact ⟨_, h⟩) (by omega) m_MO_control ml_MO_313 st_MO_control (Nat.le_of_ble_eq_true rfl) d_MO_escape_42 rfl ?_
        intro v G173 hq
        rcases hq with ⟨hv, hGe, hq174⟩
        cases hv
        rw [hGe]
        change ab_W _ _ _ G4 45 [some (vR 80), some (vz ic), some (vz m_at), some (vz (A_tape (m_at + 1))), none] [vz (ctf (A_tape (m_at + 1))), vR 80] _
        refine ab_putf (fs := mof m_thrown m_taped m_length m_out m_wide m_gathered m_sets m_ranges m_nodes (m_at + 2) m_flags m_fault m_place m_numbered m_depth m_value m_isNot m_least0 m_most0 m_slot m_work m_got m_rowMany m_charAt m_charWide m_trail m_isMatch m_matchGroups m_allFrom m_allBefore m_founds m_pieces m_writtenMany m_templateWide m_tooMuch) f_MO_307 (Or.inl rfl) d_MO_escape_45 h80.2.2 (Nat.le_of_ble_eq_true rfl) (fun _ => ⟨rfl, rfl⟩) (h80.2.1 (by decide)) ?_
        obtain ⟨G175, eG175⟩ : ∃ z : ab_G, z = List.set G4 80 (ab_ob 12 (mof m_thrown m_taped m_length m_out m_wide m_gathered m_sets m_ranges m_nodes (m_at + 2) m_flags m_fault m_place m_numbered m_depth (ctf (A_tape (m_at + 1))) m_isNot m_least0 m_most0 m_slot m_work m_got m_rowMany m_charAt m_charWide m_trail m_isMatch m_matchGroups m_allFrom m_allBefore m_founds m_pieces m_writtenMany m_templateWide m_tooMuch)) := ⟨_, rfl⟩
        have h84 := h84.keep h80 eG175 (by decide)
        have hlen := (z_len eG175).trans hlen
        have hsl := (z_sl h80 eG175 rfl).trans hsl
        have hfr := hfr.wr h80 eG175 (by decide)
        have h80 := h80.kept eG175
        change ab_W _ _ _ (List.set G4 80 (ab_ob 12 (mof m_thrown m_taped m_length m_out m_wide m_gathered m_sets m_ranges m_nodes (m_at + 2) m_flags m_fault m_place m_numbered m_depth (ctf (A_tape (m_at + 1))) m_isNot m_least0 m_most0 m_slot m_work m_got m_rowMany m_charAt m_charWide m_trail m_isMatch m_matchGroups m_allFrom m_allBefore m_founds m_pieces m_writtenMany m_templateWide m_tooMuch))) 48 [some (vR 80), some (vz ic), some (vz m_at), some (vz (A_tape (m_at + 1))), none] [] _
        rw [← eG175]
        refine zz_iconst d_MO_escape_48 ?_
        refine zz_iret rfl d_MO_escape_49 ?_
        rw [hQ]; exact (Or.inr (Or.inl ⟨_, _, rfl, hfr, hlen, hsl, h80, (by omega)⟩))
    · refine ab_aload_n d_MO_escape_27 rfl ?_
      refine ab_iload_n d_MO_escape_28 rfl ?_
      refine ab_callV (d' := d - 1) (as := [vz m_at]) (st := []) (r := _) (z_MO_hexadecimal (o := o) (m_thrown := m_thrown) (m_taped := m_taped) (m_length := m_length) (m_out := m_out) (m_wide := m_wide) (m_gathered := m_gathered) (m_sets := m_sets) (m_ranges := m_ranges) (m_nodes := m_nodes) (m_at := (m_at + 2)) (m_flags := m_flags) (m_fault := m_fault) (m_place := m_place) (m_numbered := m_numbered) (m_depth := m_depth) (m_value := m_value) (m_isNot := m_isNot) (m_least0 := m_least0) (m_most0 := m_most0) (m_slot := m_slot) (m_work := m_work) (m_got := m_got) (m_rowMany := m_rowMany) (m_charAt := m_charAt) (m_charWide := m_charWide) (m_trail := m_trail) (m_isMatch := m_isMatch) (m_matchGroups := m_matchGroups) (m_allFrom := m_allFrom) (m_allBefore := m_allBefore) (m_founds := m_founds) (m_pieces := m_pieces) (m_writtenMany := m_writtenMany) (m_templateWide := m_templateWide) (m_tooMuch := m_tooMuch) (A_tape := A_tape) (wh := m_at) h80 h84 (by omega) (by omega) jtp (by omega) (by omega) (by omega) (by omega)) (fun oc G2 h => by rcases h with ⟨_, _, _, h, _⟩ | ⟨_, _, h, _⟩ <;> exact ⟨_, h⟩) (by omega) m_MO_hexadecimal ml_MO_310 im_MO_hexadecimal se_MO_hexadecimal c_MO h80.2.2 (Nat.le_of_ble_eq_true rfl) d_MO_escape_29 rfl ?_
      intro v G176 hq
      rcases hq with ⟨a2177, f2178, p2179, hv, hfk, hlk, hsk, hN80, hq180⟩ | ⟨a2181, v2182, hv, hfk, hlk, hsk, hN80, hq183⟩
      · cases hv
        have h84 := hfk.get h84 (by decide)
        have hfr := hfr.tr hfk (by decide)
        have hlen := hlk.trans hlen
        have hsl := hsk.trans hsl
        have h80 := hN80
        change ab_W _ _ _ G176 32 [some (vR 80), some (vz ic), some (vz m_at), some (vz (A_tape (m_at + 1))), none] [vz (-1)] _
        refine zz_iret rfl d_MO_escape_32 ?_
        rw [hQ]; exact (Or.inl ⟨_, _, _, rfl, hfr, hlen, hsl, h80, (by omega)⟩)
      · cases hv
        have h84 := hfk.get h84 (by decide)
        have hfr := hfr.tr hfk (by decide)
        have hlen := hlk.trans hlen
        have hsl := hsk.trans hsl
        have h80 := hN80
        change ab_W _ _ _ G176 32 [some (vR 80), some (vz ic), some (vz m_at), some (vz (A_tape (m_at + 1))), none] [vz 0] _
        refine zz_iret rfl d_MO_escape_32 ?_
        rw [hQ]; exact (Or.inr (Or.inl ⟨_, _, rfl, hfr, hlen, hsl, h80, (by omega)⟩))
  · cases hv
    rw [hGe]
    change ab_W _ _ _ G 10 [some (vR 80), some (vz ic), some (vz m_at), none, none] [vz (-1)] _
    refine ab_istore_n d_MO_escape_10 (Nat.le_of_ble_eq_true rfl) (Nat.le_of_ble_eq_true rfl) rfl ?_
    change ab_W _ _ _ G 11 [some (vR 80), some (vz ic), some (vz m_at), some (vz (-1)), none] [] _
    refine ab_aload_n d_MO_escape_11 rfl ?_
    refine ab_dup d_MO_escape_12 rfl ?_
    refine ab_getf (fs := mof m_thrown m_taped m_length m_out m_wide m_gathered m_sets m_ranges m_nodes m_at m_flags m_fault m_place m_numbered m_depth m_value m_isNot m_least0 m_most0 m_slot m_work m_got m_rowMany m_charAt m_charWide m_trail m_isMatch m_matchGroups m_allFrom m_allBefore m_founds m_pieces m_writtenMany m_templateWide m_tooMuch) f_MO_279 d_MO_escape_13 h80.2.2 rfl ?_
    refine zz_iconst d_MO_escape_16 ?_
    refine zz_iadd d_MO_escape_17 ?_
    refine ab_putf (fs := mof m_thrown m_taped m_length m_out m_wide m_gathered m_sets m_ranges m_nodes m_at m_flags m_fault m_place m_numbered m_depth m_value m_isNot m_least0 m_most0 m_slot m_work m_got m_rowMany m_charAt m_charWide m_trail m_isMatch m_matchGroups m_allFrom m_allBefore m_founds m_pieces m_writtenMany m_templateWide m_tooMuch) f_MO_279 (Or.inl rfl) d_MO_escape_18 h80.2.2 (Nat.le_of_ble_eq_true rfl) (fun _ => ⟨rfl, rfl⟩) (h80.2.1 (by decide)) ?_
    obtain ⟨G184, eG184⟩ : ∃ z : ab_G, z = List.set G 80 (ab_ob 12 (mof m_thrown m_taped m_length m_out m_wide m_gathered m_sets m_ranges m_nodes (m_at + 2) m_flags m_fault m_place m_numbered m_depth m_value m_isNot m_least0 m_most0 m_slot m_work m_got m_rowMany m_charAt m_charWide m_trail m_isMatch m_matchGroups m_allFrom m_allBefore m_founds m_pieces m_writtenMany m_templateWide m_tooMuch)) := ⟨_, rfl⟩
    have h84 := h84.keep h80 eG184 (by decide)
    have hlen := (z_len eG184).trans hlen
    have hsl := (z_sl h80 eG184 rfl).trans hsl
    have hfr := hfr.wr h80 eG184 (by decide)
    have h80 := h80.kept eG184
    change ab_W _ _ _ (List.set G 80 (ab_ob 12 (mof m_thrown m_taped m_length m_out m_wide m_gathered m_sets m_ranges m_nodes (m_at + 2) m_flags m_fault m_place m_numbered m_depth m_value m_isNot m_least0 m_most0 m_slot m_work m_got m_rowMany m_charAt m_charWide m_trail m_isMatch m_matchGroups m_allFrom m_allBefore m_founds m_pieces m_writtenMany m_templateWide m_tooMuch))) 21 [some (vR 80), some (vz ic), some (vz m_at), some (vz (-1)), none] [] _
    rw [← eG184]
    refine ab_iload_n d_MO_escape_21 rfl ?_
    refine zz_bipush d_MO_escape_22 (by decide) ?_
    refine zz_icmp_ne (tgt := 33) d_MO_escape_24 (by decide) (by decide) (by decide) (fun c185 => ?_) (fun c185 => absurd c185 (by decide))
    refine ab_iload_n d_MO_escape_33 rfl ?_
    refine ab_callS (d' := d - 1) (as := [vz (-1)]) (st := []) (z_MO_control (o := o) (c := (-1)) (by omega)) (fun oc G2 h => by rcases h with ⟨h, _⟩ <;> exact ⟨_, h⟩) (by omega) m_MO_control ml_MO_313 st_MO_control (Nat.le_of_ble_eq_true rfl) d_MO_escape_34 rfl ?_
    intro v G186 hq
    rcases hq with ⟨hv, hGe, hq187⟩
    cases hv
    rw [hGe]
    change ab_W _ _ _ G184 37 [some (vR 80), some (vz ic), some (vz m_at), some (vz (-1)), none] [vz (ctf (-1))] _
    refine zz_if_lt (tgt := 50) d_MO_escape_37 (by decide) (by omega) (fun c188 => ?_) (fun c188 => ?_)
    · refine ab_iload_n d_MO_escape_50 rfl ?_
      refine zz_bipush d_MO_escape_51 (by decide) ?_
      refine zz_icmp_eq (tgt := 86) d_MO_escape_53 (by decide) (by decide) (by decide) (fun c189 => absurd c189 (by decide)) (fun c189 => ?_)
      refine ab_iload_n d_MO_escape_56 rfl ?_
      refine zz_bipush d_MO_escape_57 (by decide) ?_
      refine zz_icmp_eq (tgt := 86) d_MO_escape_59 (by decide) (by decide) (by decide) (fun c190 => absurd c190 (by decide)) (fun c190 => ?_)
      refine ab_iload_n d_MO_escape_62 rfl ?_
      refine zz_bipush d_MO_escape_63 (by decide) ?_
      refine zz_icmp_eq (tgt := 86) d_MO_escape_65 (by decide) (by decide) (by decide) (fun c191 => absurd c191 (by decide)) (fun c191 => ?_)
      refine ab_iload_n d_MO_escape_68 rfl ?_
      refine zz_bipush d_MO_escape_69 (by decide) ?_
      refine zz_icmp_eq (tgt := 86) d_MO_escape_71 (by decide) (by decide) (by decide) (fun c192 => absurd c192 (by decide)) (fun c192 => ?_)
      refine ab_iload_n d_MO_escape_74 rfl ?_
      refine zz_bipush d_MO_escape_75 (by decide) ?_
      refine zz_icmp_eq (tgt := 86) d_MO_escape_77 (by decide) (by decide) (by decide) (fun c193 => absurd c193 (by decide)) (fun c193 => ?_)
      refine ab_iload_n d_MO_escape_80 rfl ?_
      refine zz_bipush d_MO_escape_81 (by decide) ?_
      refine zz_icmp_ne (tgt := 111) d_MO_escape_83 (by decide) (by decide) (by decide) (fun c194 => ?_) (fun c194 => absurd c194 (by decide))
      refine ab_iload_n d_MO_escape_111 rfl ?_
      refine zz_bipush d_MO_escape_112 (by decide) ?_
      refine zz_icmp_eq (tgt := 123) d_MO_escape_114 (by decide) (by decide) (by decide) (fun c195 => absurd c195 (by decide)) (fun c195 => ?_)
      refine ab_iload_n d_MO_escape_117 rfl ?_
      refine zz_bipush d_MO_escape_118 (by decide) ?_
      refine zz_icmp_ne (tgt := 204) d_MO_escape_120 (by decide) (by decide) (by decide) (fun c196 => ?_) (fun c196 => absurd c196 (by decide))
      refine ab_iload_n d_MO_escape_204 rfl ?_
      refine zz_if_ne (tgt := 269) d_MO_escape_205 (by decide) (by omega) (fun c197 => ?_) (fun c197 => ?_)
      · replace c197 : nzq ic 0 := c197
        refine ab_iload_n d_MO_escape_269 rfl ?_
        refine zz_if_ne (tgt := 281) d_MO_escape_270 (by decide) (by omega) (fun c198 => ?_) (fun c198 => ?_)
        · replace c198 : nzq ic 0 := c198
          refine ab_iload_n d_MO_escape_281 rfl ?_
          refine zz_if_lt (tgt := 298) d_MO_escape_282 (by decide) (by decide) (fun c199 => ?_) (fun c199 => absurd c199 (by decide))
          refine ab_aload_n d_MO_escape_298 rfl ?_
          refine zz_iconst d_MO_escape_299 ?_
          refine ab_iload_n d_MO_escape_300 rfl ?_
          refine ab_callV (d' := d - 1) (as := [vz 5, vz m_at]) (st := []) (r := _) (z_MO_wrong (o := o) (m_thrown := m_thrown) (m_taped := m_taped) (m_length := m_length) (m_out := m_out) (m_wide := m_wide) (m_gathered := m_gathered) (m_sets := m_sets) (m_ranges := m_ranges) (m_nodes := m_nodes) (m_at := (m_at + 2)) (m_flags := m_flags) (m_fault := m_fault) (m_place := m_place) (m_numbered := m_numbered) (m_depth := m_depth) (m_value := m_value) (m_isNot := m_isNot) (m_least0 := m_least0) (m_most0 := m_most0) (m_slot := m_slot) (m_work := m_work) (m_got := m_got) (m_rowMany := m_rowMany) (m_charAt := m_charAt) (m_charWide := m_charWide) (m_trail := m_trail) (m_isMatch := m_isMatch) (m_matchGroups := m_matchGroups) (m_allFrom := m_allFrom) (m_allBefore := m_allBefore) (m_founds := m_founds) (m_pieces := m_pieces) (m_writtenMany := m_writtenMany) (m_templateWide := m_templateWide) (m_tooMuch := m_tooMuch) (x := 5) (y := m_at) h80 (by omega) (by omega)) (fun oc G2 h => by rcases h with ⟨_, _, h, _⟩ <;> exact ⟨_, h⟩) (by omega) m_MO_wrong ml_MO_304 im_MO_wrong se_MO_wrong c_MO h80.2.2 (Nat.le_of_ble_eq_true rfl) d_MO_escape_301 rfl ?_
          intro v G200 hq
          rcases hq with ⟨f2201, p2202, hv, hfk, hlk, hsk, hN80, hq203⟩
          cases hv
          have h84 := hfk.get h84 (by decide)
          have hfr := hfr.tr hfk (by decide)
          have hlen := hlk.trans hlen
          have hsl := hsk.trans hsl
          have h80 := hN80
          change ab_W _ _ _ G200 304 [some (vR 80), some (vz ic), some (vz m_at), some (vz (-1)), none] [] _
          refine zz_iconst d_MO_escape_304 ?_
          refine zz_iret rfl d_MO_escape_305 ?_
          rw [hQ]; exact (Or.inl ⟨_, _, _, rfl, hfr, hlen, hsl, h80, (by omega)⟩)
        · refine ab_iload_n d_MO_escape_273 rfl ?_
          refine zz_bipush d_MO_escape_274 (by decide) ?_
          refine zz_icmp_ne (tgt := 281) d_MO_escape_276 (by decide) (by decide) (by decide) (fun c204 => ?_) (fun c204 => absurd c204 (by decide))
          refine ab_iload_n d_MO_escape_281 rfl ?_
          refine zz_if_lt (tgt := 298) d_MO_escape_282 (by decide) (by decide) (fun c205 => ?_) (fun c205 => absurd c205 (by decide))
          refine ab_aload_n d_MO_escape_298 rfl ?_
          refine zz_iconst d_MO_escape_299 ?_
          refine ab_iload_n d_MO_escape_300 rfl ?_
          refine ab_callV (d' := d - 1) (as := [vz 5, vz m_at]) (st := []) (r := _) (z_MO_wrong (o := o) (m_thrown := m_thrown) (m_taped := m_taped) (m_length := m_length) (m_out := m_out) (m_wide := m_wide) (m_gathered := m_gathered) (m_sets := m_sets) (m_ranges := m_ranges) (m_nodes := m_nodes) (m_at := (m_at + 2)) (m_flags := m_flags) (m_fault := m_fault) (m_place := m_place) (m_numbered := m_numbered) (m_depth := m_depth) (m_value := m_value) (m_isNot := m_isNot) (m_least0 := m_least0) (m_most0 := m_most0) (m_slot := m_slot) (m_work := m_work) (m_got := m_got) (m_rowMany := m_rowMany) (m_charAt := m_charAt) (m_charWide := m_charWide) (m_trail := m_trail) (m_isMatch := m_isMatch) (m_matchGroups := m_matchGroups) (m_allFrom := m_allFrom) (m_allBefore := m_allBefore) (m_founds := m_founds) (m_pieces := m_pieces) (m_writtenMany := m_writtenMany) (m_templateWide := m_templateWide) (m_tooMuch := m_tooMuch) (x := 5) (y := m_at) h80 (by omega) (by omega)) (fun oc G2 h => by rcases h with ⟨_, _, h, _⟩ <;> exact ⟨_, h⟩) (by omega) m_MO_wrong ml_MO_304 im_MO_wrong se_MO_wrong c_MO h80.2.2 (Nat.le_of_ble_eq_true rfl) d_MO_escape_301 rfl ?_
          intro v G206 hq
          rcases hq with ⟨f2207, p2208, hv, hfk, hlk, hsk, hN80, hq209⟩
          cases hv
          have h84 := hfk.get h84 (by decide)
          have hfr := hfr.tr hfk (by decide)
          have hlen := hlk.trans hlen
          have hsl := hsk.trans hsl
          have h80 := hN80
          change ab_W _ _ _ G206 304 [some (vR 80), some (vz ic), some (vz m_at), some (vz (-1)), none] [] _
          refine zz_iconst d_MO_escape_304 ?_
          refine zz_iret rfl d_MO_escape_305 ?_
          rw [hQ]; exact (Or.inl ⟨_, _, _, rfl, hfr, hlen, hsl, h80, (by omega)⟩)
      · refine ab_iload_n d_MO_escape_208 rfl ?_
        refine zz_bipush d_MO_escape_209 (by decide) ?_
        refine zz_icmp_eq (tgt := 232) d_MO_escape_211 (by decide) (by decide) (by decide) (fun c210 => absurd c210 (by decide)) (fun c210 => ?_)
        refine ab_iload_n d_MO_escape_214 rfl ?_
        refine zz_bipush d_MO_escape_215 (by decide) ?_
        refine zz_icmp_eq (tgt := 232) d_MO_escape_217 (by decide) (by decide) (by decide) (fun c211 => absurd c211 (by decide)) (fun c211 => ?_)
        refine ab_iload_n d_MO_escape_220 rfl ?_
        refine zz_bipush d_MO_escape_221 (by decide) ?_
        refine zz_icmp_eq (tgt := 232) d_MO_escape_223 (by decide) (by decide) (by decide) (fun c212 => absurd c212 (by decide)) (fun c212 => ?_)
        refine ab_iload_n d_MO_escape_226 rfl ?_
        refine zz_bipush d_MO_escape_227 (by decide) ?_
        refine zz_icmp_ne (tgt := 269) d_MO_escape_229 (by decide) (by decide) (by decide) (fun c213 => ?_) (fun c213 => absurd c213 (by decide))
        refine ab_iload_n d_MO_escape_269 rfl ?_
        refine zz_if_ne (tgt := 281) d_MO_escape_270 (by decide) (by omega) (fun c214 => absurd c214 (by omega)) (fun c214 => ?_)
        refine ab_iload_n d_MO_escape_273 rfl ?_
        refine zz_bipush d_MO_escape_274 (by decide) ?_
        refine zz_icmp_ne (tgt := 281) d_MO_escape_276 (by decide) (by decide) (by decide) (fun c215 => ?_) (fun c215 => absurd c215 (by decide))
        refine ab_iload_n d_MO_escape_281 rfl ?_
        refine zz_if_lt (tgt := 298) d_MO_escape_282 (by decide) (by decide) (fun c216 => ?_) (fun c216 => absurd c216 (by decide))
        refine ab_aload_n d_MO_escape_298 rfl ?_
        refine zz_iconst d_MO_escape_299 ?_
        refine ab_iload_n d_MO_escape_300 rfl ?_
        refine ab_callV (d' := d - 1) (as := [vz 5, vz m_at]) (st := []) (r := _) (z_MO_wrong (o := o) (m_thrown := m_thrown) (m_taped := m_taped) (m_length := m_length) (m_out := m_out) (m_wide := m_wide) (m_gathered := m_gathered) (m_sets := m_sets) (m_ranges := m_ranges) (m_nodes := m_nodes) (m_at := (m_at + 2)) (m_flags := m_flags) (m_fault := m_fault) (m_place := m_place) (m_numbered := m_numbered) (m_depth := m_depth) (m_value := m_value) (m_isNot := m_isNot) (m_least0 := m_least0) (m_most0 := m_most0) (m_slot := m_slot) (m_work := m_work) (m_got := m_got) (m_rowMany := m_rowMany) (m_charAt := m_charAt) (m_charWide := m_charWide) (m_trail := m_trail) (m_isMatch := m_isMatch) (m_matchGroups := m_matchGroups) (m_allFrom := m_allFrom) (m_allBefore := m_allBefore) (m_founds := m_founds) (m_pieces := m_pieces) (m_writtenMany := m_writtenMany) (m_templateWide := m_templateWide) (m_tooMuch := m_tooMuch) (x := 5) (y := m_at) h80 (by omega) (by omega)) (fun oc G2 h => by rcases h with ⟨_, _, h, _⟩ <;> exact ⟨_, h⟩) (by omega) m_MO_wrong ml_MO_304 im_MO_wrong se_MO_wrong c_MO h80.2.2 (Nat.le_of_ble_eq_true rfl) d_MO_escape_301 rfl ?_
        intro v G217 hq
        rcases hq with ⟨f2218, p2219, hv, hfk, hlk, hsk, hN80, hq220⟩
        cases hv
        have h84 := hfk.get h84 (by decide)
        have hfr := hfr.tr hfk (by decide)
        have hlen := hlk.trans hlen
        have hsl := hsk.trans hsl
        have h80 := hN80
        change ab_W _ _ _ G217 304 [some (vR 80), some (vz ic), some (vz m_at), some (vz (-1)), none] [] _
        refine zz_iconst d_MO_escape_304 ?_
        refine zz_iret rfl d_MO_escape_305 ?_
        rw [hQ]; exact (Or.inl ⟨_, _, _, rfl, hfr, hlen, hsl, h80, (by omega)⟩)
    · have hct_ := ctf_0 (c := (-1)) (by omega)
      refine ab_aload_n d_MO_escape_40 rfl ?_
      refine ab_iload_n d_MO_escape_41 rfl ?_
      refine ab_callS (d' := d - 1) (as := [vz (-1)]) (st := [vR 80]) (z_MO_control (o := o) (c := (-1)) (by omega)) (fun oc G2 h => by rcases h with ⟨h, _⟩ <;> exact ⟨_, h⟩) (by omega) m_MO_control ml_MO_313 st_MO_control (Nat.le_of_ble_eq_true rfl) d_MO_escape_42 rfl ?_
      intro v G221 hq
      rcases hq with ⟨hv, hGe, hq222⟩
      cases hv
      rw [hGe]
      change ab_W _ _ _ G184 45 [some (vR 80), some (vz ic), some (vz m_at), some (vz (-1)), none] [vz (ctf (-1)), vR 80] _
      refine ab_putf (fs := mof m_thrown m_taped m_length m_out m_wide m_gathered m_sets m_ranges m_nodes (m_at + 2) m_flags m_fault m_place m_numbered m_depth m_value m_isNot m_least0 m_most0 m_slot m_work m_got m_rowMany m_charAt m_charWide m_trail m_isMatch m_matchGroups m_allFrom m_allBefore m_founds m_pieces m_writtenMany m_templateWide m_tooMuch) f_MO_307 (Or.inl rfl) d_MO_escape_45 h80.2.2 (Nat.le_of_ble_eq_true rfl) (fun _ => ⟨rfl, rfl⟩) (h80.2.1 (by decide)) ?_
      obtain ⟨G223, eG223⟩ : ∃ z : ab_G, z = List.set G184 80 (ab_ob 12 (mof m_thrown m_taped m_length m_out m_wide m_gathered m_sets m_ranges m_nodes (m_at + 2) m_flags m_fault m_place m_numbered m_depth (ctf (-1)) m_isNot m_least0 m_most0 m_slot m_work m_got m_rowMany m_charAt m_charWide m_trail m_isMatch m_matchGroups m_allFrom m_allBefore m_founds m_pieces m_writtenMany m_templateWide m_tooMuch)) := ⟨_, rfl⟩
      have h84 := h84.keep h80 eG223 (by decide)
      have hlen := (z_len eG223).trans hlen
      have hsl := (z_sl h80 eG223 rfl).trans hsl
      have hfr := hfr.wr h80 eG223 (by decide)
      have h80 := h80.kept eG223
      change ab_W _ _ _ (List.set G184 80 (ab_ob 12 (mof m_thrown m_taped m_length m_out m_wide m_gathered m_sets m_ranges m_nodes (m_at + 2) m_flags m_fault m_place m_numbered m_depth (ctf (-1)) m_isNot m_least0 m_most0 m_slot m_work m_got m_rowMany m_charAt m_charWide m_trail m_isMatch m_matchGroups m_allFrom m_allBefore m_founds m_pieces m_writtenMany m_templateWide m_tooMuch))) 48 [some (vR 80), some (vz ic), some (vz m_at), some (vz (-1)), none] [] _
      rw [← eG223]
      refine zz_iconst d_MO_escape_48 ?_
      refine zz_iret rfl d_MO_escape_49 ?_
      rw [hQ]; exact (Or.inr (Or.inl ⟨_, _, rfl, hfr, hlen, hsl, h80, (by omega)⟩))
set_option maxRecDepth 100000 in
set_option maxHeartbeats 4000000 in
theorem z_MO_plain {X : ab_X} {d : Nat} {o : Nat → Nat} {G : ab_G} {m_thrown : Int} {m_taped : Int} {m_length : Int} {m_out : Int} {m_wide : Int} {m_gathered : Int} {m_sets : Int} {m_ranges : Int} {m_nodes : Int} {m_at : Int} {m_flags : Int} {m_fault : Int} {m_place : Int} {m_numbered : Int} {m_depth : Int} {m_value : Int} {m_isNot : Int} {m_least0 : Int} {m_most0 : Int} {m_slot : Int} {m_work : Int} {m_got : Int} {m_rowMany : Int} {m_charAt : Int} {m_charWide : Int} {m_trail : Int} {m_isMatch : Int} {m_matchGroups : Int} {m_allFrom : Int} {m_allBefore : Int} {m_founds : Int} {m_pieces : Int} {m_writtenMany : Int} {m_templateWide : Int} {m_tooMuch : Int} {A_tape : Int → Int} (h80 : cc o G 80 280 (ab_ob 12 (mof m_thrown m_taped m_length m_out m_wide m_gathered m_sets m_ranges m_nodes m_at m_flags m_fault m_place m_numbered m_depth m_value m_isNot m_least0 m_most0 m_slot m_work m_got m_rowMany m_charAt m_charWide m_trail m_isMatch m_matchGroups m_allFrom m_allBefore m_founds m_pieces m_writtenMany m_templateWide m_tooMuch))) (h84 : cc o G 84 284 (za 2000 A_tape)) (n18 : ab_n0 = 18) (cta : 0 ≤ m_taped ∧ m_taped ≤ 2000) (jtp : rgs A_tape 2000 0 255) (cat : 0 ≤ m_at ∧ m_at < m_taped) (cf : m_fault = 0) (hd : 3 ≤ d) : ab_F X d y_MO_plain (.code y_MO_plain b_MO_plain 2 (some (.int))) [vR 80] G (fun oc G2 => (∃ w2 : Int, ∃ f2 : Int, ∃ p2 : Int, oc = .returned (some (vz (-1))) ∧ fx o o [280] G G2 ∧ G2.length = G.length ∧ ab_slots G2 = ab_slots G ∧ cc o G2 80 280 (ab_ob 12 (mof m_thrown m_taped m_length m_out w2 m_gathered m_sets m_ranges m_nodes m_at m_flags f2 p2 m_numbered m_depth m_value m_isNot m_least0 m_most0 m_slot m_work m_got m_rowMany m_charAt m_charWide m_trail m_isMatch m_matchGroups m_allFrom m_allBefore m_founds m_pieces m_writtenMany m_templateWide m_tooMuch)) ∧ (1 ≤ f2 ∧ f2 ≤ 14)) ∨ (∃ v : Int, ∃ w2 : Int, ∃ a2 : Int, oc = .returned (some (vz v)) ∧ fx o o [280] G G2 ∧ G2.length = G.length ∧ ab_slots G2 = ab_slots G ∧ cc o G2 80 280 (ab_ob 12 (mof m_thrown m_taped m_length m_out w2 m_gathered m_sets m_ranges m_nodes a2 m_flags m_fault m_place m_numbered m_depth m_value m_isNot m_least0 m_most0 m_slot m_work m_got m_rowMany m_charAt m_charWide m_trail m_isMatch m_matchGroups m_allFrom m_allBefore m_founds m_pieces m_writtenMany m_templateWide m_tooMuch)) ∧ (0 ≤ v ∧ v ≤ 1114111 ∧ m_at + 1 ≤ a2 ∧ a2 ≤ m_taped))) := by
  refine ab_F_of (by decide +kernel) (Nat.le_of_ble_eq_true rfl) ?_
  obtain ⟨Q, hQ⟩ : ∃ z : Outcome → ab_G → Prop, z = (fun oc G2 => (∃ w2 : Int, ∃ f2 : Int, ∃ p2 : Int, oc = .returned (some (vz (-1))) ∧ fx o o [280] G G2 ∧ G2.length = G.length ∧ ab_slots G2 = ab_slots G ∧ cc o G2 80 280 (ab_ob 12 (mof m_thrown m_taped m_length m_out w2 m_gathered m_sets m_ranges m_nodes m_at m_flags f2 p2 m_numbered m_depth m_value m_isNot m_least0 m_most0 m_slot m_work m_got m_rowMany m_charAt m_charWide m_trail m_isMatch m_matchGroups m_allFrom m_allBefore m_founds m_pieces m_writtenMany m_templateWide m_tooMuch)) ∧ (1 ≤ f2 ∧ f2 ≤ 14)) ∨ (∃ v : Int, ∃ w2 : Int, ∃ a2 : Int, oc = .returned (some (vz v)) ∧ fx o o [280] G G2 ∧ G2.length = G.length ∧ ab_slots G2 = ab_slots G ∧ cc o G2 80 280 (ab_ob 12 (mof m_thrown m_taped m_length m_out w2 m_gathered m_sets m_ranges m_nodes a2 m_flags m_fault m_place m_numbered m_depth m_value m_isNot m_least0 m_most0 m_slot m_work m_got m_rowMany m_charAt m_charWide m_trail m_isMatch m_matchGroups m_allFrom m_allBefore m_founds m_pieces m_writtenMany m_templateWide m_tooMuch)) ∧ (0 ≤ v ∧ v ≤ 1114111 ∧ m_at + 1 ≤ a2 ∧ a2 ≤ m_taped))) := ⟨_, rfl⟩
  rw [← hQ]
  change ab_W X (ab_pl y_MO_plain b_MO_plain 2 (some (.int))) d G 0 [some (vR 80), none] [] Q
  have hfr : fx o o [280] G G := fx.rf
  have hlen : G.length = G.length := rfl
  have hsl : ab_slots G = ab_slots G := rfl
  refine ab_aload_n d_MO_plain_0 rfl ?_
  refine ab_aload_n d_MO_plain_1 rfl ?_
  refine ab_getf (fs := mof m_thrown m_taped m_length m_out m_wide m_gathered m_sets m_ranges m_nodes m_at m_flags m_fault m_place m_numbered m_depth m_value m_isNot m_least0 m_most0 m_slot m_work m_got m_rowMany m_charAt m_charWide m_trail m_isMatch m_matchGroups m_allFrom m_allBefore m_founds m_pieces m_writtenMany m_templateWide m_tooMuch) f_MO_19 d_MO_plain_2 h80.2.2 rfl ?_
  refine ab_aload_n d_MO_plain_5 rfl ?_
  refine ab_getf (fs := mof m_thrown m_taped m_length m_out m_wide m_gathered m_sets m_ranges m_nodes m_at m_flags m_fault m_place m_numbered m_depth m_value m_isNot m_least0 m_most0 m_slot m_work m_got m_rowMany m_charAt m_charWide m_trail m_isMatch m_matchGroups m_allFrom m_allBefore m_founds m_pieces m_writtenMany m_templateWide m_tooMuch) f_MO_223 d_MO_plain_6 h80.2.2 rfl ?_
  refine ab_aload_n d_MO_plain_9 rfl ?_
  refine ab_getf (fs := mof m_thrown m_taped m_length m_out m_wide m_gathered m_sets m_ranges m_nodes m_at m_flags m_fault m_place m_numbered m_depth m_value m_isNot m_least0 m_most0 m_slot m_work m_got m_rowMany m_charAt m_charWide m_trail m_isMatch m_matchGroups m_allFrom m_allBefore m_founds m_pieces m_writtenMany m_templateWide m_tooMuch) f_MO_279 d_MO_plain_10 h80.2.2 rfl ?_
  refine ab_callV (d' := d - 1) (as := [vR 84, vz m_taped, vz m_at]) (st := []) (r := _) (z_MO_character (o := o) (m_thrown := m_thrown) (m_taped := m_taped) (m_length := m_length) (m_out := m_out) (m_wide := m_wide) (m_gathered := m_gathered) (m_sets := m_sets) (m_ranges := m_ranges) (m_nodes := m_nodes) (m_at := m_at) (m_flags := m_flags) (m_fault := m_fault) (m_place := m_place) (m_numbered := m_numbered) (m_depth := m_depth) (m_value := m_value) (m_isNot := m_isNot) (m_least0 := m_least0) (m_most0 := m_most0) (m_slot := m_slot) (m_work := m_work) (m_got := m_got) (m_rowMany := m_rowMany) (m_charAt := m_charAt) (m_charWide := m_charWide) (m_trail := m_trail) (m_isMatch := m_isMatch) (m_matchGroups := m_matchGroups) (m_allFrom := m_allFrom) (m_allBefore := m_allBefore) (m_founds := m_founds) (m_pieces := m_pieces) (m_writtenMany := m_writtenMany) (m_templateWide := m_templateWide) (m_tooMuch := m_tooMuch) (a := 84) (l := 284) (m := 2000) (f := A_tape) (n := m_taped) (p := m_at) h80 h84 (by omega) (by omega) (by omega) jtp (by omega)) (fun oc G2 h => by rcases h with ⟨h, _⟩ | ⟨_, _, h, _⟩ <;> exact ⟨_, h⟩) (by omega) m_MO_character ml_MO_330 im_MO_character se_MO_character c_MO h80.2.2 (Nat.le_of_ble_eq_true rfl) d_MO_plain_13 rfl ?_
  intro v G1 hq
  rcases hq with ⟨hv, hfk, hlk, hsk, hN80, hq2⟩ | ⟨v3, w4, hv, hfk, hlk, hsk, hN80, hq5, hq6⟩
  · cases hv
    have h84 := hfk.get h84 (by decide)
    have hfr := hfr.tr hfk (by decide)
    have hlen := hlk.trans hlen
    have hsl := hsk.trans hsl
    have h80 := hN80
    change ab_W _ _ _ G1 16 [some (vR 80), none] [vz (-1)] _
    refine ab_istore_n d_MO_plain_16 (Nat.le_of_ble_eq_true rfl) (Nat.le_of_ble_eq_true rfl) rfl ?_
    change ab_W _ _ _ G1 17 [some (vR 80), some (vz (-1))] [] _
    refine ab_iload_n d_MO_plain_17 rfl ?_
    refine zz_if_ge (tgt := 33) d_MO_plain_18 (by decide) (by decide) (fun c7 => absurd c7 (by decide)) (fun c7 => ?_)
    refine ab_aload_n d_MO_plain_21 rfl ?_
    refine zz_iconst d_MO_plain_22 ?_
    refine ab_aload_n d_MO_plain_23 rfl ?_
    refine ab_getf (fs := mof m_thrown m_taped m_length m_out 1 m_gathered m_sets m_ranges m_nodes m_at m_flags m_fault m_place m_numbered m_depth m_value m_isNot m_least0 m_most0 m_slot m_work m_got m_rowMany m_charAt m_charWide m_trail m_isMatch m_matchGroups m_allFrom m_allBefore m_founds m_pieces m_writtenMany m_templateWide m_tooMuch) f_MO_279 d_MO_plain_24 h80.2.2 rfl ?_
    refine ab_callV (d' := d - 1) (as := [vz 1, vz m_at]) (st := []) (r := _) (z_MO_wrong (o := o) (m_thrown := m_thrown) (m_taped := m_taped) (m_length := m_length) (m_out := m_out) (m_wide := 1) (m_gathered := m_gathered) (m_sets := m_sets) (m_ranges := m_ranges) (m_nodes := m_nodes) (m_at := m_at) (m_flags := m_flags) (m_fault := m_fault) (m_place := m_place) (m_numbered := m_numbered) (m_depth := m_depth) (m_value := m_value) (m_isNot := m_isNot) (m_least0 := m_least0) (m_most0 := m_most0) (m_slot := m_slot) (m_work := m_work) (m_got := m_got) (m_rowMany := m_rowMany) (m_charAt := m_charAt) (m_charWide := m_charWide) (m_trail := m_trail) (m_isMatch := m_isMatch) (m_matchGroups := m_matchGroups) (m_allFrom := m_allFrom) (m_allBefore := m_allBefore) (m_founds := m_founds) (m_pieces := m_pieces) (m_writtenMany := m_writtenMany) (m_templateWide := m_templateWide) (m_tooMuch := m_tooMuch) (x := 1) (y := m_at) h80 (by omega) (by omega)) (fun oc G2 h => by rcases h with ⟨_, _, h, _⟩ <;> exact ⟨_, h⟩) (by omega) m_MO_wrong ml_MO_304 im_MO_wrong se_MO_wrong c_MO h80.2.2 (Nat.le_of_ble_eq_true rfl) d_MO_plain_27 rfl ?_
    intro v G8 hq
    rcases hq with ⟨f29, p210, hv, hfk, hlk, hsk, hN80, hq11⟩
    cases hv
    have h84 := hfk.get h84 (by decide)
    have hfr := hfr.tr hfk (by decide)
    have hlen := hlk.trans hlen
    have hsl := hsk.trans hsl
    have h80 := hN80
    change ab_W _ _ _ G8 30 [some (vR 80), some (vz (-1))] [] _
    refine ab_goto (tgt := 46) d_MO_plain_30 (by decide) ?_
    refine ab_iload_n d_MO_plain_46 rfl ?_
    refine zz_iret rfl d_MO_plain_47 ?_
    rw [hQ]; exact (Or.inl ⟨_, _, _, rfl, hfr, hlen, hsl, h80, (by omega)⟩)
  · cases hv
    have h84 := hfk.get h84 (by decide)
    have hfr := hfr.tr hfk (by decide)
    have hlen := hlk.trans hlen
    have hsl := hsk.trans hsl
    have h80 := hN80
    change ab_W _ _ _ G1 16 [some (vR 80), none] [vz v3] _
    refine ab_istore_n d_MO_plain_16 (Nat.le_of_ble_eq_true rfl) (Nat.le_of_ble_eq_true rfl) rfl ?_
    change ab_W _ _ _ G1 17 [some (vR 80), some (vz v3)] [] _
    refine ab_iload_n d_MO_plain_17 rfl ?_
    refine zz_if_ge (tgt := 33) d_MO_plain_18 (by decide) (by omega) (fun c12 => ?_) (fun c12 => absurd c12 (by omega))
    refine ab_aload_n d_MO_plain_33 rfl ?_
    refine ab_dup d_MO_plain_34 rfl ?_
    refine ab_getf (fs := mof m_thrown m_taped m_length m_out w4 m_gathered m_sets m_ranges m_nodes m_at m_flags m_fault m_place m_numbered m_depth m_value m_isNot m_least0 m_most0 m_slot m_work m_got m_rowMany m_charAt m_charWide m_trail m_isMatch m_matchGroups m_allFrom m_allBefore m_founds m_pieces m_writtenMany m_templateWide m_tooMuch) f_MO_279 d_MO_plain_35 h80.2.2 rfl ?_
    refine ab_aload_n d_MO_plain_38 rfl ?_
    refine ab_getf (fs := mof m_thrown m_taped m_length m_out w4 m_gathered m_sets m_ranges m_nodes m_at m_flags m_fault m_place m_numbered m_depth m_value m_isNot m_least0 m_most0 m_slot m_work m_got m_rowMany m_charAt m_charWide m_trail m_isMatch m_matchGroups m_allFrom m_allBefore m_founds m_pieces m_writtenMany m_templateWide m_tooMuch) f_MO_226 d_MO_plain_39 h80.2.2 rfl ?_
    refine zz_iadd d_MO_plain_42 ?_
    refine ab_putf (fs := mof m_thrown m_taped m_length m_out w4 m_gathered m_sets m_ranges m_nodes m_at m_flags m_fault m_place m_numbered m_depth m_value m_isNot m_least0 m_most0 m_slot m_work m_got m_rowMany m_charAt m_charWide m_trail m_isMatch m_matchGroups m_allFrom m_allBefore m_founds m_pieces m_writtenMany m_templateWide m_tooMuch) f_MO_279 (Or.inl rfl) d_MO_plain_43 h80.2.2 (Nat.le_of_ble_eq_true rfl) (fun _ => ⟨rfl, rfl⟩) (h80.2.1 (by decide)) ?_
    obtain ⟨G13, eG13⟩ : ∃ z : ab_G, z = List.set G1 80 (ab_ob 12 (mof m_thrown m_taped m_length m_out w4 m_gathered m_sets m_ranges m_nodes (m_at + w4) m_flags m_fault m_place m_numbered m_depth m_value m_isNot m_least0 m_most0 m_slot m_work m_got m_rowMany m_charAt m_charWide m_trail m_isMatch m_matchGroups m_allFrom m_allBefore m_founds m_pieces m_writtenMany m_templateWide m_tooMuch)) := ⟨_, rfl⟩
    have h84 := h84.keep h80 eG13 (by decide)
    have hlen := (z_len eG13).trans hlen
    have hsl := (z_sl h80 eG13 rfl).trans hsl
    have hfr := hfr.wr h80 eG13 (by decide)
    have h80 := h80.kept eG13
    change ab_W _ _ _ (List.set G1 80 (ab_ob 12 (mof m_thrown m_taped m_length m_out w4 m_gathered m_sets m_ranges m_nodes (m_at + w4) m_flags m_fault m_place m_numbered m_depth m_value m_isNot m_least0 m_most0 m_slot m_work m_got m_rowMany m_charAt m_charWide m_trail m_isMatch m_matchGroups m_allFrom m_allBefore m_founds m_pieces m_writtenMany m_templateWide m_tooMuch))) 46 [some (vR 80), some (vz v3)] [] _
    rw [← eG13]
    refine ab_iload_n d_MO_plain_46 rfl ?_
    refine zz_iret rfl d_MO_plain_47 ?_
    rw [hQ]; exact (Or.inr ⟨_, _, _, rfl, hfr, hlen, hsl, h80, (by omega)⟩)
