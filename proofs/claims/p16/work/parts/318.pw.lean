set_option maxRecDepth 100000 in
set_option maxHeartbeats 4000000 in
theorem z_PW_isWord {X : ab_X} {d : Nat} {o : Nat → Nat} {G : ab_G} {x : Int} (cx : -2147483648 ≤ x ∧ x ≤ 2147483647) : ab_F X d y_PW_isWord (.code y_PW_isWord b_PW_isWord 1 (some (.boolean))) [vz x] G (fun oc G2 => (oc = .returned (some (vz 1)) ∧ G2 = G ∧ (isW x)) ∨ (oc = .returned (some (vz 0)) ∧ G2 = G ∧ (¬ isW x))) := by
  refine ab_F_of (by decide +kernel) (Nat.le_of_ble_eq_true rfl) ?_
  obtain ⟨Q, hQ⟩ : ∃ z : Outcome → ab_G → Prop, z = (fun oc G2 => (oc = .returned (some (vz 1)) ∧ G2 = G ∧ (isW x)) ∨ (oc = .returned (some (vz 0)) ∧ G2 = G ∧ (¬ isW x))) := ⟨_, rfl⟩
  rw [← hQ]
  change ab_W X (ab_pl y_PW_isWord b_PW_isWord 1 (some (.boolean))) d G 0 [some (vz x)] [] Q
  have hfr : fx o o [] G G := fx.rf
  have hlen : G.length = G.length := rfl
  have hsl : ab_slots G = ab_slots G := rfl
  refine ab_iload_n d_PW_isWord_0 rfl ?_
  refine zz_bipush d_PW_isWord_1 (by decide) ?_
  refine zz_icmp_lt (tgt := 12) d_PW_isWord_3 (by decide) (by omega) (by decide) (fun c1 => ?_) (fun c1 => ?_)
  · refine ab_iload_n d_PW_isWord_12 rfl ?_
    refine zz_bipush d_PW_isWord_13 (by decide) ?_
    refine zz_icmp_lt (tgt := 24) d_PW_isWord_15 (by decide) (by omega) (by decide) (fun c2 => ?_) (fun c2 => absurd c2 (by omega))
    refine ab_iload_n d_PW_isWord_24 rfl ?_
    refine zz_bipush d_PW_isWord_25 (by decide) ?_
    refine zz_icmp_lt (tgt := 36) d_PW_isWord_27 (by decide) (by omega) (by decide) (fun c3 => ?_) (fun c3 => absurd c3 (by omega))
    refine ab_iload_n d_PW_isWord_36 rfl ?_
    refine zz_bipush d_PW_isWord_37 (by decide) ?_
    refine zz_icmp_ne (tgt := 46) d_PW_isWord_39 (by decide) (by omega) (by decide) (fun c4 => ?_) (fun c4 => absurd c4 (by omega))
    refine zz_iconst d_PW_isWord_46 ?_
    refine zz_bret rfl (by decide) d_PW_isWord_47 ?_
    rw [hQ]; exact (Or.inr ⟨rfl, rfl, (by unfold isW; omega)⟩)
  · refine ab_iload_n d_PW_isWord_6 rfl ?_
    refine zz_bipush d_PW_isWord_7 (by decide) ?_
    refine zz_icmp_le (tgt := 42) d_PW_isWord_9 (by decide) (by omega) (by decide) (fun c5 => ?_) (fun c5 => ?_)
    · refine zz_iconst d_PW_isWord_42 ?_
      refine ab_goto (tgt := 47) d_PW_isWord_43 (by decide) ?_
      refine zz_bret rfl (by decide) d_PW_isWord_47 ?_
      rw [hQ]; exact (Or.inl ⟨rfl, rfl, (by unfold isW; omega)⟩)
    · refine ab_iload_n d_PW_isWord_12 rfl ?_
      refine zz_bipush d_PW_isWord_13 (by decide) ?_
      refine zz_icmp_lt (tgt := 24) d_PW_isWord_15 (by decide) (by omega) (by decide) (fun c6 => ?_) (fun c6 => ?_)
      · refine ab_iload_n d_PW_isWord_24 rfl ?_
        refine zz_bipush d_PW_isWord_25 (by decide) ?_
        refine zz_icmp_lt (tgt := 36) d_PW_isWord_27 (by decide) (by omega) (by decide) (fun c7 => ?_) (fun c7 => absurd c7 (by omega))
        refine ab_iload_n d_PW_isWord_36 rfl ?_
        refine zz_bipush d_PW_isWord_37 (by decide) ?_
        refine zz_icmp_ne (tgt := 46) d_PW_isWord_39 (by decide) (by omega) (by decide) (fun c8 => ?_) (fun c8 => absurd c8 (by omega))
        refine zz_iconst d_PW_isWord_46 ?_
        refine zz_bret rfl (by decide) d_PW_isWord_47 ?_
        rw [hQ]; exact (Or.inr ⟨rfl, rfl, (by unfold isW; omega)⟩)
      · refine ab_iload_n d_PW_isWord_18 rfl ?_
        refine zz_bipush d_PW_isWord_19 (by decide) ?_
        refine zz_icmp_le (tgt := 42) d_PW_isWord_21 (by decide) (by omega) (by decide) (fun c9 => ?_) (fun c9 => ?_)
        · refine zz_iconst d_PW_isWord_42 ?_
          refine ab_goto (tgt := 47) d_PW_isWord_43 (by decide) ?_
          refine zz_bret rfl (by decide) d_PW_isWord_47 ?_
          rw [hQ]; exact (Or.inl ⟨rfl, rfl, (by unfold isW; omega)⟩)
        · refine ab_iload_n d_PW_isWord_24 rfl ?_
          refine zz_bipush d_PW_isWord_25 (by decide) ?_
          refine zz_icmp_lt (tgt := 36) d_PW_isWord_27 (by decide) (by omega) (by decide) (fun c10 => ?_) (fun c10 => ?_)
          · refine ab_iload_n d_PW_isWord_36 rfl ?_
            refine zz_bipush d_PW_isWord_37 (by decide) ?_
            refine zz_icmp_ne (tgt := 46) d_PW_isWord_39 (by decide) (by omega) (by decide) (fun c11 => ?_) (fun c11 => ?_)
            · refine zz_iconst d_PW_isWord_46 ?_
              refine zz_bret rfl (by decide) d_PW_isWord_47 ?_
              rw [hQ]; exact (Or.inr ⟨rfl, rfl, (by unfold isW; omega)⟩)
            · refine zz_iconst d_PW_isWord_42 ?_
              refine ab_goto (tgt := 47) d_PW_isWord_43 (by decide) ?_
              refine zz_bret rfl (by decide) d_PW_isWord_47 ?_
              rw [hQ]; exact (Or.inl ⟨rfl, rfl, (by unfold isW; omega)⟩)
          · refine ab_iload_n d_PW_isWord_30 rfl ?_
            refine zz_bipush d_PW_isWord_31 (by decide) ?_
            refine zz_icmp_le (tgt := 42) d_PW_isWord_33 (by decide) (by omega) (by decide) (fun c12 => ?_) (fun c12 => ?_)
            · refine zz_iconst d_PW_isWord_42 ?_
              refine ab_goto (tgt := 47) d_PW_isWord_43 (by decide) ?_
              refine zz_bret rfl (by decide) d_PW_isWord_47 ?_
              rw [hQ]; exact (Or.inl ⟨rfl, rfl, (by unfold isW; omega)⟩)
            · refine ab_iload_n d_PW_isWord_36 rfl ?_
              refine zz_bipush d_PW_isWord_37 (by decide) ?_
              refine zz_icmp_ne (tgt := 46) d_PW_isWord_39 (by decide) (by omega) (by decide) (fun c13 => ?_) (fun c13 => absurd c13 (by omega))
              refine zz_iconst d_PW_isWord_46 ?_
              refine zz_bret rfl (by decide) d_PW_isWord_47 ?_
              rw [hQ]; exact (Or.inr ⟨rfl, rfl, (by unfold isW; omega)⟩)
set_option maxRecDepth 100000 in
set_option maxHeartbeats 4000000 in
theorem z_PW_isCharacter {X : ab_X} {d : Nat} {o : Nat → Nat} {G : ab_G} {x : Int} (cx : -2147483648 ≤ x ∧ x ≤ 2147483647) : ab_F X d y_PW_isCharacter (.code y_PW_isCharacter b_PW_isCharacter 1 (some (.boolean))) [vz x] G (fun oc G2 => (oc = .returned (some (vz 1)) ∧ G2 = G ∧ (0 ≤ x ∧ x ≤ 1114111 ∧ (x < 55296 ∨ 57343 < x))) ∨ (oc = .returned (some (vz 0)) ∧ G2 = G ∧ (x < 0 ∨ 1114111 < x ∨ (55296 ≤ x ∧ x ≤ 57343)))) := by
  refine ab_F_of (by decide +kernel) (Nat.le_of_ble_eq_true rfl) ?_
  obtain ⟨Q, hQ⟩ : ∃ z : Outcome → ab_G → Prop, z = (fun oc G2 => (oc = .returned (some (vz 1)) ∧ G2 = G ∧ (0 ≤ x ∧ x ≤ 1114111 ∧ (x < 55296 ∨ 57343 < x))) ∨ (oc = .returned (some (vz 0)) ∧ G2 = G ∧ (x < 0 ∨ 1114111 < x ∨ (55296 ≤ x ∧ x ≤ 57343)))) := ⟨_, rfl⟩
  rw [← hQ]
  change ab_W X (ab_pl y_PW_isCharacter b_PW_isCharacter 1 (some (.boolean))) d G 0 [some (vz x)] [] Q
  have hfr : fx o o [] G G := fx.rf
  have hlen : G.length = G.length := rfl
  have hsl : ab_slots G = ab_slots G := rfl
  refine ab_iload_n d_PW_isCharacter_0 rfl ?_
  refine zz_if_lt (tgt := 29) d_PW_isCharacter_1 (by decide) (by omega) (fun c1 => ?_) (fun c1 => ?_)
  · refine zz_iconst d_PW_isCharacter_29 ?_
    refine zz_bret rfl (by decide) d_PW_isCharacter_30 ?_
    rw [hQ]; exact (Or.inr ⟨rfl, rfl, (by omega)⟩)
  · refine ab_iload_n d_PW_isCharacter_4 rfl ?_
    refine zz_ldcw 1114111 d_PW_isCharacter_5 cn_PW_275 (by decide) ?_
    refine zz_icmp_gt (tgt := 29) d_PW_isCharacter_8 (by decide) (by omega) (by decide) (fun c2 => ?_) (fun c2 => ?_)
    · refine zz_iconst d_PW_isCharacter_29 ?_
      refine zz_bret rfl (by decide) d_PW_isCharacter_30 ?_
      rw [hQ]; exact (Or.inr ⟨rfl, rfl, (by omega)⟩)
    · refine ab_iload_n d_PW_isCharacter_11 rfl ?_
      refine zz_ldcw 55296 d_PW_isCharacter_12 cn_PW_276 (by decide) ?_
      refine zz_icmp_lt (tgt := 25) d_PW_isCharacter_15 (by decide) (by omega) (by decide) (fun c3 => ?_) (fun c3 => ?_)
      · refine zz_iconst d_PW_isCharacter_25 ?_
        refine ab_goto (tgt := 30) d_PW_isCharacter_26 (by decide) ?_
        refine zz_bret rfl (by decide) d_PW_isCharacter_30 ?_
        rw [hQ]; exact (Or.inl ⟨rfl, rfl, (by omega)⟩)
      · refine ab_iload_n d_PW_isCharacter_18 rfl ?_
        refine zz_ldcw 57343 d_PW_isCharacter_19 cn_PW_277 (by decide) ?_
        refine zz_icmp_le (tgt := 29) d_PW_isCharacter_22 (by decide) (by omega) (by decide) (fun c4 => ?_) (fun c4 => ?_)
        · refine zz_iconst d_PW_isCharacter_29 ?_
          refine zz_bret rfl (by decide) d_PW_isCharacter_30 ?_
          rw [hQ]; exact (Or.inr ⟨rfl, rfl, (by omega)⟩)
        · refine zz_iconst d_PW_isCharacter_25 ?_
          refine ab_goto (tgt := 30) d_PW_isCharacter_26 (by decide) ?_
          refine zz_bret rfl (by decide) d_PW_isCharacter_30 ?_
          rw [hQ]; exact (Or.inl ⟨rfl, rfl, (by omega)⟩)
set_option maxRecDepth 100000 in
set_option maxHeartbeats 4000000 in
theorem z_PW_widthOf {X : ab_X} {d : Nat} {o : Nat → Nat} {G : ab_G} {x : Int} (cx : -2147483648 ≤ x ∧ x ≤ 2147483647) : ab_F X d y_PW_widthOf (.code y_PW_widthOf b_PW_widthOf 1 (some (.int))) [vz x] G (fun oc G2 => (oc = .returned (some (vz 1)) ∧ G2 = G ∧ (x < 128)) ∨ (oc = .returned (some (vz 2)) ∧ G2 = G ∧ (128 ≤ x ∧ x < 2048)) ∨ (oc = .returned (some (vz 3)) ∧ G2 = G ∧ (2048 ≤ x ∧ x < 65536)) ∨ (oc = .returned (some (vz 4)) ∧ G2 = G ∧ (65536 ≤ x))) := by
  refine ab_F_of (by decide +kernel) (Nat.le_of_ble_eq_true rfl) ?_
  obtain ⟨Q, hQ⟩ : ∃ z : Outcome → ab_G → Prop, z = (fun oc G2 => (oc = .returned (some (vz 1)) ∧ G2 = G ∧ (x < 128)) ∨ (oc = .returned (some (vz 2)) ∧ G2 = G ∧ (128 ≤ x ∧ x < 2048)) ∨ (oc = .returned (some (vz 3)) ∧ G2 = G ∧ (2048 ≤ x ∧ x < 65536)) ∨ (oc = .returned (some (vz 4)) ∧ G2 = G ∧ (65536 ≤ x))) := ⟨_, rfl⟩
  rw [← hQ]
  change ab_W X (ab_pl y_PW_widthOf b_PW_widthOf 1 (some (.int))) d G 0 [some (vz x)] [] Q
  have hfr : fx o o [] G G := fx.rf
  have hlen : G.length = G.length := rfl
  have hsl : ab_slots G = ab_slots G := rfl
  refine ab_iload_n d_PW_widthOf_0 rfl ?_
  refine zz_sipush d_PW_widthOf_1 (by decide) ?_
  refine zz_icmp_ge (tgt := 9) d_PW_widthOf_4 (by decide) (by omega) (by decide) (fun c1 => ?_) (fun c1 => ?_)
  · refine ab_iload_n d_PW_widthOf_9 rfl ?_
    refine zz_sipush d_PW_widthOf_10 (by decide) ?_
    refine zz_icmp_ge (tgt := 18) d_PW_widthOf_13 (by decide) (by omega) (by decide) (fun c2 => ?_) (fun c2 => ?_)
    · refine ab_iload_n d_PW_widthOf_18 rfl ?_
      refine zz_ldcw 65536 d_PW_widthOf_19 cn_PW_278 (by decide) ?_
      refine zz_icmp_ge (tgt := 29) d_PW_widthOf_22 (by decide) (by omega) (by decide) (fun c3 => ?_) (fun c3 => ?_)
      · refine zz_iconst d_PW_widthOf_29 ?_
        refine zz_iret rfl d_PW_widthOf_30 ?_
        rw [hQ]; exact (Or.inr (Or.inr (Or.inr ⟨rfl, rfl, (by omega)⟩)))
      · refine zz_iconst d_PW_widthOf_25 ?_
        refine ab_goto (tgt := 30) d_PW_widthOf_26 (by decide) ?_
        refine zz_iret rfl d_PW_widthOf_30 ?_
        rw [hQ]; exact (Or.inr (Or.inr (Or.inl ⟨rfl, rfl, (by omega)⟩)))
    · refine zz_iconst d_PW_widthOf_16 ?_
      refine zz_iret rfl d_PW_widthOf_17 ?_
      rw [hQ]; exact (Or.inr (Or.inl ⟨rfl, rfl, (by omega)⟩))
  · refine zz_iconst d_PW_widthOf_7 ?_
    refine zz_iret rfl d_PW_widthOf_8 ?_
    rw [hQ]; exact (Or.inl ⟨rfl, rfl, (by omega)⟩)
set_option maxRecDepth 100000 in
set_option maxHeartbeats 4000000 in
theorem z_PW_codeAt {X : ab_X} {d : Nat} {o : Nat → Nat} {G : ab_G} {a : Nat} {l : Nat} {m : Nat} {f : Int → Int} {p : Int} {n : Int} (ha : cc o G a l (za m f)) (c0 : 0 ≤ n ∧ n ≤ ↑m ∧ ↑m ≤ (1000000 : Int) ∧ -1000000 ≤ p ∧ p ≤ 1000000) (hf : ∀ k : Int, 0 ≤ k → k < n → 0 ≤ f k ∧ f k ≤ 255) (hd : 1 ≤ d) : ab_F X d y_PW_codeAt (.code y_PW_codeAt b_PW_codeAt 8 (some (.int))) [vR a, vz p, vz n] G (fun oc G2 => ∃ v : Int, oc = .returned (some (vz v)) ∧ G2 = G ∧ (v = u8 f n p)) := by
  refine ab_F_of (by decide +kernel) (Nat.le_of_ble_eq_true rfl) ?_
  obtain ⟨Q, hQ⟩ : ∃ z : Outcome → ab_G → Prop, z = (fun oc G2 => ∃ v : Int, oc = .returned (some (vz v)) ∧ G2 = G ∧ (v = u8 f n p)) := ⟨_, rfl⟩
  rw [← hQ]
  change ab_W X (ab_pl y_PW_codeAt b_PW_codeAt 8 (some (.int))) d G 0 [some (vR a), some (vz p), some (vz n), none, none, none, none, none] [] Q
  have hfr : fx o o [] G G := fx.rf
  have hlen : G.length = G.length := rfl
  have hsl : ab_slots G = ab_slots G := rfl
  refine ab_iload_n d_PW_codeAt_0 rfl ?_
  refine zz_if_lt (tgt := 15) d_PW_codeAt_1 (by decide) (by omega) (fun c1 => ?_) (fun c1 => ?_)
  · refine zz_iconst d_PW_codeAt_15 ?_
    refine zz_iret rfl d_PW_codeAt_16 ?_
    rw [hQ]; exact ⟨_, rfl, rfl, (by first | (exfalso; omega) | (unfold u8; (repeat' (first | rw [if_pos (by omega)] | rw [if_neg (by omega)]))))⟩
  · refine ab_iload_n d_PW_codeAt_4 rfl ?_
    refine ab_iload_n d_PW_codeAt_5 rfl ?_
    refine zz_icmp_ge (tgt := 15) d_PW_codeAt_6 (by decide) (by omega) (by omega) (fun c2 => ?_) (fun c2 => ?_)
    · refine zz_iconst d_PW_codeAt_15 ?_
      refine zz_iret rfl d_PW_codeAt_16 ?_
      rw [hQ]; exact ⟨_, rfl, rfl, (by first | (exfalso; omega) | (unfold u8; (repeat' (first | rw [if_pos (by omega)] | rw [if_neg (by omega)]))))⟩
    · refine ab_iload_n d_PW_codeAt_9 rfl ?_
      refine ab_aload_n d_PW_codeAt_10 rfl ?_
      refine zz_alen d_PW_codeAt_11 ha ?_
      refine zz_icmp_lt (tgt := 17) d_PW_codeAt_12 (by decide) (by omega) (by omega) (fun c3 => ?_) (fun c3 => absurd c3 (by omega))
      refine ab_aload_n d_PW_codeAt_17 rfl ?_
      refine ab_iload_n d_PW_codeAt_18 rfl ?_
      refine zz_iald d_PW_codeAt_19 ha (by omega) ?_
      have hq4 := hf p (by omega) (by omega)
      refine ab_istore_n d_PW_codeAt_20 (Nat.le_of_ble_eq_true rfl) (Nat.le_of_ble_eq_true rfl) rfl ?_
      change ab_W _ _ _ G 21 [some (vR a), some (vz p), some (vz n), some (vz (f p)), none, none, none, none] [] _
      refine ab_iload_n d_PW_codeAt_21 rfl ?_
      refine zz_sipush d_PW_codeAt_22 (by decide) ?_
      refine zz_icmp_ge (tgt := 30) d_PW_codeAt_25 (by decide) (by omega) (by decide) (fun c5 => ?_) (fun c5 => ?_)
      · refine ab_iload_n d_PW_codeAt_30 rfl ?_
        refine zz_sipush d_PW_codeAt_31 (by decide) ?_
        refine zz_icmp_lt (tgt := 44) d_PW_codeAt_34 (by decide) (by omega) (by decide) (fun c6 => ?_) (fun c6 => ?_)
        · refine zz_iconst d_PW_codeAt_44 ?_
          refine ab_goto (tgt := 71) d_PW_codeAt_45 (by decide) ?_
          refine ab_istore d_PW_codeAt_71 (Nat.le_of_ble_eq_true rfl) (Nat.le_of_ble_eq_true rfl) rfl ?_
          change ab_W _ _ _ G 73 [some (vR a), some (vz p), some (vz n), some (vz (f p)), some (vz 0), none, none, none] [] _
          refine ab_iload d_PW_codeAt_73 rfl ?_
          refine zz_if_eq (tgt := 86) d_PW_codeAt_75 (by decide) (by decide) (fun c7 => ?_) (fun c7 => absurd c7 (by decide))
          refine zz_iconst d_PW_codeAt_86 ?_
          refine zz_iret rfl d_PW_codeAt_87 ?_
          rw [hQ]; exact ⟨_, rfl, rfl, (by first | (exfalso; omega) | (unfold u8; (repeat' (first | rw [if_pos (by omega)] | rw [if_neg (by omega)]))))⟩
        · refine ab_iload_n d_PW_codeAt_37 rfl ?_
          refine zz_sipush d_PW_codeAt_38 (by decide) ?_
          refine zz_icmp_le (tgt := 48) d_PW_codeAt_41 (by decide) (by omega) (by decide) (fun c8 => ?_) (fun c8 => ?_)
          · refine ab_iload_n d_PW_codeAt_48 rfl ?_
            refine zz_sipush d_PW_codeAt_49 (by decide) ?_
            refine zz_icmp_ge (tgt := 59) d_PW_codeAt_52 (by decide) (by omega) (by decide) (fun c9 => ?_) (fun c9 => ?_)
            · refine ab_iload_n d_PW_codeAt_59 rfl ?_
              refine zz_sipush d_PW_codeAt_60 (by decide) ?_
              refine zz_icmp_ge (tgt := 70) d_PW_codeAt_63 (by decide) (by omega) (by decide) (fun c10 => ?_) (fun c10 => ?_)
              · refine zz_iconst d_PW_codeAt_70 ?_
                refine ab_istore d_PW_codeAt_71 (Nat.le_of_ble_eq_true rfl) (Nat.le_of_ble_eq_true rfl) rfl ?_
                change ab_W _ _ _ G 73 [some (vR a), some (vz p), some (vz n), some (vz (f p)), some (vz 4), none, none, none] [] _
                refine ab_iload d_PW_codeAt_73 rfl ?_
                refine zz_if_eq (tgt := 86) d_PW_codeAt_75 (by decide) (by decide) (fun c11 => absurd c11 (by decide)) (fun c11 => ?_)
                refine ab_iload_n d_PW_codeAt_78 rfl ?_
                refine ab_iload d_PW_codeAt_79 rfl ?_
                refine zz_iadd d_PW_codeAt_81 ?_
                refine ab_iload_n d_PW_codeAt_82 rfl ?_
                refine zz_icmp_le (tgt := 88) d_PW_codeAt_83 (by decide) (by omega) (by omega) (fun c12 => ?_) (fun c12 => ?_)
                · refine ab_iload_n d_PW_codeAt_88 rfl ?_
                  refine zz_bipush d_PW_codeAt_89 (by decide) ?_
                  refine ab_iload d_PW_codeAt_91 rfl ?_
                  refine zz_ishr 4 16 d_PW_codeAt_93 (by decide) (by decide) (by decide) (by decide) (by decide) ?_
                  refine zz_top (y := 7) (by decide) ?_
                  refine zz_iand 3 8 d_PW_codeAt_94 (by decide) (by decide) (by decide) (by decide) ?_
                  refine ab_istore d_PW_codeAt_95 (Nat.le_of_ble_eq_true rfl) (Nat.le_of_ble_eq_true rfl) rfl ?_
                  change ab_W _ _ _ G 97 [some (vR a), some (vz p), some (vz n), some (vz (f p)), some (vz 4), some (vz ((f p) % 8)), none, none] [] _
                  refine zz_iconst d_PW_codeAt_97 ?_
                  refine ab_istore d_PW_codeAt_98 (Nat.le_of_ble_eq_true rfl) (Nat.le_of_ble_eq_true rfl) rfl ?_
                  change ab_W _ _ _ G 100 [some (vR a), some (vz p), some (vz n), some (vz (f p)), some (vz 4), some (vz ((f p) % 8)), some (vz 1), none] [] _
                  refine ab_iload d_PW_codeAt_100 rfl ?_
                  refine ab_iload d_PW_codeAt_102 rfl ?_
                  refine zz_icmp_ge (tgt := 148) d_PW_codeAt_104 (by decide) (by decide) (by decide) (fun c13 => absurd c13 (by decide)) (fun c13 => ?_)
                  refine ab_aload_n d_PW_codeAt_107 rfl ?_
                  refine ab_iload_n d_PW_codeAt_108 rfl ?_
                  refine ab_iload d_PW_codeAt_109 rfl ?_
                  refine zz_iadd d_PW_codeAt_111 ?_
                  refine zz_iald d_PW_codeAt_112 ha (by omega) ?_
                  have hq14 := hf (p + 1) (by omega) (by omega)
                  refine ab_istore d_PW_codeAt_113 (Nat.le_of_ble_eq_true rfl) (Nat.le_of_ble_eq_true rfl) rfl ?_
                  change ab_W _ _ _ G 115 [some (vR a), some (vz p), some (vz n), some (vz (f p)), some (vz 4), some (vz ((f p) % 8)), some (vz 1), some (vz (f (p + 1)))] [] _
                  refine ab_iload d_PW_codeAt_115 rfl ?_
                  refine zz_sipush d_PW_codeAt_117 (by decide) ?_
                  refine zz_iandC0 d_PW_codeAt_120 (by omega) ?_
                  refine zz_sipush d_PW_codeAt_121 (by decide) ?_
                  refine zz_icmp_eq (tgt := 129) d_PW_codeAt_124 (by decide) (by omega) (by decide) (fun c15 => ?_) (fun c15 => ?_)
                  · refine ab_iload d_PW_codeAt_129 rfl ?_
                    refine zz_bipush d_PW_codeAt_131 (by decide) ?_
                    refine zz_ishl 6 64 d_PW_codeAt_133 (by decide) (by decide) (by decide) ?_
                    refine ab_iload d_PW_codeAt_134 rfl ?_
                    refine zz_bipush d_PW_codeAt_136 (by decide) ?_
                    refine zz_iand 6 64 d_PW_codeAt_138 (by decide) (by decide) (by decide) (by decide) ?_
                    refine zz_iorlow (a := ((f p) % 8)) 6 64 d_PW_codeAt_139 (by decide) (by decide) (by omega) ?_
                    refine ab_istore d_PW_codeAt_140 (Nat.le_of_ble_eq_true rfl) (Nat.le_of_ble_eq_true rfl) rfl ?_
                    change ab_W _ _ _ G 142 [some (vR a), some (vz p), some (vz n), some (vz (f p)), some (vz 4), some (vz ((((f p) % 8) * 64) + ((f (p + 1)) % 64))), some (vz 1), some (vz (f (p + 1)))] [] _
                    refine zz_iinc d_PW_codeAt_142 rfl (Nat.le_of_ble_eq_true rfl) (Nat.le_of_ble_eq_true rfl) rfl ?_
                    change ab_W _ _ _ G 145 [some (vR a), some (vz p), some (vz n), some (vz (f p)), some (vz 4), some (vz ((((f p) % 8) * 64) + ((f (p + 1)) % 64))), some (vz 2), some (vz (f (p + 1)))] [] _
                    refine ab_goto (tgt := 100) d_PW_codeAt_145 (by decide) ?_
                    refine ab_iload d_PW_codeAt_100 rfl ?_
                    refine ab_iload d_PW_codeAt_102 rfl ?_
                    refine zz_icmp_ge (tgt := 148) d_PW_codeAt_104 (by decide) (by decide) (by decide) (fun c16 => absurd c16 (by decide)) (fun c16 => ?_)
                    refine ab_aload_n d_PW_codeAt_107 rfl ?_
                    refine ab_iload_n d_PW_codeAt_108 rfl ?_
                    refine ab_iload d_PW_codeAt_109 rfl ?_
                    refine zz_iadd d_PW_codeAt_111 ?_
                    refine zz_iald d_PW_codeAt_112 ha (by omega) ?_
                    have hq17 := hf (p + 2) (by omega) (by omega)
                    refine ab_istore d_PW_codeAt_113 (Nat.le_of_ble_eq_true rfl) (Nat.le_of_ble_eq_true rfl) rfl ?_
                    change ab_W _ _ _ G 115 [some (vR a), some (vz p), some (vz n), some (vz (f p)), some (vz 4), some (vz ((((f p) % 8) * 64) + ((f (p + 1)) % 64))), some (vz 2), some (vz (f (p + 2)))] [] _
                    refine ab_iload d_PW_codeAt_115 rfl ?_
                    refine zz_sipush d_PW_codeAt_117 (by decide) ?_
                    refine zz_iandC0 d_PW_codeAt_120 (by omega) ?_
                    refine zz_sipush d_PW_codeAt_121 (by decide) ?_
                    refine zz_icmp_eq (tgt := 129) d_PW_codeAt_124 (by decide) (by omega) (by decide) (fun c18 => ?_) (fun c18 => ?_)
                    · refine ab_iload d_PW_codeAt_129 rfl ?_
                      refine zz_bipush d_PW_codeAt_131 (by decide) ?_
                      refine zz_ishl 6 64 d_PW_codeAt_133 (by decide) (by decide) (by decide) ?_
                      refine ab_iload d_PW_codeAt_134 rfl ?_
                      refine zz_bipush d_PW_codeAt_136 (by decide) ?_
                      refine zz_iand 6 64 d_PW_codeAt_138 (by decide) (by decide) (by decide) (by decide) ?_
                      refine zz_iorlow (a := ((((f p) % 8) * 64) + ((f (p + 1)) % 64))) 6 64 d_PW_codeAt_139 (by decide) (by decide) (by omega) ?_
                      refine ab_istore d_PW_codeAt_140 (Nat.le_of_ble_eq_true rfl) (Nat.le_of_ble_eq_true rfl) rfl ?_
                      change ab_W _ _ _ G 142 [some (vR a), some (vz p), some (vz n), some (vz (f p)), some (vz 4), some (vz ((((((f p) % 8) * 64) + ((f (p + 1)) % 64)) * 64) + ((f (p + 2)) % 64))), some (vz 2), some (vz (f (p + 2)))] [] _
                      refine zz_iinc d_PW_codeAt_142 rfl (Nat.le_of_ble_eq_true rfl) (Nat.le_of_ble_eq_true rfl) rfl ?_
                      change ab_W _ _ _ G 145 [some (vR a), some (vz p), some (vz n), some (vz (f p)), some (vz 4), some (vz ((((((f p) % 8) * 64) + ((f (p + 1)) % 64)) * 64) + ((f (p + 2)) % 64))), some (vz 3), some (vz (f (p + 2)))] [] _
                      refine ab_goto (tgt := 100) d_PW_codeAt_145 (by decide) ?_
                      refine ab_iload d_PW_codeAt_100 rfl ?_
                      refine ab_iload d_PW_codeAt_102 rfl ?_
                      refine zz_icmp_ge (tgt := 148) d_PW_codeAt_104 (by decide) (by decide) (by decide) (fun c19 => absurd c19 (by decide)) (fun c19 => ?_)
                      refine ab_aload_n d_PW_codeAt_107 rfl ?_
                      refine ab_iload_n d_PW_codeAt_108 rfl ?_
                      refine ab_iload d_PW_codeAt_109 rfl ?_
                      refine zz_iadd d_PW_codeAt_111 ?_
                      refine zz_iald d_PW_codeAt_112 ha (by omega) ?_
                      have hq20 := hf (p + 3) (by omega) (by omega)
                      refine ab_istore d_PW_codeAt_113 (Nat.le_of_ble_eq_true rfl) (Nat.le_of_ble_eq_true rfl) rfl ?_
                      change ab_W _ _ _ G 115 [some (vR a), some (vz p), some (vz n), some (vz (f p)), some (vz 4), some (vz ((((((f p) % 8) * 64) + ((f (p + 1)) % 64)) * 64) + ((f (p + 2)) % 64))), some (vz 3), some (vz (f (p + 3)))] [] _
                      refine ab_iload d_PW_codeAt_115 rfl ?_
                      refine zz_sipush d_PW_codeAt_117 (by decide) ?_
                      refine zz_iandC0 d_PW_codeAt_120 (by omega) ?_
                      refine zz_sipush d_PW_codeAt_121 (by decide) ?_
                      refine zz_icmp_eq (tgt := 129) d_PW_codeAt_124 (by decide) (by omega) (by decide) (fun c21 => ?_) (fun c21 => ?_)
                      · refine ab_iload d_PW_codeAt_129 rfl ?_
                        refine zz_bipush d_PW_codeAt_131 (by decide) ?_
                        refine zz_ishl 6 64 d_PW_codeAt_133 (by decide) (by decide) (by decide) ?_
                        refine ab_iload d_PW_codeAt_134 rfl ?_
                        refine zz_bipush d_PW_codeAt_136 (by decide) ?_
                        refine zz_iand 6 64 d_PW_codeAt_138 (by decide) (by decide) (by decide) (by decide) ?_
                        refine zz_iorlow (a := ((((((f p) % 8) * 64) + ((f (p + 1)) % 64)) * 64) + ((f (p + 2)) % 64))) 6 64 d_PW_codeAt_139 (by decide) (by decide) (by omega) ?_
                        refine ab_istore d_PW_codeAt_140 (Nat.le_of_ble_eq_true rfl) (Nat.le_of_ble_eq_true rfl) rfl ?_
                        change ab_W _ _ _ G 142 [some (vR a), some (vz p), some (vz n), some (vz (f p)), some (vz 4), some (vz ((((((((f p) % 8) * 64) + ((f (p + 1)) % 64)) * 64) + ((f (p + 2)) % 64)) * 64) + ((f (p + 3)) % 64))), some (vz 3), some (vz (f (p + 3)))] [] _
                        refine zz_iinc d_PW_codeAt_142 rfl (Nat.le_of_ble_eq_true rfl) (Nat.le_of_ble_eq_true rfl) rfl ?_
                        change ab_W _ _ _ G 145 [some (vR a), some (vz p), some (vz n), some (vz (f p)), some (vz 4), some (vz ((((((((f p) % 8) * 64) + ((f (p + 1)) % 64)) * 64) + ((f (p + 2)) % 64)) * 64) + ((f (p + 3)) % 64))), some (vz 4), some (vz (f (p + 3)))] [] _
                        refine ab_goto (tgt := 100) d_PW_codeAt_145 (by decide) ?_
                        refine ab_iload d_PW_codeAt_100 rfl ?_
                        refine ab_iload d_PW_codeAt_102 rfl ?_
                        refine zz_icmp_ge (tgt := 148) d_PW_codeAt_104 (by decide) (by decide) (by decide) (fun c22 => ?_) (fun c22 => absurd c22 (by decide))
                        refine ab_iload d_PW_codeAt_148 rfl ?_
                        refine ab_callS (d' := d - 1) (as := [vz ((((((((f p) % 8) * 64) + ((f (p + 1)) % 64)) * 64) + ((f (p + 2)) % 64)) * 64) + ((f (p + 3)) % 64))]) (st := []) (z_PW_widthOf (o := o) (x := ((((((((f p) % 8) * 64) + ((f (p + 1)) % 64)) * 64) + ((f (p + 2)) % 64)) * 64) + ((f (p + 3)) % 64))) (by omega)) (fun oc G2 h => by rcases h with ⟨h, _⟩ | ⟨h, _⟩ | ⟨h, _⟩ | ⟨h, _⟩ <;> exact ⟨_, h⟩) (by omega) m_PW_widthOf ml_PW_279 st_PW_widthOf (Nat.le_of_ble_eq_true rfl) d_PW_codeAt_150 rfl ?_
                        intro v G23 hq
                        rcases hq with ⟨hv, hGe, hq24⟩ | ⟨hv, hGe, hq25⟩ | ⟨hv, hGe, hq26⟩ | ⟨hv, hGe, hq27⟩
                        · cases hv
                          rw [hGe]
                          change ab_W _ _ _ G 153 [some (vR a), some (vz p), some (vz n), some (vz (f p)), some (vz 4), some (vz ((((((((f p) % 8) * 64) + ((f (p + 1)) % 64)) * 64) + ((f (p + 2)) % 64)) * 64) + ((f (p + 3)) % 64))), some (vz 4), some (vz (f (p + 3)))] [vz 1] _
                          refine ab_iload d_PW_codeAt_153 rfl ?_
                          refine zz_icmp_ne (tgt := 171) d_PW_codeAt_155 (by decide) (by decide) (by decide) (fun c28 => ?_) (fun c28 => absurd c28 (by decide))
                          refine zz_iconst d_PW_codeAt_171 ?_
                          refine zz_iret rfl d_PW_codeAt_172 ?_
                          rw [hQ]; exact ⟨_, rfl, rfl, (by first | (exfalso; omega) | (unfold u8; (repeat' (first | rw [if_pos (by omega)] | rw [if_neg (by omega)]))))⟩
                        · cases hv
                          rw [hGe]
                          change ab_W _ _ _ G 153 [some (vR a), some (vz p), some (vz n), some (vz (f p)), some (vz 4), some (vz ((((((((f p) % 8) * 64) + ((f (p + 1)) % 64)) * 64) + ((f (p + 2)) % 64)) * 64) + ((f (p + 3)) % 64))), some (vz 4), some (vz (f (p + 3)))] [vz 2] _
                          refine ab_iload d_PW_codeAt_153 rfl ?_
                          refine zz_icmp_ne (tgt := 171) d_PW_codeAt_155 (by decide) (by decide) (by decide) (fun c29 => ?_) (fun c29 => absurd c29 (by decide))
                          refine zz_iconst d_PW_codeAt_171 ?_
                          refine zz_iret rfl d_PW_codeAt_172 ?_
                          rw [hQ]; exact ⟨_, rfl, rfl, (by first | (exfalso; omega) | (unfold u8; (repeat' (first | rw [if_pos (by omega)] | rw [if_neg (by omega)]))))⟩
                        · cases hv
                          rw [hGe]
                          change ab_W _ _ _ G 153 [some (vR a), some (vz p), some (vz n), some (vz (f p)), some (vz 4), some (vz ((((((((f p) % 8) * 64) + ((f (p + 1)) % 64)) * 64) + ((f (p + 2)) % 64)) * 64) + ((f (p + 3)) % 64))), some (vz 4), some (vz (f (p + 3)))] [vz 3] _
                          refine ab_iload d_PW_codeAt_153 rfl ?_
                          refine zz_icmp_ne (tgt := 171) d_PW_codeAt_155 (by decide) (by decide) (by decide) (fun c30 => ?_) (fun c30 => absurd c30 (by decide))
                          refine zz_iconst d_PW_codeAt_171 ?_
                          refine zz_iret rfl d_PW_codeAt_172 ?_
                          rw [hQ]; exact ⟨_, rfl, rfl, (by first | (exfalso; omega) | (unfold u8; (repeat' (first | rw [if_pos (by omega)] | rw [if_neg (by omega)]))))⟩
                        · cases hv
                          rw [hGe]
                          change ab_W _ _ _ G 153 [some (vR a), some (vz p), some (vz n), some (vz (f p)), some (vz 4), some (vz ((((((((f p) % 8) * 64) + ((f (p + 1)) % 64)) * 64) + ((f (p + 2)) % 64)) * 64) + ((f (p + 3)) % 64))), some (vz 4), some (vz (f (p + 3)))] [vz 4] _
                          refine ab_iload d_PW_codeAt_153 rfl ?_
                          refine zz_icmp_ne (tgt := 171) d_PW_codeAt_155 (by decide) (by decide) (by decide) (fun c31 => absurd c31 (by decide)) (fun c31 => ?_)
                          refine ab_iload d_PW_codeAt_158 rfl ?_
                          refine ab_callS (d' := d - 1) (as := [vz ((((((((f p) % 8) * 64) + ((f (p + 1)) % 64)) * 64) + ((f (p + 2)) % 64)) * 64) + ((f (p + 3)) % 64))]) (st := []) (z_PW_isCharacter (o := o) (x := ((((((((f p) % 8) * 64) + ((f (p + 1)) % 64)) * 64) + ((f (p + 2)) % 64)) * 64) + ((f (p + 3)) % 64))) (by omega)) (fun oc G2 h => by rcases h with ⟨h, _⟩ | ⟨h, _⟩ <;> exact ⟨_, h⟩) (by omega) m_PW_isCharacter ml_PW_282 st_PW_isCharacter (Nat.le_of_ble_eq_true rfl) d_PW_codeAt_160 rfl ?_
                          intro v G32 hq
                          rcases hq with ⟨hv, hGe, hq33⟩ | ⟨hv, hGe, hq34⟩
                          · cases hv
                            rw [hGe]
                            change ab_W _ _ _ G 163 [some (vR a), some (vz p), some (vz n), some (vz (f p)), some (vz 4), some (vz ((((((((f p) % 8) * 64) + ((f (p + 1)) % 64)) * 64) + ((f (p + 2)) % 64)) * 64) + ((f (p + 3)) % 64))), some (vz 4), some (vz (f (p + 3)))] [vz 1] _
                            refine zz_if_eq (tgt := 171) d_PW_codeAt_163 (by decide) (by decide) (fun c35 => absurd c35 (by decide)) (fun c35 => ?_)
                            refine ab_iload d_PW_codeAt_166 rfl ?_
                            refine ab_goto (tgt := 172) d_PW_codeAt_168 (by decide) ?_
                            refine zz_iret rfl d_PW_codeAt_172 ?_
                            rw [hQ]; exact ⟨_, rfl, rfl, (by first | (exfalso; omega) | (unfold u8; (repeat' (first | rw [if_pos (by omega)] | rw [if_neg (by omega)]))))⟩
                          · cases hv
                            rw [hGe]
                            change ab_W _ _ _ G 163 [some (vR a), some (vz p), some (vz n), some (vz (f p)), some (vz 4), some (vz ((((((((f p) % 8) * 64) + ((f (p + 1)) % 64)) * 64) + ((f (p + 2)) % 64)) * 64) + ((f (p + 3)) % 64))), some (vz 4), some (vz (f (p + 3)))] [vz 0] _
                            refine zz_if_eq (tgt := 171) d_PW_codeAt_163 (by decide) (by decide) (fun c36 => ?_) (fun c36 => absurd c36 (by decide))
                            refine zz_iconst d_PW_codeAt_171 ?_
                            refine zz_iret rfl d_PW_codeAt_172 ?_
                            rw [hQ]; exact ⟨_, rfl, rfl, (by first | (exfalso; omega) | (unfold u8; (repeat' (first | rw [if_pos (by omega)] | rw [if_neg (by omega)]))))⟩
                      · refine zz_iconst d_PW_codeAt_127 ?_
                        refine zz_iret rfl d_PW_codeAt_128 ?_
                        rw [hQ]; exact ⟨_, rfl, rfl, (by first | (exfalso; omega) | (unfold u8; (repeat' (first | rw [if_pos (by omega)] | rw [if_neg (by omega)]))))⟩
                    · refine zz_iconst d_PW_codeAt_127 ?_
                      refine zz_iret rfl d_PW_codeAt_128 ?_
                      rw [hQ]; exact ⟨_, rfl, rfl, (by first | (exfalso; omega) | (unfold u8; (repeat' (first | rw [if_pos (by omega)] | rw [if_neg (by omega)]))))⟩
                  · refine zz_iconst d_PW_codeAt_127 ?_
                    refine zz_iret rfl d_PW_codeAt_128 ?_
                    rw [hQ]; exact ⟨_, rfl, rfl, (by first | (exfalso; omega) | (unfold u8; (repeat' (first | rw [if_pos (by omega)] | rw [if_neg (by omega)]))))⟩
                · refine zz_iconst d_PW_codeAt_86 ?_
                  refine zz_iret rfl d_PW_codeAt_87 ?_
                  rw [hQ]; exact ⟨_, rfl, rfl, (by first | (exfalso; omega) | (unfold u8; (repeat' (first | rw [if_pos (by omega)] | rw [if_neg (by omega)]))))⟩
              · refine zz_iconst d_PW_codeAt_66 ?_
                refine ab_goto (tgt := 71) d_PW_codeAt_67 (by decide) ?_
                refine ab_istore d_PW_codeAt_71 (Nat.le_of_ble_eq_true rfl) (Nat.le_of_ble_eq_true rfl) rfl ?_
                change ab_W _ _ _ G 73 [some (vR a), some (vz p), some (vz n), some (vz (f p)), some (vz 3), none, none, none] [] _
                refine ab_iload d_PW_codeAt_73 rfl ?_
                refine zz_if_eq (tgt := 86) d_PW_codeAt_75 (by decide) (by decide) (fun c37 => absurd c37 (by decide)) (fun c37 => ?_)
                refine ab_iload_n d_PW_codeAt_78 rfl ?_
                refine ab_iload d_PW_codeAt_79 rfl ?_
                refine zz_iadd d_PW_codeAt_81 ?_
                refine ab_iload_n d_PW_codeAt_82 rfl ?_
                refine zz_icmp_le (tgt := 88) d_PW_codeAt_83 (by decide) (by omega) (by omega) (fun c38 => ?_) (fun c38 => ?_)
                · refine ab_iload_n d_PW_codeAt_88 rfl ?_
                  refine zz_bipush d_PW_codeAt_89 (by decide) ?_
                  refine ab_iload d_PW_codeAt_91 rfl ?_
                  refine zz_ishr 3 8 d_PW_codeAt_93 (by decide) (by decide) (by decide) (by decide) (by decide) ?_
                  refine zz_top (y := 15) (by decide) ?_
                  refine zz_iand 4 16 d_PW_codeAt_94 (by decide) (by decide) (by decide) (by decide) ?_
                  refine ab_istore d_PW_codeAt_95 (Nat.le_of_ble_eq_true rfl) (Nat.le_of_ble_eq_true rfl) rfl ?_
                  change ab_W _ _ _ G 97 [some (vR a), some (vz p), some (vz n), some (vz (f p)), some (vz 3), some (vz ((f p) % 16)), none, none] [] _
                  refine zz_iconst d_PW_codeAt_97 ?_
                  refine ab_istore d_PW_codeAt_98 (Nat.le_of_ble_eq_true rfl) (Nat.le_of_ble_eq_true rfl) rfl ?_
                  change ab_W _ _ _ G 100 [some (vR a), some (vz p), some (vz n), some (vz (f p)), some (vz 3), some (vz ((f p) % 16)), some (vz 1), none] [] _
                  refine ab_iload d_PW_codeAt_100 rfl ?_
                  refine ab_iload d_PW_codeAt_102 rfl ?_
                  refine zz_icmp_ge (tgt := 148) d_PW_codeAt_104 (by decide) (by decide) (by decide) (fun c39 => absurd c39 (by decide)) (fun c39 => ?_)
                  refine ab_aload_n d_PW_codeAt_107 rfl ?_
                  refine ab_iload_n d_PW_codeAt_108 rfl ?_
                  refine ab_iload d_PW_codeAt_109 rfl ?_
                  refine zz_iadd d_PW_codeAt_111 ?_
                  refine zz_iald d_PW_codeAt_112 ha (by omega) ?_
                  have hq40 := hf (p + 1) (by omega) (by omega)
                  refine ab_istore d_PW_codeAt_113 (Nat.le_of_ble_eq_true rfl) (Nat.le_of_ble_eq_true rfl) rfl ?_
                  change ab_W _ _ _ G 115 [some (vR a), some (vz p), some (vz n), some (vz (f p)), some (vz 3), some (vz ((f p) % 16)), some (vz 1), some (vz (f (p + 1)))] [] _
                  refine ab_iload d_PW_codeAt_115 rfl ?_
                  refine zz_sipush d_PW_codeAt_117 (by decide) ?_
                  refine zz_iandC0 d_PW_codeAt_120 (by omega) ?_
                  refine zz_sipush d_PW_codeAt_121 (by decide) ?_
                  refine zz_icmp_eq (tgt := 129) d_PW_codeAt_124 (by decide) (by omega) (by decide) (fun c41 => ?_) (fun c41 => ?_)
                  · refine ab_iload d_PW_codeAt_129 rfl ?_
                    refine zz_bipush d_PW_codeAt_131 (by decide) ?_
                    refine zz_ishl 6 64 d_PW_codeAt_133 (by decide) (by decide) (by decide) ?_
                    refine ab_iload d_PW_codeAt_134 rfl ?_
                    refine zz_bipush d_PW_codeAt_136 (by decide) ?_
                    refine zz_iand 6 64 d_PW_codeAt_138 (by decide) (by decide) (by decide) (by decide) ?_
                    refine zz_iorlow (a := ((f p) % 16)) 6 64 d_PW_codeAt_139 (by decide) (by decide) (by omega) ?_
                    refine ab_istore d_PW_codeAt_140 (Nat.le_of_ble_eq_true rfl) (Nat.le_of_ble_eq_true rfl) rfl ?_
                    change ab_W _ _ _ G 142 [some (vR a), some (vz p), some (vz n), some (vz (f p)), some (vz 3), some (vz ((((f p) % 16) * 64) + ((f (p + 1)) % 64))), some (vz 1), some (vz (f (p + 1)))] [] _
                    refine zz_iinc d_PW_codeAt_142 rfl (Nat.le_of_ble_eq_true rfl) (Nat.le_of_ble_eq_true rfl) rfl ?_
                    change ab_W _ _ _ G 145 [some (vR a), some (vz p), some (vz n), some (vz (f p)), some (vz 3), some (vz ((((f p) % 16) * 64) + ((f (p + 1)) % 64))), some (vz 2), some (vz (f (p + 1)))] [] _
                    refine ab_goto (tgt := 100) d_PW_codeAt_145 (by decide) ?_
                    refine ab_iload d_PW_codeAt_100 rfl ?_
                    refine ab_iload d_PW_codeAt_102 rfl ?_
                    refine zz_icmp_ge (tgt := 148) d_PW_codeAt_104 (by decide) (by decide) (by decide) (fun c42 => absurd c42 (by decide)) (fun c42 => ?_)
                    refine ab_aload_n d_PW_codeAt_107 rfl ?_
                    refine ab_iload_n d_PW_codeAt_108 rfl ?_
                    refine ab_iload d_PW_codeAt_109 rfl ?_
                    refine zz_iadd d_PW_codeAt_111 ?_
                    refine zz_iald d_PW_codeAt_112 ha (by omega) ?_
                    have hq43 := hf (p + 2) (by omega) (by omega)
                    refine ab_istore d_PW_codeAt_113 (Nat.le_of_ble_eq_true rfl) (Nat.le_of_ble_eq_true rfl) rfl ?_
                    change ab_W _ _ _ G 115 [some (vR a), some (vz p), some (vz n), some (vz (f p)), some (vz 3), some (vz ((((f p) % 16) * 64) + ((f (p + 1)) % 64))), some (vz 2), some (vz (f (p + 2)))] [] _
                    refine ab_iload d_PW_codeAt_115 rfl ?_
                    refine zz_sipush d_PW_codeAt_117 (by decide) ?_
                    refine zz_iandC0 d_PW_codeAt_120 (by omega) ?_
                    refine zz_sipush d_PW_codeAt_121 (by decide) ?_
                    refine zz_icmp_eq (tgt := 129) d_PW_codeAt_124 (by decide) (by omega) (by decide) (fun c44 => ?_) (fun c44 => ?_)
                    · refine ab_iload d_PW_codeAt_129 rfl ?_
                      refine zz_bipush d_PW_codeAt_131 (by decide) ?_
                      refine zz_ishl 6 64 d_PW_codeAt_133 (by decide) (by decide) (by decide) ?_
                      refine ab_iload d_PW_codeAt_134 rfl ?_
                      refine zz_bipush d_PW_codeAt_136 (by decide) ?_
                      refine zz_iand 6 64 d_PW_codeAt_138 (by decide) (by decide) (by decide) (by decide) ?_
                      refine zz_iorlow (a := ((((f p) % 16) * 64) + ((f (p + 1)) % 64))) 6 64 d_PW_codeAt_139 (by decide) (by decide) (by omega) ?_
                      refine ab_istore d_PW_codeAt_140 (Nat.le_of_ble_eq_true rfl) (Nat.le_of_ble_eq_true rfl) rfl ?_
                      change ab_W _ _ _ G 142 [some (vR a), some (vz p), some (vz n), some (vz (f p)), some (vz 3), some (vz ((((((f p) % 16) * 64) + ((f (p + 1)) % 64)) * 64) + ((f (p + 2)) % 64))), some (vz 2), some (vz (f (p + 2)))] [] _
                      refine zz_iinc d_PW_codeAt_142 rfl (Nat.le_of_ble_eq_true rfl) (Nat.le_of_ble_eq_true rfl) rfl ?_
                      change ab_W _ _ _ G 145 [some (vR a), some (vz p), some (vz n), some (vz (f p)), some (vz 3), some (vz ((((((f p) % 16) * 64) + ((f (p + 1)) % 64)) * 64) + ((f (p + 2)) % 64))), some (vz 3), some (vz (f (p + 2)))] [] _
                      refine ab_goto (tgt := 100) d_PW_codeAt_145 (by decide) ?_
                      refine ab_iload d_PW_codeAt_100 rfl ?_
                      refine ab_iload d_PW_codeAt_102 rfl ?_
                      refine zz_icmp_ge (tgt := 148) d_PW_codeAt_104 (by decide) (by decide) (by decide) (fun c45 => ?_) (fun c45 => absurd c45 (by decide))
                      refine ab_iload d_PW_codeAt_148 rfl ?_
                      refine ab_callS (d' := d - 1) (as := [vz ((((((f p) % 16) * 64) + ((f (p + 1)) % 64)) * 64) + ((f (p + 2)) % 64))]) (st := []) (z_PW_widthOf (o := o) (x := ((((((f p) % 16) * 64) + ((f (p + 1)) % 64)) * 64) + ((f (p + 2)) % 64))) (by omega)) (fun oc G2 h => by rcases h with ⟨h, _⟩ | ⟨h, _⟩ | ⟨h, _⟩ | ⟨h, _⟩ <;> exact ⟨_, h⟩) (by omega) m_PW_widthOf ml_PW_279 st_PW_widthOf (Nat.le_of_ble_eq_true rfl) d_PW_codeAt_150 rfl ?_
                      intro v G46 hq
                      rcases hq with ⟨hv, hGe, hq47⟩ | ⟨hv, hGe, hq48⟩ | ⟨hv, hGe, hq49⟩ | ⟨hv, hGe, hq50⟩
                      · cases hv
                        rw [hGe]
                        change ab_W _ _ _ G 153 [some (vR a), some (vz p), some (vz n), some (vz (f p)), some (vz 3), some (vz ((((((f p) % 16) * 64) + ((f (p + 1)) % 64)) * 64) + ((f (p + 2)) % 64))), some (vz 3), some (vz (f (p + 2)))] [vz 1] _
                        refine ab_iload d_PW_codeAt_153 rfl ?_
                        refine zz_icmp_ne (tgt := 171) d_PW_codeAt_155 (by decide) (by decide) (by decide) (fun c51 => ?_) (fun c51 => absurd c51 (by decide))
                        refine zz_iconst d_PW_codeAt_171 ?_
                        refine zz_iret rfl d_PW_codeAt_172 ?_
                        rw [hQ]; exact ⟨_, rfl, rfl, (by first | (exfalso; omega) | (unfold u8; (repeat' (first | rw [if_pos (by omega)] | rw [if_neg (by omega)]))))⟩
                      · cases hv
                        rw [hGe]
                        change ab_W _ _ _ G 153 [some (vR a), some (vz p), some (vz n), some (vz (f p)), some (vz 3), some (vz ((((((f p) % 16) * 64) + ((f (p + 1)) % 64)) * 64) + ((f (p + 2)) % 64))), some (vz 3), some (vz (f (p + 2)))] [vz 2] _
                        refine ab_iload d_PW_codeAt_153 rfl ?_
                        refine zz_icmp_ne (tgt := 171) d_PW_codeAt_155 (by decide) (by decide) (by decide) (fun c52 => ?_) (fun c52 => absurd c52 (by decide))
                        refine zz_iconst d_PW_codeAt_171 ?_
                        refine zz_iret rfl d_PW_codeAt_172 ?_
                        rw [hQ]; exact ⟨_, rfl, rfl, (by first | (exfalso; omega) | (unfold u8; (repeat' (first | rw [if_pos (by omega)] | rw [if_neg (by omega)]))))⟩
                      · cases hv
                        rw [hGe]
                        change ab_W _ _ _ G 153 [some (vR a), some (vz p), some (vz n), some (vz (f p)), some (vz 3), some (vz ((((((f p) % 16) * 64) + ((f (p + 1)) % 64)) * 64) + ((f (p + 2)) % 64))), some (vz 3), some (vz (f (p + 2)))] [vz 3] _
                        refine ab_iload d_PW_codeAt_153 rfl ?_
                        refine zz_icmp_ne (tgt := 171) d_PW_codeAt_155 (by decide) (by decide) (by decide) (fun c53 => absurd c53 (by decide)) (fun c53 => ?_)
                        refine ab_iload d_PW_codeAt_158 rfl ?_
                        refine ab_callS (d' := d - 1) (as := [vz ((((((f p) % 16) * 64) + ((f (p + 1)) % 64)) * 64) + ((f (p + 2)) % 64))]) (st := []) (z_PW_isCharacter (o := o) (x := ((((((f p) % 16) * 64) + ((f (p + 1)) % 64)) * 64) + ((f (p + 2)) % 64))) (by omega)) (fun oc G2 h => by rcases h with ⟨h, _⟩ | ⟨h, _⟩ <;> exact ⟨_, h⟩) (by omega) m_PW_isCharacter ml_PW_282 st_PW_isCharacter (Nat.le_of_ble_eq_true rfl) d_PW_codeAt_160 rfl ?_
                        intro v G54 hq
                        rcases hq with ⟨hv, hGe, hq55⟩ | ⟨hv, hGe, hq56⟩
                        · cases hv
                          rw [hGe]
                          change ab_W _ _ _ G 163 [some (vR a), some (vz p), some (vz n), some (vz (f p)), some (vz 3), some (vz ((((((f p) % 16) * 64) + ((f (p + 1)) % 64)) * 64) + ((f (p + 2)) % 64))), some (vz 3), some (vz (f (p + 2)))] [vz 1] _
                          refine zz_if_eq (tgt := 171) d_PW_codeAt_163 (by decide) (by decide) (fun c57 => absurd c57 (by decide)) (fun c57 => ?_)
                          refine ab_iload d_PW_codeAt_166 rfl ?_
                          refine ab_goto (tgt := 172) d_PW_codeAt_168 (by decide) ?_
                          refine zz_iret rfl d_PW_codeAt_172 ?_
                          rw [hQ]; exact ⟨_, rfl, rfl, (by first | (exfalso; omega) | (unfold u8; (repeat' (first | rw [if_pos (by omega)] | rw [if_neg (by omega)]))))⟩
                        · cases hv
                          rw [hGe]
                          change ab_W _ _ _ G 163 [some (vR a), some (vz p), some (vz n), some (vz (f p)), some (vz 3), some (vz ((((((f p) % 16) * 64) + ((f (p + 1)) % 64)) * 64) + ((f (p + 2)) % 64))), some (vz 3), some (vz (f (p + 2)))] [vz 0] _
                          refine zz_if_eq (tgt := 171) d_PW_codeAt_163 (by decide) (by decide) (fun c58 => ?_) (fun c58 => absurd c58 (by decide))
                          refine zz_iconst d_PW_codeAt_171 ?_
                          refine zz_iret rfl d_PW_codeAt_172 ?_
                          rw [hQ]; exact ⟨_, rfl, rfl, (by first | (exfalso; omega) | (unfold u8; (repeat' (first | rw [if_pos (by omega)] | rw [if_neg (by omega)]))))⟩
                      · cases hv
                        rw [hGe]
                        change ab_W _ _ _ G 153 [some (vR a), some (vz p), some (vz n), some (vz (f p)), some (vz 3), some (vz ((((((f p) % 16) * 64) + ((f (p + 1)) % 64)) * 64) + ((f (p + 2)) % 64))), some (vz 3), some (vz (f (p + 2)))] [vz 4] _
                        refine ab_iload d_PW_codeAt_153 rfl ?_
                        refine zz_icmp_ne (tgt := 171) d_PW_codeAt_155 (by decide) (by decide) (by decide) (fun c59 => ?_) (fun c59 => absurd c59 (by decide))
                        refine zz_iconst d_PW_codeAt_171 ?_
                        refine zz_iret rfl d_PW_codeAt_172 ?_
                        rw [hQ]; exact ⟨_, rfl, rfl, (by first | (exfalso; omega) | (unfold u8; (repeat' (first | rw [if_pos (by omega)] | rw [if_neg (by omega)]))))⟩
                    · refine zz_iconst d_PW_codeAt_127 ?_
                      refine zz_iret rfl d_PW_codeAt_128 ?_
                      rw [hQ]; exact ⟨_, rfl, rfl, (by first | (exfalso; omega) | (unfold u8; (repeat' (first | rw [if_pos (by omega)] | rw [if_neg (by omega)]))))⟩
                  · refine zz_iconst d_PW_codeAt_127 ?_
                    refine zz_iret rfl d_PW_codeAt_128 ?_
                    rw [hQ]; exact ⟨_, rfl, rfl, (by first | (exfalso; omega) | (unfold u8; (repeat' (first | rw [if_pos (by omega)] | rw [if_neg (by omega)]))))⟩
                · refine zz_iconst d_PW_codeAt_86 ?_
                  refine zz_iret rfl d_PW_codeAt_87 ?_
                  rw [hQ]; exact ⟨_, rfl, rfl, (by first | (exfalso; omega) | (unfold u8; (repeat' (first | rw [if_pos (by omega)] | rw [if_neg (by omega)]))))⟩
            · refine zz_iconst d_PW_codeAt_55 ?_
              refine ab_goto (tgt := 71) d_PW_codeAt_56 (by decide) ?_
              refine ab_istore d_PW_codeAt_71 (Nat.le_of_ble_eq_true rfl) (Nat.le_of_ble_eq_true rfl) rfl ?_
              change ab_W _ _ _ G 73 [some (vR a), some (vz p), some (vz n), some (vz (f p)), some (vz 2), none, none, none] [] _
              refine ab_iload d_PW_codeAt_73 rfl ?_
              refine zz_if_eq (tgt := 86) d_PW_codeAt_75 (by decide) (by decide) (fun c60 => absurd c60 (by decide)) (fun c60 => ?_)
              refine ab_iload_n d_PW_codeAt_78 rfl ?_
              refine ab_iload d_PW_codeAt_79 rfl ?_
              refine zz_iadd d_PW_codeAt_81 ?_
              refine ab_iload_n d_PW_codeAt_82 rfl ?_
              refine zz_icmp_le (tgt := 88) d_PW_codeAt_83 (by decide) (by omega) (by omega) (fun c61 => ?_) (fun c61 => ?_)
              · refine ab_iload_n d_PW_codeAt_88 rfl ?_
                refine zz_bipush d_PW_codeAt_89 (by decide) ?_
                refine ab_iload d_PW_codeAt_91 rfl ?_
                refine zz_ishr 2 4 d_PW_codeAt_93 (by decide) (by decide) (by decide) (by decide) (by decide) ?_
                refine zz_top (y := 31) (by decide) ?_
                refine zz_iand 5 32 d_PW_codeAt_94 (by decide) (by decide) (by decide) (by decide) ?_
                refine ab_istore d_PW_codeAt_95 (Nat.le_of_ble_eq_true rfl) (Nat.le_of_ble_eq_true rfl) rfl ?_
                change ab_W _ _ _ G 97 [some (vR a), some (vz p), some (vz n), some (vz (f p)), some (vz 2), some (vz ((f p) % 32)), none, none] [] _
                refine zz_iconst d_PW_codeAt_97 ?_
                refine ab_istore d_PW_codeAt_98 (Nat.le_of_ble_eq_true rfl) (Nat.le_of_ble_eq_true rfl) rfl ?_
                change ab_W _ _ _ G 100 [some (vR a), some (vz p), some (vz n), some (vz (f p)), some (vz 2), some (vz ((f p) % 32)), some (vz 1), none] [] _
                refine ab_iload d_PW_codeAt_100 rfl ?_
                refine ab_iload d_PW_codeAt_102 rfl ?_
                refine zz_icmp_ge (tgt := 148) d_PW_codeAt_104 (by decide) (by decide) (by decide) (fun c62 => absurd c62 (by decide)) (fun c62 => ?_)
                refine ab_aload_n d_PW_codeAt_107 rfl ?_
                refine ab_iload_n d_PW_codeAt_108 rfl ?_
                refine ab_iload d_PW_codeAt_109 rfl ?_
                refine zz_iadd d_PW_codeAt_111 ?_
                refine zz_iald d_PW_codeAt_112 ha (by omega) ?_
                have hq63 := hf (p + 1) (by omega) (by omega)
                refine ab_istore d_PW_codeAt_113 (Nat.le_of_ble_eq_true rfl) (Nat.le_of_ble_eq_true rfl) rfl ?_
                change ab_W _ _ _ G 115 [some (vR a), some (vz p), some (vz n), some (vz (f p)), some (vz 2), some (vz ((f p) % 32)), some (vz 1), some (vz (f (p + 1)))] [] _
                refine ab_iload d_PW_codeAt_115 rfl ?_
                refine zz_sipush d_PW_codeAt_117 (by decide) ?_
                refine zz_iandC0 d_PW_codeAt_120 (by omega) ?_
                refine zz_sipush d_PW_codeAt_121 (by decide) ?_
                refine zz_icmp_eq (tgt := 129) d_PW_codeAt_124 (by decide) (by omega) (by decide) (fun c64 => ?_) (fun c64 => ?_)
                · refine ab_iload d_PW_codeAt_129 rfl ?_
                  refine zz_bipush d_PW_codeAt_131 (by decide) ?_
                  refine zz_ishl 6 64 d_PW_codeAt_133 (by decide) (by decide) (by decide) ?_
                  refine ab_iload d_PW_codeAt_134 rfl ?_
                  refine zz_bipush d_PW_codeAt_136 (by decide) ?_
                  refine zz_iand 6 64 d_PW_codeAt_138 (by decide) (by decide) (by decide) (by decide) ?_
                  refine zz_iorlow (a := ((f p) % 32)) 6 64 d_PW_codeAt_139 (by decide) (by decide) (by omega) ?_
                  refine ab_istore d_PW_codeAt_140 (Nat.le_of_ble_eq_true rfl) (Nat.le_of_ble_eq_true rfl) rfl ?_
                  change ab_W _ _ _ G 142 [some (vR a), some (vz p), some (vz n), some (vz (f p)), some (vz 2), some (vz ((((f p) % 32) * 64) + ((f (p + 1)) % 64))), some (vz 1), some (vz (f (p + 1)))] [] _
                  refine zz_iinc d_PW_codeAt_142 rfl (Nat.le_of_ble_eq_true rfl) (Nat.le_of_ble_eq_true rfl) rfl ?_
                  change ab_W _ _ _ G 145 [some (vR a), some (vz p), some (vz n), some (vz (f p)), some (vz 2), some (vz ((((f p) % 32) * 64) + ((f (p + 1)) % 64))), some (vz 2), some (vz (f (p + 1)))] [] _
                  refine ab_goto (tgt := 100) d_PW_codeAt_145 (by decide) ?_
                  refine ab_iload d_PW_codeAt_100 rfl ?_
                  refine ab_iload d_PW_codeAt_102 rfl ?_
                  refine zz_icmp_ge (tgt := 148) d_PW_codeAt_104 (by decide) (by decide) (by decide) (fun c65 => ?_) (fun c65 => absurd c65 (by decide))
                  refine ab_iload d_PW_codeAt_148 rfl ?_
                  refine ab_callS (d' := d - 1) (as := [vz ((((f p) % 32) * 64) + ((f (p + 1)) % 64))]) (st := []) (z_PW_widthOf (o := o) (x := ((((f p) % 32) * 64) + ((f (p + 1)) % 64))) (by omega)) (fun oc G2 h => by rcases h with ⟨h, _⟩ | ⟨h, _⟩ | ⟨h, _⟩ | ⟨h, _⟩ <;> exact ⟨_, h⟩) (by omega) m_PW_widthOf ml_PW_279 st_PW_widthOf (Nat.le_of_ble_eq_true rfl) d_PW_codeAt_150 rfl ?_
                  intro v G66 hq
                  rcases hq with ⟨hv, hGe, hq67⟩ | ⟨hv, hGe, hq68⟩ | ⟨hv, hGe, hq69⟩ | ⟨hv, hGe, hq70⟩
                  · cases hv
                    rw [hGe]
                    change ab_W _ _ _ G 153 [some (vR a), some (vz p), some (vz n), some (vz (f p)), some (vz 2), some (vz ((((f p) % 32) * 64) + ((f (p + 1)) % 64))), some (vz 2), some (vz (f (p + 1)))] [vz 1] _
                    refine ab_iload d_PW_codeAt_153 rfl ?_
                    refine zz_icmp_ne (tgt := 171) d_PW_codeAt_155 (by decide) (by decide) (by decide) (fun c71 => ?_) (fun c71 => absurd c71 (by decide))
                    refine zz_iconst d_PW_codeAt_171 ?_
                    refine zz_iret rfl d_PW_codeAt_172 ?_
                    rw [hQ]; exact ⟨_, rfl, rfl, (by first | (exfalso; omega) | (unfold u8; (repeat' (first | rw [if_pos (by omega)] | rw [if_neg (by omega)]))))⟩
                  · cases hv
                    rw [hGe]
                    change ab_W _ _ _ G 153 [some (vR a), some (vz p), some (vz n), some (vz (f p)), some (vz 2), some (vz ((((f p) % 32) * 64) + ((f (p + 1)) % 64))), some (vz 2), some (vz (f (p + 1)))] [vz 2] _
                    refine ab_iload d_PW_codeAt_153 rfl ?_
                    refine zz_icmp_ne (tgt := 171) d_PW_codeAt_155 (by decide) (by decide) (by decide) (fun c72 => absurd c72 (by decide)) (fun c72 => ?_)
                    refine ab_iload d_PW_codeAt_158 rfl ?_
                    refine ab_callS (d' := d - 1) (as := [vz ((((f p) % 32) * 64) + ((f (p + 1)) % 64))]) (st := []) (z_PW_isCharacter (o := o) (x := ((((f p) % 32) * 64) + ((f (p + 1)) % 64))) (by omega)) (fun oc G2 h => by rcases h with ⟨h, _⟩ | ⟨h, _⟩ <;> exact ⟨_, h⟩) (by omega) m_PW_isCharacter ml_PW_282 st_PW_isCharacter (Nat.le_of_ble_eq_true rfl) d_PW_codeAt_160 rfl ?_
                    intro v G73 hq
                    rcases hq with ⟨hv, hGe, hq74⟩ | ⟨hv, hGe, hq75⟩
                    · cases hv
                      rw [hGe]
                      change ab_W _ _ _ G 163 [some (vR a), some (vz p), some (vz n), some (vz (f p)), some (vz 2), some (vz ((((f p) % 32) * 64) + ((f (p + 1)) % 64))), some (vz 2), some (vz (f (p + 1)))] [vz 1] _
                      refine zz_if_eq (tgt := 171) d_PW_codeAt_163 (by decide) (by decide) (fun c76 => absurd c76 (by decide)) (fun c76 => ?_)
                      refine ab_iload d_PW_codeAt_166 rfl ?_
                      refine ab_goto (tgt := 172) d_PW_codeAt_168 (by decide) ?_
                      refine zz_iret rfl d_PW_codeAt_172 ?_
                      rw [hQ]; exact ⟨_, rfl, rfl, (by first | (exfalso; omega) | (unfold u8; (repeat' (first | rw [if_pos (by omega)] | rw [if_neg (by omega)]))))⟩
                    · cases hv
                      rw [hGe]
                      change ab_W _ _ _ G 163 [some (vR a), some (vz p), some (vz n), some (vz (f p)), some (vz 2), some (vz ((((f p) % 32) * 64) + ((f (p + 1)) % 64))), some (vz 2), some (vz (f (p + 1)))] [vz 0] _
                      exfalso; omega
                  · cases hv
                    rw [hGe]
                    change ab_W _ _ _ G 153 [some (vR a), some (vz p), some (vz n), some (vz (f p)), some (vz 2), some (vz ((((f p) % 32) * 64) + ((f (p + 1)) % 64))), some (vz 2), some (vz (f (p + 1)))] [vz 3] _
                    refine ab_iload d_PW_codeAt_153 rfl ?_
                    refine zz_icmp_ne (tgt := 171) d_PW_codeAt_155 (by decide) (by decide) (by decide) (fun c77 => ?_) (fun c77 => absurd c77 (by decide))
                    refine zz_iconst d_PW_codeAt_171 ?_
                    refine zz_iret rfl d_PW_codeAt_172 ?_
                    rw [hQ]; exact ⟨_, rfl, rfl, (by first | (exfalso; omega) | (unfold u8; (repeat' (first | rw [if_pos (by omega)] | rw [if_neg (by omega)]))))⟩
                  · cases hv
                    rw [hGe]
                    change ab_W _ _ _ G 153 [some (vR a), some (vz p), some (vz n), some (vz (f p)), some (vz 2), some (vz ((((f p) % 32) * 64) + ((f (p + 1)) % 64))), some (vz 2), some (vz (f (p + 1)))] [vz 4] _
                    refine ab_iload d_PW_codeAt_153 rfl ?_
                    refine zz_icmp_ne (tgt := 171) d_PW_codeAt_155 (by decide) (by decide) (by decide) (fun c78 => ?_) (fun c78 => absurd c78 (by decide))
                    refine zz_iconst d_PW_codeAt_171 ?_
                    refine zz_iret rfl d_PW_codeAt_172 ?_
                    rw [hQ]; exact ⟨_, rfl, rfl, (by first | (exfalso; omega) | (unfold u8; (repeat' (first | rw [if_pos (by omega)] | rw [if_neg (by omega)]))))⟩
                · refine zz_iconst d_PW_codeAt_127 ?_
                  refine zz_iret rfl d_PW_codeAt_128 ?_
                  rw [hQ]; exact ⟨_, rfl, rfl, (by first | (exfalso; omega) | (unfold u8; (repeat' (first | rw [if_pos (by omega)] | rw [if_neg (by omega)]))))⟩
              · refine zz_iconst d_PW_codeAt_86 ?_
                refine zz_iret rfl d_PW_codeAt_87 ?_
                rw [hQ]; exact ⟨_, rfl, rfl, (by first | (exfalso; omega) | (unfold u8; (repeat' (first | rw [if_pos (by omega)] | rw [if_neg (by omega)]))))⟩
          · refine zz_iconst d_PW_codeAt_44 ?_
            refine ab_goto (tgt := 71) d_PW_codeAt_45 (by decide) ?_
            refine ab_istore d_PW_codeAt_71 (Nat.le_of_ble_eq_true rfl) (Nat.le_of_ble_eq_true rfl) rfl ?_
            change ab_W _ _ _ G 73 [some (vR a), some (vz p), some (vz n), some (vz (f p)), some (vz 0), none, none, none] [] _
            refine ab_iload d_PW_codeAt_73 rfl ?_
            refine zz_if_eq (tgt := 86) d_PW_codeAt_75 (by decide) (by decide) (fun c79 => ?_) (fun c79 => absurd c79 (by decide))
            refine zz_iconst d_PW_codeAt_86 ?_
            refine zz_iret rfl d_PW_codeAt_87 ?_
            rw [hQ]; exact ⟨_, rfl, rfl, (by first | (exfalso; omega) | (unfold u8; (repeat' (first | rw [if_pos (by omega)] | rw [if_neg (by omega)]))))⟩
      · refine ab_iload_n d_PW_codeAt_28 rfl ?_
        refine zz_iret rfl d_PW_codeAt_29 ?_
        rw [hQ]; exact ⟨_, rfl, rfl, (by first | (exfalso; omega) | (unfold u8; (repeat' (first | rw [if_pos (by omega)] | rw [if_neg (by omega)]))))⟩
set_option maxRecDepth 100000 in
set_option maxHeartbeats 4000000 in
theorem z_PW_undoOf {X : ab_X} {d : Nat} {o : Nat → Nat} {G : ab_G} {a : Nat} {l : Nat} {m : Nat} {f : Int → Int} {s : Int} (ha : cc o G a l (za m f)) (c0 : 0 ≤ s ∧ s < ↑m ∧ ↑m ≤ (100 : Int)) (c1 : -1 ≤ f s ∧ f s ≤ 4000) : ab_F X d y_PW_undoOf (.code y_PW_undoOf b_PW_undoOf 2 (some (.int))) [vR a, vz s] G (fun oc G2 => oc = .returned (some (vz (-1 - (s * 4096 + (f s + 1))))) ∧ G2 = G) := by
  refine ab_F_of (by decide +kernel) (Nat.le_of_ble_eq_true rfl) ?_
  obtain ⟨Q, hQ⟩ : ∃ z : Outcome → ab_G → Prop, z = (fun oc G2 => oc = .returned (some (vz (-1 - (s * 4096 + (f s + 1))))) ∧ G2 = G) := ⟨_, rfl⟩
  rw [← hQ]
  change ab_W X (ab_pl y_PW_undoOf b_PW_undoOf 2 (some (.int))) d G 0 [some (vR a), some (vz s)] [] Q
  have hfr : fx o o [] G G := fx.rf
  have hlen : G.length = G.length := rfl
  have hsl : ab_slots G = ab_slots G := rfl
  refine zz_iconst d_PW_undoOf_0 ?_
  refine ab_iload_n d_PW_undoOf_1 rfl ?_
  refine zz_bipush d_PW_undoOf_2 (by decide) ?_
  refine zz_ishl 12 4096 d_PW_undoOf_4 (by decide) (by decide) (by decide) ?_
  refine ab_aload_n d_PW_undoOf_5 rfl ?_
  refine ab_iload_n d_PW_undoOf_6 rfl ?_
  refine zz_iald d_PW_undoOf_7 ha (by omega) ?_
  refine zz_iconst d_PW_undoOf_8 ?_
  refine zz_iadd d_PW_undoOf_9 ?_
  refine zz_iorlow (a := s) 12 4096 d_PW_undoOf_10 (by decide) (by decide) (by omega) ?_
  refine zz_isub d_PW_undoOf_11 ?_
  refine zz_iret rfl d_PW_undoOf_12 ?_
  rw [hQ]; exact ⟨rfl, rfl⟩
set_option maxRecDepth 100000 in
set_option maxHeartbeats 4000000 in
theorem z_PW_undo {X : ab_X} {d : Nat} {o : Nat → Nat} {G : ab_G} {a : Nat} {l : Nat} {m : Nat} {f : Int → Int} {e : Int} (ha : cc o G a l (za m f)) (c0 : -1000000 ≤ e ∧ e < 0 ∧ (-1 - e) / 4096 < ↑m ∧ ↑m ≤ (100 : Int) ∧ ab_n0 ≤ l) : ab_F X d y_PW_undo (.code y_PW_undo b_PW_undo 3 none) [vR a, vz e] G (fun oc G2 => oc = .returned none ∧ fx o o [l] G G2 ∧ G2.length = G.length ∧ ab_slots G2 = ab_slots G ∧ cc o G2 a l (za m (zu f ((-1 - e) / 4096) ((-1 - e) % 4096 - 1)))) := by
  refine ab_F_of (by decide +kernel) (Nat.le_of_ble_eq_true rfl) ?_
  obtain ⟨Q, hQ⟩ : ∃ z : Outcome → ab_G → Prop, z = (fun oc G2 => oc = .returned none ∧ fx o o [l] G G2 ∧ G2.length = G.length ∧ ab_slots G2 = ab_slots G ∧ cc o G2 a l (za m (zu f ((-1 - e) / 4096) ((-1 - e) % 4096 - 1)))) := ⟨_, rfl⟩
  rw [← hQ]
  change ab_W X (ab_pl y_PW_undo b_PW_undo 3 none) d G 0 [some (vR a), some (vz e), none] [] Q
  have hfr : fx o o [l] G G := fx.rf
  have hlen : G.length = G.length := rfl
  have hsl : ab_slots G = ab_slots G := rfl
  refine zz_iconst d_PW_undo_0 ?_
  refine ab_iload_n d_PW_undo_1 rfl ?_
  refine zz_isub d_PW_undo_2 ?_
  refine ab_istore_n d_PW_undo_3 (Nat.le_of_ble_eq_true rfl) (Nat.le_of_ble_eq_true rfl) rfl ?_
  change ab_W _ _ _ G 4 [some (vR a), some (vz e), some (vz ((-1) - e))] [] _
  refine ab_aload_n d_PW_undo_4 rfl ?_
  refine ab_iload_n d_PW_undo_5 rfl ?_
  refine zz_bipush d_PW_undo_6 (by decide) ?_
  refine zz_ishr 12 4096 d_PW_undo_8 (by decide) (by decide) (by decide) (by decide) (by omega) ?_
  refine ab_iload_n d_PW_undo_9 rfl ?_
  refine zz_sipush d_PW_undo_10 (by decide) ?_
  refine zz_iand 12 4096 d_PW_undo_13 (by decide) (by decide) (by decide) (by decide) ?_
  refine zz_iconst d_PW_undo_14 ?_
  refine zz_isub d_PW_undo_15 ?_
  refine zz_iast d_PW_undo_16 ha (by omega) (ha.2.1 (by first | omega | exact (show 18 ≤ _ by omega))) ?_
  obtain ⟨G1, eG1⟩ : ∃ z : ab_G, z = List.set G a (za m (zu f (((-1) - e) / 4096) ((((-1) - e) % 4096) - 1))) := ⟨_, rfl⟩
  have hlen := (z_len eG1).trans hlen
  have hsl := (z_sl ha eG1 rfl).trans hsl
  have hfr := hfr.wr ha eG1 (by simp)
  have ha := ha.kept eG1
  change ab_W _ _ _ (List.set G a (za m (zu f (((-1) - e) / 4096) ((((-1) - e) % 4096) - 1)))) 17 [some (vR a), some (vz e), some (vz ((-1) - e))] [] _
  rw [← eG1]
  refine ab_vret rfl d_PW_undo_17 ?_
  rw [hQ]; exact ⟨rfl, hfr, hlen, hsl, ha⟩
