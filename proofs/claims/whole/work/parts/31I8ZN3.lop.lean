theorem z_and31 (y : Int32) : ∃ v : Int, (0 ≤ v ∧ v ≤ 31) ∧ y &&& Int32.ofInt 31 = Int32.ofInt v := by
  have h : (y &&& Int32.ofInt 31).toBitVec.toNat ≤ 31 := by
    rw [Int32.toBitVec_and, BitVec.toNat_and]
    exact Nat.le_trans Nat.and_le_right (by decide)
  refine ⟨((y &&& Int32.ofInt 31).toBitVec.toNat : Int), by omega, ?_⟩
  apply Int32.toBitVec_inj.mp
  apply BitVec.eq_of_toNat_eq
  rw [Int32.toBitVec_ofInt, z_nat ⟨by omega, by omega⟩]
  omega
set_option maxRecDepth 100000 in
set_option maxHeartbeats 4000000 in
theorem law_loop {X : ab_X} {L : Nat} {f : Int → Int} (hff : ∀ k : Int, -2147483648 ≤ f k ∧ f k ≤ 2147483647) (hL : ↑L ≤ (3072 : Int)) (n18 : ab_n0 = 18) : ∀ (lf : Nat) (o : Nat → Nat) (G : ab_G) (F : Int → Int) (t i : Int), lwI o G L f F lf t → 0 ≤ i → i ≤ 3078 → 3072 ≤ i + 6 * ↑lf → ab_W X ab_LW 2048 G 23 [some (vR 0), some (vR 18), some (vR 80), some (vR 148), some (vz i), none, none] [] (fun oc _ => oc = .returned (some (.int 1))) := by
  intro lf
  induction lf with
  | zero =>
    intro o G F t i h h1 h2 h3
    refine ab_iload d_LA_law_23 rfl ?_
    refine ab_aload_n d_LA_law_25 rfl ?_
    refine zz_alen d_LA_law_26 h.h0 ?_
    refine zz_bipush d_LA_law_27 (by decide) ?_
    refine zz_isub d_LA_law_29 ?_
    refine zz_icmp_gt (tgt := 937) d_LA_law_30 (by decide) (by omega) (by omega) (fun _ => ?_) (fun c => absurd c (by omega))
    refine zz_iconst d_LA_law_937 ?_
    exact ab_iret rfl rfl d_LA_law_938 rfl
  | succ lf ih =>
    intro o G F t i h h1 h2 h3
    refine ab_iload d_LA_law_23 rfl ?_
    refine ab_aload_n d_LA_law_25 rfl ?_
    refine zz_alen d_LA_law_26 h.h0 ?_
    refine zz_bipush d_LA_law_27 (by decide) ?_
    refine zz_isub d_LA_law_29 ?_
    refine zz_icmp_gt (tgt := 937) d_LA_law_30 (by decide) (by omega) (by omega) (fun _ => ?_) (fun c => ?_)
    · refine zz_iconst d_LA_law_937 ?_
      exact ab_iret rfl rfl d_LA_law_938 rfl
    · have hi : 0 ≤ i ∧ i + 6 ≤ ↑L ∧ ↑L ≤ (3072 : Int) := by omega
      have K : ∀ (o2 : Nat → Nat) (G2 : ab_G) (F2 : Int → Int) (t2 : Int), lwI o2 G2 L f F2 lf t2 → ab_W X ab_LW 2048 G2 931 [some (vR 0), some (vR 18), some (vR 80), some (vR 148), some (vz i), none, none] [] (fun oc _ => oc = .returned (some (.int 1))) := by
        intro o2 G2 F2 t2 h9
        refine zz_iinc d_LA_law_931 rfl (Nat.le_of_ble_eq_true rfl) (Nat.le_of_ble_eq_true rfl) rfl ?_
        refine ab_goto d_LA_law_934 (tgt := 23) (by decide) ?_
        exact ih o2 G2 F2 t2 (i + 6) h9 (by omega) (by omega) (by omega)
      refine ab_aload_n d_LA_law_33 rfl ?_
      refine ab_iload d_LA_law_34 rfl ?_
      refine zz_iald d_LA_law_36 h.h0 (by omega) ?_
      refine zz_bipush d_LA_law_37 (by decide) ?_
      refine ab_iand d_LA_law_39 ?_
      obtain ⟨v, hv, ev⟩ := z_and31 (Int32.ofInt (f i))
      refine ab_topi ev ?_
      by_cases c0 : v = 0
      · refine zz_tableIn (off := 92) (tgt := 132) d_LA_law_40 (by omega) (by omega) (by omega) (by rw [c0]; decide) (by decide) ?_
        exact lq_0 h hff hi n18 K
      by_cases c1 : v = 1
      · refine zz_tableIn (off := 163) (tgt := 203) d_LA_law_40 (by omega) (by omega) (by omega) (by rw [c1]; decide) (by decide) ?_
        exact lq_1 h hff hi n18 K
      by_cases c2 : v = 2
      · refine zz_tableIn (off := 188) (tgt := 228) d_LA_law_40 (by omega) (by omega) (by omega) (by rw [c2]; decide) (by decide) ?_
        exact lq_2 h hff hi n18 K
      by_cases c3 : v = 3
      · refine zz_tableIn (off := 256) (tgt := 296) d_LA_law_40 (by omega) (by omega) (by omega) (by rw [c3]; decide) (by decide) ?_
        exact lq_3 h hff hi n18 K
      by_cases c4 : v = 4
      · refine zz_tableIn (off := 281) (tgt := 321) d_LA_law_40 (by omega) (by omega) (by omega) (by rw [c4]; decide) (by decide) ?_
        exact lq_4 h hff hi n18 K
      by_cases c5 : v = 5
      · refine zz_tableIn (off := 318) (tgt := 358) d_LA_law_40 (by omega) (by omega) (by omega) (by rw [c5]; decide) (by decide) ?_
        exact lq_5 h hff hi n18 K
      by_cases c6 : v = 6
      · refine zz_tableIn (off := 367) (tgt := 407) d_LA_law_40 (by omega) (by omega) (by omega) (by rw [c6]; decide) (by decide) ?_
        exact lq_6 h hff hi n18 K
      by_cases c7 : v = 7
      · refine zz_tableIn (off := 380) (tgt := 420) d_LA_law_40 (by omega) (by omega) (by omega) (by rw [c7]; decide) (by decide) ?_
        exact lq_7 h hff hi n18 K
      by_cases c8 : v = 8
      · refine zz_tableIn (off := 472) (tgt := 512) d_LA_law_40 (by omega) (by omega) (by omega) (by rw [c8]; decide) (by decide) ?_
        exact lq_8 h hff hi n18 K
      by_cases c9 : v = 9
      · refine zz_tableIn (off := 509) (tgt := 549) d_LA_law_40 (by omega) (by omega) (by omega) (by rw [c9]; decide) (by decide) ?_
        exact lq_9 h hff hi n18 K
      by_cases c10 : v = 10
      · refine zz_tableIn (off := 565) (tgt := 605) d_LA_law_40 (by omega) (by omega) (by omega) (by rw [c10]; decide) (by decide) ?_
        exact lq_10 h hff hi n18 K
      by_cases c11 : v = 11
      · refine zz_tableIn (off := 602) (tgt := 642) d_LA_law_40 (by omega) (by omega) (by omega) (by rw [c11]; decide) (by decide) ?_
        exact lq_11 h hff hi n18 K
      by_cases c12 : v = 12
      · refine zz_tableIn (off := 658) (tgt := 698) d_LA_law_40 (by omega) (by omega) (by omega) (by rw [c12]; decide) (by decide) ?_
        exact lq_12 h hff hi n18 K
      by_cases c13 : v = 13
      · refine zz_tableIn (off := 714) (tgt := 754) d_LA_law_40 (by omega) (by omega) (by omega) (by rw [c13]; decide) (by decide) ?_
        exact lq_13 h hff hi n18 K
      by_cases c14 : v = 14
      · refine zz_tableIn (off := 751) (tgt := 791) d_LA_law_40 (by omega) (by omega) (by omega) (by rw [c14]; decide) (by decide) ?_
        exact lq_14 h hff hi n18 K
      by_cases c15 : v = 15
      · refine zz_tableIn (off := 804) (tgt := 844) d_LA_law_40 (by omega) (by omega) (by omega) (by rw [c15]; decide) (by decide) ?_
        exact lq_15 h hff hi n18 K
      by_cases c16 : v = 16
      · refine zz_tableIn (off := 817) (tgt := 857) d_LA_law_40 (by omega) (by omega) (by omega) (by rw [c16]; decide) (by decide) ?_
        exact lq_16 h hff hi n18 K
      by_cases c17 : v = 17
      · refine zz_tableIn (off := 842) (tgt := 882) d_LA_law_40 (by omega) (by omega) (by omega) (by rw [c17]; decide) (by decide) ?_
        exact lq_17 h hff hi n18 K
      by_cases c18 : v = 18
      · refine zz_tableIn (off := 878) (tgt := 918) d_LA_law_40 (by omega) (by omega) (by omega) (by rw [c18]; decide) (by decide) ?_
        exact lq_18 h hff hi n18 K
      refine zz_tableOut (tgt := 931) d_LA_law_40 (by omega) (by omega) (by decide) ?_
      obtain ⟨_, _, _, _, _, _, _, _, _, _, _, _, _, _, _, _, _, _, _, _, _, _, _, _, _, _, _, _, _, _, _, _, _, _, _, _, _, _, _, q1, q2, q3, q4, q5⟩ := h
      exact K o G F t ⟨_, _, _, _, _, _, _, _, _, _, _, _, _, _, _, _, _, _, _, _, _, _, _, _, _, _, _, _, _, _, _, _, _, _, _, _, _, _, _, q1.le, q2, q3, q4, q5⟩
