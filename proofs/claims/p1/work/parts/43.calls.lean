set_option maxRecDepth 100000 in
set_option maxHeartbeats 4000000 in
theorem q_MO_end_3 {X : ab_X} {d : Nat} {G : ab_G} {xs : Nat → Int32} (hlen : G.length = 149) (hsl : ab_slots G = 1890753) (h80 : G[80]? = some (ab_ob 12 (m_fv (vI 0) (vI 0) (vI 0) (vI 0) (vI 0) (vI 0) (vI 0) (vI 0) (vI 0) (vI 0) (vI 0) (vI 0) (vI (-1)) (vI 0) (vI 0) (vI 0) (vI 0) (vI 0) (vI 0) (vI 0) (vI 0) (vI 0) (vI 0) (vI 0) (vI 0) (vI 0) (vI 0) (vI 0) (vI 0) (vI 0) (vI 0) (vI 0) (vI 0) (vI 0) (vI 0)))) (h83 : G[83]? = some (ab_if 20 ((fun _ => 0)))) (h84 : G[84]? = some (ab_if 2000 ((fun _ => 0)))) (c0 : 0 ≤ (xs 1)) (c1 : (xs 1) ≤ 20) : ab_F X d y_MO_end (.code y_MO_end b_MO_end 3 (some (.int))) [vR 80, vI (xs 1)] G (fun o G2 => o = .returned (some (vI (xs 1))) ∧ ab_fr [80, 83, 84] G G2 ∧ G2.length = 149 ∧ ab_slots G2 = 1890753 ∧ G2[80]? = some (ab_ob 12 (m_fv (vI 0) (vI (xs 1)) (vI 0) (vI 0) (vI 0) (vI 0) (vI 0) (vI 0) (vI 0) (vI 0) (vI 0) (vI 0) (vI (-1)) (vI 0) (vI 0) (vI 0) (vI 0) (vI 0) (vI 0) (vI 0) (vI 0) (vI 0) (vI 0) (vI 0) (vI 0) (vI 0) (vI 0) (vI 0) (vI 0) (vI 0) (vI 0) (vI 0) (vI 0) (vI 0) (vI 0))) ∧ (∃ g : Nat → Int32, G2[83]? = some (ab_if 20 (g))) ∧ (∃ g : Nat → Int32, G2[84]? = some (ab_if 2000 (g)))) := by
  refine ab_F_of (by decide +kernel) (Nat.le_of_ble_eq_true rfl) ?_
  obtain ⟨Q, hQ⟩ : ∃ z : Outcome → ab_G → Prop, z = (fun o G2 => o = .returned (some (vI (xs 1))) ∧ ab_fr [80, 83, 84] G G2 ∧ G2.length = 149 ∧ ab_slots G2 = 1890753 ∧ G2[80]? = some (ab_ob 12 (m_fv (vI 0) (vI (xs 1)) (vI 0) (vI 0) (vI 0) (vI 0) (vI 0) (vI 0) (vI 0) (vI 0) (vI 0) (vI 0) (vI (-1)) (vI 0) (vI 0) (vI 0) (vI 0) (vI 0) (vI 0) (vI 0) (vI 0) (vI 0) (vI 0) (vI 0) (vI 0) (vI 0) (vI 0) (vI 0) (vI 0) (vI 0) (vI 0) (vI 0) (vI 0) (vI 0) (vI 0))) ∧ (∃ g : Nat → Int32, G2[83]? = some (ab_if 20 (g))) ∧ (∃ g : Nat → Int32, G2[84]? = some (ab_if 2000 (g)))) := ⟨_, rfl⟩
  rw [← hQ]
  change ab_W X (ab_pl y_MO_end b_MO_end 3 (some (.int))) d G 0 [some (vR 80), some (vI (xs 1)), none] [] Q
  have hfr : ab_fr [80, 83, 84] G G := ab_fr.rf
  refine ab_aload_n d_MO_end_0 rfl ?_
  refine ab_iconst (v := 0) d_MO_end_1 (by decide) ?_
  refine ab_putf (fs := (m_fv (vI 0) (vI 0) (vI 0) (vI 0) (vI 0) (vI 0) (vI 0) (vI 0) (vI 0) (vI 0) (vI 0) (vI 0) (vI (-1)) (vI 0) (vI 0) (vI 0) (vI 0) (vI 0) (vI 0) (vI 0) (vI 0) (vI 0) (vI 0) (vI 0) (vI 0) (vI 0) (vI 0) (vI 0) (vI 0) (vI 0) (vI 0) (vI 0) (vI 0) (vI 0) (vI 0))) f_MO_220 (Or.inl rfl) d_MO_end_2 h80 (Nat.le_of_ble_eq_true rfl) (fun _ => ⟨rfl, rfl⟩) (by decide) ?_
  obtain ⟨G1, eG1⟩ : ∃ z : ab_G, z = List.set G 80 (ab_ob 12 (m_fv (vI 0) (vI 0) (vI 0) (vI 0) (vI 0) (vI 0) (vI 0) (vI 0) (vI 0) (vI 0) (vI 0) (vI 0) (vI (-1)) (vI 0) (vI 0) (vI 0) (vI 0) (vI 0) (vI 0) (vI 0) (vI 0) (vI 0) (vI 0) (vI 0) (vI 0) (vI 0) (vI 0) (vI 0) (vI 0) (vI 0) (vI 0) (vI 0) (vI 0) (vI 0) (vI 0))) := ⟨_, rfl⟩
  have h83 := ab_keep eG1 (by decide) h83
  have h84 := ab_keep eG1 (by decide) h84
  have hlen := ab_klen eG1 hlen
  have hsl := ab_ksl 102 eG1 h80 rfl rfl hsl
  have hfr := hfr.wr eG1 (by decide)
  have h80 := ab_kept eG1 h80
  change ab_W _ _ _ (List.set G 80 (ab_ob 12 (m_fv (vI 0) (vI 0) (vI 0) (vI 0) (vI 0) (vI 0) (vI 0) (vI 0) (vI 0) (vI 0) (vI 0) (vI 0) (vI (-1)) (vI 0) (vI 0) (vI 0) (vI 0) (vI 0) (vI 0) (vI 0) (vI 0) (vI 0) (vI 0) (vI 0) (vI 0) (vI 0) (vI 0) (vI 0) (vI 0) (vI 0) (vI 0) (vI 0) (vI 0) (vI 0) (vI 0)))) 5 [some (vR 80), some (vI (xs 1)), none] [] _
  rw [← eG1]
  refine ab_iload_n d_MO_end_5 rfl ?_
  refine ab_if_lt (tgt := 27) d_MO_end_6 (by decide) (fun c2 => ?_) (fun c2 => ?_)
  · exfalso; have l0 := (show (0 : Int32).toInt = 0 by decide); have l1 := (show (20 : Int32).toInt = 20 by decide); simp only [Int32.le_iff_toInt_le, Int32.lt_iff_toInt_lt, ← Int32.toInt_inj] at c0 c1 c2; omega
  · refine ab_iload_n d_MO_end_9 rfl ?_
    refine ab_bipush (v := 20) d_MO_end_10 (by decide) ?_
    refine ab_icmp_gt (tgt := 27) d_MO_end_12 (by decide) (fun c3 => ?_) (fun c3 => ?_)
    · exfalso; have l0 := (show (0 : Int32).toInt = 0 by decide); have l1 := (show (20 : Int32).toInt = 20 by decide); simp only [Int32.le_iff_toInt_le, Int32.lt_iff_toInt_lt, ← Int32.toInt_inj] at c0 c1 c2 c3; omega
    · refine ab_aload_n d_MO_end_15 rfl ?_
      refine ab_getf (fs := (m_fv (vI 0) (vI 0) (vI 0) (vI 0) (vI 0) (vI 0) (vI 0) (vI 0) (vI 0) (vI 0) (vI 0) (vI 0) (vI (-1)) (vI 0) (vI 0) (vI 0) (vI 0) (vI 0) (vI 0) (vI 0) (vI 0) (vI 0) (vI 0) (vI 0) (vI 0) (vI 0) (vI 0) (vI 0) (vI 0) (vI 0) (vI 0) (vI 0) (vI 0) (vI 0) (vI 0))) f_MO_223 d_MO_end_16 h80 rfl ?_
      refine ab_iload_n d_MO_end_19 rfl ?_
      refine ab_iadd d_MO_end_20 ?_
      refine ab_topi (y := (xs 1)) (Int32.zero_add _) ?_
      refine ab_sipush (v := 2000) d_MO_end_21 (by decide) ?_
      refine ab_icmp_le (tgt := 29) d_MO_end_24 (by decide) (fun c4 => ?_) (fun c4 => ?_)
      · refine ab_iconst (v := 0) d_MO_end_29 (by decide) ?_
        refine ab_istore_n d_MO_end_30 (Nat.le_of_ble_eq_true rfl) (Nat.le_of_ble_eq_true rfl) rfl ?_
        change ab_W _ _ _ G1 31 [some (vR 80), some (vI (xs 1)), some (vI 0)] [] _
        refine ab_iload_n d_MO_end_31 rfl ?_
        refine ab_iload_n d_MO_end_32 rfl ?_
        refine ab_icmp_ge (tgt := 59) d_MO_end_33 (by decide) (fun c5 => ?_) (fun c5 => ?_)
        · refine ab_less (L' := [some (vR 80), some (vI (xs 1)), none]) (fun i v h => by rcases i with _ | _ | _ | i <;> first | exact h | (simp at h)) ?_
          refine s_MO_end_59_0 (xs := xs) hlen hsl h80 h83 (fun o Gz hq => ?_)
          obtain ⟨hv, hfk, hlen, hsl, h80, ⟨f83_1, h83⟩⟩ := hq
          have h84 := hfk.get (by decide) h84
          have hfr := hfr.cl hfk (by decide)
          rw [hQ]; exact ⟨hv, hfr, hlen, hsl, h80, ⟨_, h83⟩, ⟨_, h84⟩⟩
        · refine ab_aload_n d_MO_end_36 rfl ?_
          refine ab_getf (fs := (m_fv (vI 0) (vI 0) (vI 0) (vI 0) (vI 0) (vI 0) (vI 0) (vI 0) (vI 0) (vI 0) (vI 0) (vI 0) (vI (-1)) (vI 0) (vI 0) (vI 0) (vI 0) (vI 0) (vI 0) (vI 0) (vI 0) (vI 0) (vI 0) (vI 0) (vI 0) (vI 0) (vI 0) (vI 0) (vI 0) (vI 0) (vI 0) (vI 0) (vI 0) (vI 0) (vI 0))) f_MO_19 d_MO_end_37 h80 rfl ?_
          refine ab_aload_n d_MO_end_40 rfl ?_
          refine ab_getf (fs := (m_fv (vI 0) (vI 0) (vI 0) (vI 0) (vI 0) (vI 0) (vI 0) (vI 0) (vI 0) (vI 0) (vI 0) (vI 0) (vI (-1)) (vI 0) (vI 0) (vI 0) (vI 0) (vI 0) (vI 0) (vI 0) (vI 0) (vI 0) (vI 0) (vI 0) (vI 0) (vI 0) (vI 0) (vI 0) (vI 0) (vI 0) (vI 0) (vI 0) (vI 0) (vI 0) (vI 0))) f_MO_223 d_MO_end_41 h80 rfl ?_
          refine ab_iload_n d_MO_end_44 rfl ?_
          refine ab_iadd d_MO_end_45 ?_
          refine ab_topi (y := 0) (by decide) ?_
          refine ab_aload_n d_MO_end_46 rfl ?_
          refine ab_getf (fs := (m_fv (vI 0) (vI 0) (vI 0) (vI 0) (vI 0) (vI 0) (vI 0) (vI 0) (vI 0) (vI 0) (vI 0) (vI 0) (vI (-1)) (vI 0) (vI 0) (vI 0) (vI 0) (vI 0) (vI 0) (vI 0) (vI 0) (vI 0) (vI 0) (vI 0) (vI 0) (vI 0) (vI 0) (vI 0) (vI 0) (vI 0) (vI 0) (vI 0) (vI 0) (vI 0) (vI 0))) f_MO_16 d_MO_end_47 h80 rfl ?_
          refine ab_iload_n d_MO_end_50 rfl ?_
          refine ab_iald d_MO_end_51 h83 (by unfold vp_in; decide) ?_
          refine ab_topi (y := 0) rfl ?_
          refine ab_iast d_MO_end_52 h84 (by unfold vp_in; decide) (by decide) ?_
          obtain ⟨G2, eG2⟩ : ∃ z : ab_G, z = List.set G1 84 (ab_if 2000 ((upd (fun _ => 0) 0 0))) := ⟨_, rfl⟩
          have h80 := ab_keep eG2 (by decide) h80
          have h83 := ab_keep eG2 (by decide) h83
          have hlen := ab_klen eG2 hlen
          have hsl := ab_ksl 2000 eG2 h84 rfl rfl hsl
          have hfr := hfr.wr eG2 (by decide)
          have h84 := ab_kept eG2 h84
          change ab_W _ _ _ (List.set G1 84 (ab_if 2000 ((upd (fun _ => 0) 0 0)))) 53 [some (vR 80), some (vI (xs 1)), some (vI 0)] [] _
          rw [← eG2]
          obtain ⟨f84_2, h84⟩ : ∃ g : Nat → Int32, G2[84]? = some (ab_if 2000 (g)) := ⟨_, h84⟩
          refine ab_iinc (v := 1) d_MO_end_53 rfl (by decide) (Nat.le_of_ble_eq_true rfl) (Nat.le_of_ble_eq_true rfl) rfl ?_
          change ab_W _ _ _ G2 56 [some (vR 80), some (vI (xs 1)), some (vI 1)] [] _
          refine ab_goto (tgt := 31) d_MO_end_56 (by decide) ?_
          refine ab_iload_n d_MO_end_31 rfl ?_
          refine ab_iload_n d_MO_end_32 rfl ?_
          refine ab_icmp_ge (tgt := 59) d_MO_end_33 (by decide) (fun c6 => ?_) (fun c6 => ?_)
          · refine ab_less (L' := [some (vR 80), some (vI (xs 1)), none]) (fun i v h => by rcases i with _ | _ | _ | i <;> first | exact h | (simp at h)) ?_
            refine s_MO_end_59_0 (xs := xs) hlen hsl h80 h83 (fun o Gz hq => ?_)
            obtain ⟨hv, hfk, hlen, hsl, h80, ⟨f83_3, h83⟩⟩ := hq
            have h84 := hfk.get (by decide) h84
            have hfr := hfr.cl hfk (by decide)
            rw [hQ]; exact ⟨hv, hfr, hlen, hsl, h80, ⟨_, h83⟩, ⟨_, h84⟩⟩
          · refine ab_aload_n d_MO_end_36 rfl ?_
            refine ab_getf (fs := (m_fv (vI 0) (vI 0) (vI 0) (vI 0) (vI 0) (vI 0) (vI 0) (vI 0) (vI 0) (vI 0) (vI 0) (vI 0) (vI (-1)) (vI 0) (vI 0) (vI 0) (vI 0) (vI 0) (vI 0) (vI 0) (vI 0) (vI 0) (vI 0) (vI 0) (vI 0) (vI 0) (vI 0) (vI 0) (vI 0) (vI 0) (vI 0) (vI 0) (vI 0) (vI 0) (vI 0))) f_MO_19 d_MO_end_37 h80 rfl ?_
            refine ab_aload_n d_MO_end_40 rfl ?_
            refine ab_getf (fs := (m_fv (vI 0) (vI 0) (vI 0) (vI 0) (vI 0) (vI 0) (vI 0) (vI 0) (vI 0) (vI 0) (vI 0) (vI 0) (vI (-1)) (vI 0) (vI 0) (vI 0) (vI 0) (vI 0) (vI 0) (vI 0) (vI 0) (vI 0) (vI 0) (vI 0) (vI 0) (vI 0) (vI 0) (vI 0) (vI 0) (vI 0) (vI 0) (vI 0) (vI 0) (vI 0) (vI 0))) f_MO_223 d_MO_end_41 h80 rfl ?_
            refine ab_iload_n d_MO_end_44 rfl ?_
            refine ab_iadd d_MO_end_45 ?_
            refine ab_topi (y := 1) (by decide) ?_
            refine ab_aload_n d_MO_end_46 rfl ?_
            refine ab_getf (fs := (m_fv (vI 0) (vI 0) (vI 0) (vI 0) (vI 0) (vI 0) (vI 0) (vI 0) (vI 0) (vI 0) (vI 0) (vI 0) (vI (-1)) (vI 0) (vI 0) (vI 0) (vI 0) (vI 0) (vI 0) (vI 0) (vI 0) (vI 0) (vI 0) (vI 0) (vI 0) (vI 0) (vI 0) (vI 0) (vI 0) (vI 0) (vI 0) (vI 0) (vI 0) (vI 0) (vI 0))) f_MO_16 d_MO_end_47 h80 rfl ?_
            refine ab_iload_n d_MO_end_50 rfl ?_
            refine ab_iald d_MO_end_51 h83 (by unfold vp_in; decide) ?_
            refine ab_topi (y := 0) rfl ?_
            refine ab_iast d_MO_end_52 h84 (by unfold vp_in; decide) (by decide) ?_
            obtain ⟨G3, eG3⟩ : ∃ z : ab_G, z = List.set G2 84 (ab_if 2000 ((upd f84_2 1 0))) := ⟨_, rfl⟩
            have h80 := ab_keep eG3 (by decide) h80
            have h83 := ab_keep eG3 (by decide) h83
            have hlen := ab_klen eG3 hlen
            have hsl := ab_ksl 2000 eG3 h84 rfl rfl hsl
            have hfr := hfr.wr eG3 (by decide)
            have h84 := ab_kept eG3 h84
            change ab_W _ _ _ (List.set G2 84 (ab_if 2000 ((upd f84_2 1 0)))) 53 [some (vR 80), some (vI (xs 1)), some (vI 1)] [] _
            rw [← eG3]
            obtain ⟨f84_4, h84⟩ : ∃ g : Nat → Int32, G3[84]? = some (ab_if 2000 (g)) := ⟨_, h84⟩
            refine ab_iinc (v := 2) d_MO_end_53 rfl (by decide) (Nat.le_of_ble_eq_true rfl) (Nat.le_of_ble_eq_true rfl) rfl ?_
            change ab_W _ _ _ G3 56 [some (vR 80), some (vI (xs 1)), some (vI 2)] [] _
            refine ab_goto (tgt := 31) d_MO_end_56 (by decide) ?_
            refine ab_iload_n d_MO_end_31 rfl ?_
            refine ab_iload_n d_MO_end_32 rfl ?_
            refine ab_icmp_ge (tgt := 59) d_MO_end_33 (by decide) (fun c7 => ?_) (fun c7 => ?_)
            · refine ab_less (L' := [some (vR 80), some (vI (xs 1)), none]) (fun i v h => by rcases i with _ | _ | _ | i <;> first | exact h | (simp at h)) ?_
              refine s_MO_end_59_0 (xs := xs) hlen hsl h80 h83 (fun o Gz hq => ?_)
              obtain ⟨hv, hfk, hlen, hsl, h80, ⟨f83_5, h83⟩⟩ := hq
              have h84 := hfk.get (by decide) h84
              have hfr := hfr.cl hfk (by decide)
              rw [hQ]; exact ⟨hv, hfr, hlen, hsl, h80, ⟨_, h83⟩, ⟨_, h84⟩⟩
            · refine ab_aload_n d_MO_end_36 rfl ?_
              refine ab_getf (fs := (m_fv (vI 0) (vI 0) (vI 0) (vI 0) (vI 0) (vI 0) (vI 0) (vI 0) (vI 0) (vI 0) (vI 0) (vI 0) (vI (-1)) (vI 0) (vI 0) (vI 0) (vI 0) (vI 0) (vI 0) (vI 0) (vI 0) (vI 0) (vI 0) (vI 0) (vI 0) (vI 0) (vI 0) (vI 0) (vI 0) (vI 0) (vI 0) (vI 0) (vI 0) (vI 0) (vI 0))) f_MO_19 d_MO_end_37 h80 rfl ?_
              refine ab_aload_n d_MO_end_40 rfl ?_
              refine ab_getf (fs := (m_fv (vI 0) (vI 0) (vI 0) (vI 0) (vI 0) (vI 0) (vI 0) (vI 0) (vI 0) (vI 0) (vI 0) (vI 0) (vI (-1)) (vI 0) (vI 0) (vI 0) (vI 0) (vI 0) (vI 0) (vI 0) (vI 0) (vI 0) (vI 0) (vI 0) (vI 0) (vI 0) (vI 0) (vI 0) (vI 0) (vI 0) (vI 0) (vI 0) (vI 0) (vI 0) (vI 0))) f_MO_223 d_MO_end_41 h80 rfl ?_
              refine ab_iload_n d_MO_end_44 rfl ?_
              refine ab_iadd d_MO_end_45 ?_
              refine ab_topi (y := 2) (by decide) ?_
              refine ab_aload_n d_MO_end_46 rfl ?_
              refine ab_getf (fs := (m_fv (vI 0) (vI 0) (vI 0) (vI 0) (vI 0) (vI 0) (vI 0) (vI 0) (vI 0) (vI 0) (vI 0) (vI 0) (vI (-1)) (vI 0) (vI 0) (vI 0) (vI 0) (vI 0) (vI 0) (vI 0) (vI 0) (vI 0) (vI 0) (vI 0) (vI 0) (vI 0) (vI 0) (vI 0) (vI 0) (vI 0) (vI 0) (vI 0) (vI 0) (vI 0) (vI 0))) f_MO_16 d_MO_end_47 h80 rfl ?_
              refine ab_iload_n d_MO_end_50 rfl ?_
              refine ab_iald d_MO_end_51 h83 (by unfold vp_in; decide) ?_
              refine ab_topi (y := 0) rfl ?_
              refine ab_iast d_MO_end_52 h84 (by unfold vp_in; decide) (by decide) ?_
              obtain ⟨G4, eG4⟩ : ∃ z : ab_G, z = List.set G3 84 (ab_if 2000 ((upd f84_4 2 0))) := ⟨_, rfl⟩
              have h80 := ab_keep eG4 (by decide) h80
              have h83 := ab_keep eG4 (by decide) h83
              have hlen := ab_klen eG4 hlen
              have hsl := ab_ksl 2000 eG4 h84 rfl rfl hsl
              have hfr := hfr.wr eG4 (by decide)
              have h84 := ab_kept eG4 h84
              change ab_W _ _ _ (List.set G3 84 (ab_if 2000 ((upd f84_4 2 0)))) 53 [some (vR 80), some (vI (xs 1)), some (vI 2)] [] _
              rw [← eG4]
              obtain ⟨f84_6, h84⟩ : ∃ g : Nat → Int32, G4[84]? = some (ab_if 2000 (g)) := ⟨_, h84⟩
              refine ab_iinc (v := 3) d_MO_end_53 rfl (by decide) (Nat.le_of_ble_eq_true rfl) (Nat.le_of_ble_eq_true rfl) rfl ?_
              change ab_W _ _ _ G4 56 [some (vR 80), some (vI (xs 1)), some (vI 3)] [] _
              refine ab_goto (tgt := 31) d_MO_end_56 (by decide) ?_
              refine ab_iload_n d_MO_end_31 rfl ?_
              refine ab_iload_n d_MO_end_32 rfl ?_
              refine ab_icmp_ge (tgt := 59) d_MO_end_33 (by decide) (fun c8 => ?_) (fun c8 => ?_)
              · refine ab_less (L' := [some (vR 80), some (vI (xs 1)), none]) (fun i v h => by rcases i with _ | _ | _ | i <;> first | exact h | (simp at h)) ?_
                refine s_MO_end_59_0 (xs := xs) hlen hsl h80 h83 (fun o Gz hq => ?_)
                obtain ⟨hv, hfk, hlen, hsl, h80, ⟨f83_7, h83⟩⟩ := hq
                have h84 := hfk.get (by decide) h84
                have hfr := hfr.cl hfk (by decide)
                rw [hQ]; exact ⟨hv, hfr, hlen, hsl, h80, ⟨_, h83⟩, ⟨_, h84⟩⟩
              · refine ab_aload_n d_MO_end_36 rfl ?_
                refine ab_getf (fs := (m_fv (vI 0) (vI 0) (vI 0) (vI 0) (vI 0) (vI 0) (vI 0) (vI 0) (vI 0) (vI 0) (vI 0) (vI 0) (vI (-1)) (vI 0) (vI 0) (vI 0) (vI 0) (vI 0) (vI 0) (vI 0) (vI 0) (vI 0) (vI 0) (vI 0) (vI 0) (vI 0) (vI 0) (vI 0) (vI 0) (vI 0) (vI 0) (vI 0) (vI 0) (vI 0) (vI 0))) f_MO_19 d_MO_end_37 h80 rfl ?_
                refine ab_aload_n d_MO_end_40 rfl ?_
                refine ab_getf (fs := (m_fv (vI 0) (vI 0) (vI 0) (vI 0) (vI 0) (vI 0) (vI 0) (vI 0) (vI 0) (vI 0) (vI 0) (vI 0) (vI (-1)) (vI 0) (vI 0) (vI 0) (vI 0) (vI 0) (vI 0) (vI 0) (vI 0) (vI 0) (vI 0) (vI 0) (vI 0) (vI 0) (vI 0) (vI 0) (vI 0) (vI 0) (vI 0) (vI 0) (vI 0) (vI 0) (vI 0))) f_MO_223 d_MO_end_41 h80 rfl ?_
                refine ab_iload_n d_MO_end_44 rfl ?_
                refine ab_iadd d_MO_end_45 ?_
                refine ab_topi (y := 3) (by decide) ?_
                refine ab_aload_n d_MO_end_46 rfl ?_
                refine ab_getf (fs := (m_fv (vI 0) (vI 0) (vI 0) (vI 0) (vI 0) (vI 0) (vI 0) (vI 0) (vI 0) (vI 0) (vI 0) (vI 0) (vI (-1)) (vI 0) (vI 0) (vI 0) (vI 0) (vI 0) (vI 0) (vI 0) (vI 0) (vI 0) (vI 0) (vI 0) (vI 0) (vI 0) (vI 0) (vI 0) (vI 0) (vI 0) (vI 0) (vI 0) (vI 0) (vI 0) (vI 0))) f_MO_16 d_MO_end_47 h80 rfl ?_
                refine ab_iload_n d_MO_end_50 rfl ?_
                refine ab_iald d_MO_end_51 h83 (by unfold vp_in; decide) ?_
                refine ab_topi (y := 0) rfl ?_
                refine ab_iast d_MO_end_52 h84 (by unfold vp_in; decide) (by decide) ?_
                obtain ⟨G5, eG5⟩ : ∃ z : ab_G, z = List.set G4 84 (ab_if 2000 ((upd f84_6 3 0))) := ⟨_, rfl⟩
                have h80 := ab_keep eG5 (by decide) h80
                have h83 := ab_keep eG5 (by decide) h83
                have hlen := ab_klen eG5 hlen
                have hsl := ab_ksl 2000 eG5 h84 rfl rfl hsl
                have hfr := hfr.wr eG5 (by decide)
                have h84 := ab_kept eG5 h84
                change ab_W _ _ _ (List.set G4 84 (ab_if 2000 ((upd f84_6 3 0)))) 53 [some (vR 80), some (vI (xs 1)), some (vI 3)] [] _
                rw [← eG5]
                obtain ⟨f84_8, h84⟩ : ∃ g : Nat → Int32, G5[84]? = some (ab_if 2000 (g)) := ⟨_, h84⟩
                refine ab_iinc (v := 4) d_MO_end_53 rfl (by decide) (Nat.le_of_ble_eq_true rfl) (Nat.le_of_ble_eq_true rfl) rfl ?_
                change ab_W _ _ _ G5 56 [some (vR 80), some (vI (xs 1)), some (vI 4)] [] _
                refine ab_goto (tgt := 31) d_MO_end_56 (by decide) ?_
                refine ab_iload_n d_MO_end_31 rfl ?_
                refine ab_iload_n d_MO_end_32 rfl ?_
                refine ab_icmp_ge (tgt := 59) d_MO_end_33 (by decide) (fun c9 => ?_) (fun c9 => ?_)
                · refine ab_less (L' := [some (vR 80), some (vI (xs 1)), none]) (fun i v h => by rcases i with _ | _ | _ | i <;> first | exact h | (simp at h)) ?_
                  refine s_MO_end_59_0 (xs := xs) hlen hsl h80 h83 (fun o Gz hq => ?_)
                  obtain ⟨hv, hfk, hlen, hsl, h80, ⟨f83_9, h83⟩⟩ := hq
                  have h84 := hfk.get (by decide) h84
                  have hfr := hfr.cl hfk (by decide)
                  rw [hQ]; exact ⟨hv, hfr, hlen, hsl, h80, ⟨_, h83⟩, ⟨_, h84⟩⟩
                · refine ab_aload_n d_MO_end_36 rfl ?_
                  refine ab_getf (fs := (m_fv (vI 0) (vI 0) (vI 0) (vI 0) (vI 0) (vI 0) (vI 0) (vI 0) (vI 0) (vI 0) (vI 0) (vI 0) (vI (-1)) (vI 0) (vI 0) (vI 0) (vI 0) (vI 0) (vI 0) (vI 0) (vI 0) (vI 0) (vI 0) (vI 0) (vI 0) (vI 0) (vI 0) (vI 0) (vI 0) (vI 0) (vI 0) (vI 0) (vI 0) (vI 0) (vI 0))) f_MO_19 d_MO_end_37 h80 rfl ?_
                  refine ab_aload_n d_MO_end_40 rfl ?_
                  refine ab_getf (fs := (m_fv (vI 0) (vI 0) (vI 0) (vI 0) (vI 0) (vI 0) (vI 0) (vI 0) (vI 0) (vI 0) (vI 0) (vI 0) (vI (-1)) (vI 0) (vI 0) (vI 0) (vI 0) (vI 0) (vI 0) (vI 0) (vI 0) (vI 0) (vI 0) (vI 0) (vI 0) (vI 0) (vI 0) (vI 0) (vI 0) (vI 0) (vI 0) (vI 0) (vI 0) (vI 0) (vI 0))) f_MO_223 d_MO_end_41 h80 rfl ?_
                  refine ab_iload_n d_MO_end_44 rfl ?_
                  refine ab_iadd d_MO_end_45 ?_
                  refine ab_topi (y := 4) (by decide) ?_
                  refine ab_aload_n d_MO_end_46 rfl ?_
                  refine ab_getf (fs := (m_fv (vI 0) (vI 0) (vI 0) (vI 0) (vI 0) (vI 0) (vI 0) (vI 0) (vI 0) (vI 0) (vI 0) (vI 0) (vI (-1)) (vI 0) (vI 0) (vI 0) (vI 0) (vI 0) (vI 0) (vI 0) (vI 0) (vI 0) (vI 0) (vI 0) (vI 0) (vI 0) (vI 0) (vI 0) (vI 0) (vI 0) (vI 0) (vI 0) (vI 0) (vI 0) (vI 0))) f_MO_16 d_MO_end_47 h80 rfl ?_
                  refine ab_iload_n d_MO_end_50 rfl ?_
                  refine ab_iald d_MO_end_51 h83 (by unfold vp_in; decide) ?_
                  refine ab_topi (y := 0) rfl ?_
                  refine ab_iast d_MO_end_52 h84 (by unfold vp_in; decide) (by decide) ?_
                  obtain ⟨G6, eG6⟩ : ∃ z : ab_G, z = List.set G5 84 (ab_if 2000 ((upd f84_8 4 0))) := ⟨_, rfl⟩
                  have h80 := ab_keep eG6 (by decide) h80
                  have h83 := ab_keep eG6 (by decide) h83
                  have hlen := ab_klen eG6 hlen
                  have hsl := ab_ksl 2000 eG6 h84 rfl rfl hsl
                  have hfr := hfr.wr eG6 (by decide)
                  have h84 := ab_kept eG6 h84
                  change ab_W _ _ _ (List.set G5 84 (ab_if 2000 ((upd f84_8 4 0)))) 53 [some (vR 80), some (vI (xs 1)), some (vI 4)] [] _
                  rw [← eG6]
                  obtain ⟨f84_10, h84⟩ : ∃ g : Nat → Int32, G6[84]? = some (ab_if 2000 (g)) := ⟨_, h84⟩
                  refine ab_iinc (v := 5) d_MO_end_53 rfl (by decide) (Nat.le_of_ble_eq_true rfl) (Nat.le_of_ble_eq_true rfl) rfl ?_
                  change ab_W _ _ _ G6 56 [some (vR 80), some (vI (xs 1)), some (vI 5)] [] _
                  refine ab_goto (tgt := 31) d_MO_end_56 (by decide) ?_
                  refine ab_iload_n d_MO_end_31 rfl ?_
                  refine ab_iload_n d_MO_end_32 rfl ?_
                  refine ab_icmp_ge (tgt := 59) d_MO_end_33 (by decide) (fun c10 => ?_) (fun c10 => ?_)
                  · refine ab_less (L' := [some (vR 80), some (vI (xs 1)), none]) (fun i v h => by rcases i with _ | _ | _ | i <;> first | exact h | (simp at h)) ?_
                    refine s_MO_end_59_0 (xs := xs) hlen hsl h80 h83 (fun o Gz hq => ?_)
                    obtain ⟨hv, hfk, hlen, hsl, h80, ⟨f83_11, h83⟩⟩ := hq
                    have h84 := hfk.get (by decide) h84
                    have hfr := hfr.cl hfk (by decide)
                    rw [hQ]; exact ⟨hv, hfr, hlen, hsl, h80, ⟨_, h83⟩, ⟨_, h84⟩⟩
                  · refine ab_aload_n d_MO_end_36 rfl ?_
                    refine ab_getf (fs := (m_fv (vI 0) (vI 0) (vI 0) (vI 0) (vI 0) (vI 0) (vI 0) (vI 0) (vI 0) (vI 0) (vI 0) (vI 0) (vI (-1)) (vI 0) (vI 0) (vI 0) (vI 0) (vI 0) (vI 0) (vI 0) (vI 0) (vI 0) (vI 0) (vI 0) (vI 0) (vI 0) (vI 0) (vI 0) (vI 0) (vI 0) (vI 0) (vI 0) (vI 0) (vI 0) (vI 0))) f_MO_19 d_MO_end_37 h80 rfl ?_
                    refine ab_aload_n d_MO_end_40 rfl ?_
                    refine ab_getf (fs := (m_fv (vI 0) (vI 0) (vI 0) (vI 0) (vI 0) (vI 0) (vI 0) (vI 0) (vI 0) (vI 0) (vI 0) (vI 0) (vI (-1)) (vI 0) (vI 0) (vI 0) (vI 0) (vI 0) (vI 0) (vI 0) (vI 0) (vI 0) (vI 0) (vI 0) (vI 0) (vI 0) (vI 0) (vI 0) (vI 0) (vI 0) (vI 0) (vI 0) (vI 0) (vI 0) (vI 0))) f_MO_223 d_MO_end_41 h80 rfl ?_
                    refine ab_iload_n d_MO_end_44 rfl ?_
                    refine ab_iadd d_MO_end_45 ?_
                    refine ab_topi (y := 5) (by decide) ?_
                    refine ab_aload_n d_MO_end_46 rfl ?_
                    refine ab_getf (fs := (m_fv (vI 0) (vI 0) (vI 0) (vI 0) (vI 0) (vI 0) (vI 0) (vI 0) (vI 0) (vI 0) (vI 0) (vI 0) (vI (-1)) (vI 0) (vI 0) (vI 0) (vI 0) (vI 0) (vI 0) (vI 0) (vI 0) (vI 0) (vI 0) (vI 0) (vI 0) (vI 0) (vI 0) (vI 0) (vI 0) (vI 0) (vI 0) (vI 0) (vI 0) (vI 0) (vI 0))) f_MO_16 d_MO_end_47 h80 rfl ?_
                    refine ab_iload_n d_MO_end_50 rfl ?_
                    refine ab_iald d_MO_end_51 h83 (by unfold vp_in; decide) ?_
                    refine ab_topi (y := 0) rfl ?_
                    refine ab_iast d_MO_end_52 h84 (by unfold vp_in; decide) (by decide) ?_
                    obtain ⟨G7, eG7⟩ : ∃ z : ab_G, z = List.set G6 84 (ab_if 2000 ((upd f84_10 5 0))) := ⟨_, rfl⟩
                    have h80 := ab_keep eG7 (by decide) h80
                    have h83 := ab_keep eG7 (by decide) h83
                    have hlen := ab_klen eG7 hlen
                    have hsl := ab_ksl 2000 eG7 h84 rfl rfl hsl
                    have hfr := hfr.wr eG7 (by decide)
                    have h84 := ab_kept eG7 h84
                    change ab_W _ _ _ (List.set G6 84 (ab_if 2000 ((upd f84_10 5 0)))) 53 [some (vR 80), some (vI (xs 1)), some (vI 5)] [] _
                    rw [← eG7]
                    obtain ⟨f84_12, h84⟩ : ∃ g : Nat → Int32, G7[84]? = some (ab_if 2000 (g)) := ⟨_, h84⟩
                    refine ab_iinc (v := 6) d_MO_end_53 rfl (by decide) (Nat.le_of_ble_eq_true rfl) (Nat.le_of_ble_eq_true rfl) rfl ?_
                    change ab_W _ _ _ G7 56 [some (vR 80), some (vI (xs 1)), some (vI 6)] [] _
                    refine ab_goto (tgt := 31) d_MO_end_56 (by decide) ?_
                    refine ab_iload_n d_MO_end_31 rfl ?_
                    refine ab_iload_n d_MO_end_32 rfl ?_
                    refine ab_icmp_ge (tgt := 59) d_MO_end_33 (by decide) (fun c11 => ?_) (fun c11 => ?_)
                    · refine ab_less (L' := [some (vR 80), some (vI (xs 1)), none]) (fun i v h => by rcases i with _ | _ | _ | i <;> first | exact h | (simp at h)) ?_
                      refine s_MO_end_59_0 (xs := xs) hlen hsl h80 h83 (fun o Gz hq => ?_)
                      obtain ⟨hv, hfk, hlen, hsl, h80, ⟨f83_13, h83⟩⟩ := hq
                      have h84 := hfk.get (by decide) h84
                      have hfr := hfr.cl hfk (by decide)
                      rw [hQ]; exact ⟨hv, hfr, hlen, hsl, h80, ⟨_, h83⟩, ⟨_, h84⟩⟩
                    · refine ab_aload_n d_MO_end_36 rfl ?_
                      refine ab_getf (fs := (m_fv (vI 0) (vI 0) (vI 0) (vI 0) (vI 0) (vI 0) (vI 0) (vI 0) (vI 0) (vI 0) (vI 0) (vI 0) (vI (-1)) (vI 0) (vI 0) (vI 0) (vI 0) (vI 0) (vI 0) (vI 0) (vI 0) (vI 0) (vI 0) (vI 0) (vI 0) (vI 0) (vI 0) (vI 0) (vI 0) (vI 0) (vI 0) (vI 0) (vI 0) (vI 0) (vI 0))) f_MO_19 d_MO_end_37 h80 rfl ?_
                      refine ab_aload_n d_MO_end_40 rfl ?_
                      refine ab_getf (fs := (m_fv (vI 0) (vI 0) (vI 0) (vI 0) (vI 0) (vI 0) (vI 0) (vI 0) (vI 0) (vI 0) (vI 0) (vI 0) (vI (-1)) (vI 0) (vI 0) (vI 0) (vI 0) (vI 0) (vI 0) (vI 0) (vI 0) (vI 0) (vI 0) (vI 0) (vI 0) (vI 0) (vI 0) (vI 0) (vI 0) (vI 0) (vI 0) (vI 0) (vI 0) (vI 0) (vI 0))) f_MO_223 d_MO_end_41 h80 rfl ?_
                      refine ab_iload_n d_MO_end_44 rfl ?_
                      refine ab_iadd d_MO_end_45 ?_
                      refine ab_topi (y := 6) (by decide) ?_
                      refine ab_aload_n d_MO_end_46 rfl ?_
                      refine ab_getf (fs := (m_fv (vI 0) (vI 0) (vI 0) (vI 0) (vI 0) (vI 0) (vI 0) (vI 0) (vI 0) (vI 0) (vI 0) (vI 0) (vI (-1)) (vI 0) (vI 0) (vI 0) (vI 0) (vI 0) (vI 0) (vI 0) (vI 0) (vI 0) (vI 0) (vI 0) (vI 0) (vI 0) (vI 0) (vI 0) (vI 0) (vI 0) (vI 0) (vI 0) (vI 0) (vI 0) (vI 0))) f_MO_16 d_MO_end_47 h80 rfl ?_
                      refine ab_iload_n d_MO_end_50 rfl ?_
                      refine ab_iald d_MO_end_51 h83 (by unfold vp_in; decide) ?_
                      refine ab_topi (y := 0) rfl ?_
                      refine ab_iast d_MO_end_52 h84 (by unfold vp_in; decide) (by decide) ?_
                      obtain ⟨G8, eG8⟩ : ∃ z : ab_G, z = List.set G7 84 (ab_if 2000 ((upd f84_12 6 0))) := ⟨_, rfl⟩
                      have h80 := ab_keep eG8 (by decide) h80
                      have h83 := ab_keep eG8 (by decide) h83
                      have hlen := ab_klen eG8 hlen
                      have hsl := ab_ksl 2000 eG8 h84 rfl rfl hsl
                      have hfr := hfr.wr eG8 (by decide)
                      have h84 := ab_kept eG8 h84
                      change ab_W _ _ _ (List.set G7 84 (ab_if 2000 ((upd f84_12 6 0)))) 53 [some (vR 80), some (vI (xs 1)), some (vI 6)] [] _
                      rw [← eG8]
                      obtain ⟨f84_14, h84⟩ : ∃ g : Nat → Int32, G8[84]? = some (ab_if 2000 (g)) := ⟨_, h84⟩
                      refine ab_iinc (v := 7) d_MO_end_53 rfl (by decide) (Nat.le_of_ble_eq_true rfl) (Nat.le_of_ble_eq_true rfl) rfl ?_
                      change ab_W _ _ _ G8 56 [some (vR 80), some (vI (xs 1)), some (vI 7)] [] _
                      refine ab_goto (tgt := 31) d_MO_end_56 (by decide) ?_
                      refine ab_iload_n d_MO_end_31 rfl ?_
                      refine ab_iload_n d_MO_end_32 rfl ?_
                      refine ab_icmp_ge (tgt := 59) d_MO_end_33 (by decide) (fun c12 => ?_) (fun c12 => ?_)
                      · refine ab_less (L' := [some (vR 80), some (vI (xs 1)), none]) (fun i v h => by rcases i with _ | _ | _ | i <;> first | exact h | (simp at h)) ?_
                        refine s_MO_end_59_0 (xs := xs) hlen hsl h80 h83 (fun o Gz hq => ?_)
                        obtain ⟨hv, hfk, hlen, hsl, h80, ⟨f83_15, h83⟩⟩ := hq
                        have h84 := hfk.get (by decide) h84
                        have hfr := hfr.cl hfk (by decide)
                        rw [hQ]; exact ⟨hv, hfr, hlen, hsl, h80, ⟨_, h83⟩, ⟨_, h84⟩⟩
                      · refine ab_aload_n d_MO_end_36 rfl ?_
                        refine ab_getf (fs := (m_fv (vI 0) (vI 0) (vI 0) (vI 0) (vI 0) (vI 0) (vI 0) (vI 0) (vI 0) (vI 0) (vI 0) (vI 0) (vI (-1)) (vI 0) (vI 0) (vI 0) (vI 0) (vI 0) (vI 0) (vI 0) (vI 0) (vI 0) (vI 0) (vI 0) (vI 0) (vI 0) (vI 0) (vI 0) (vI 0) (vI 0) (vI 0) (vI 0) (vI 0) (vI 0) (vI 0))) f_MO_19 d_MO_end_37 h80 rfl ?_
                        refine ab_aload_n d_MO_end_40 rfl ?_
                        refine ab_getf (fs := (m_fv (vI 0) (vI 0) (vI 0) (vI 0) (vI 0) (vI 0) (vI 0) (vI 0) (vI 0) (vI 0) (vI 0) (vI 0) (vI (-1)) (vI 0) (vI 0) (vI 0) (vI 0) (vI 0) (vI 0) (vI 0) (vI 0) (vI 0) (vI 0) (vI 0) (vI 0) (vI 0) (vI 0) (vI 0) (vI 0) (vI 0) (vI 0) (vI 0) (vI 0) (vI 0) (vI 0))) f_MO_223 d_MO_end_41 h80 rfl ?_
                        refine ab_iload_n d_MO_end_44 rfl ?_
                        refine ab_iadd d_MO_end_45 ?_
                        refine ab_topi (y := 7) (by decide) ?_
                        refine ab_aload_n d_MO_end_46 rfl ?_
                        refine ab_getf (fs := (m_fv (vI 0) (vI 0) (vI 0) (vI 0) (vI 0) (vI 0) (vI 0) (vI 0) (vI 0) (vI 0) (vI 0) (vI 0) (vI (-1)) (vI 0) (vI 0) (vI 0) (vI 0) (vI 0) (vI 0) (vI 0) (vI 0) (vI 0) (vI 0) (vI 0) (vI 0) (vI 0) (vI 0) (vI 0) (vI 0) (vI 0) (vI 0) (vI 0) (vI 0) (vI 0) (vI 0))) f_MO_16 d_MO_end_47 h80 rfl ?_
                        refine ab_iload_n d_MO_end_50 rfl ?_
                        refine ab_iald d_MO_end_51 h83 (by unfold vp_in; decide) ?_
                        refine ab_topi (y := 0) rfl ?_
                        refine ab_iast d_MO_end_52 h84 (by unfold vp_in; decide) (by decide) ?_
                        obtain ⟨G9, eG9⟩ : ∃ z : ab_G, z = List.set G8 84 (ab_if 2000 ((upd f84_14 7 0))) := ⟨_, rfl⟩
                        have h80 := ab_keep eG9 (by decide) h80
                        have h83 := ab_keep eG9 (by decide) h83
                        have hlen := ab_klen eG9 hlen
                        have hsl := ab_ksl 2000 eG9 h84 rfl rfl hsl
                        have hfr := hfr.wr eG9 (by decide)
                        have h84 := ab_kept eG9 h84
                        change ab_W _ _ _ (List.set G8 84 (ab_if 2000 ((upd f84_14 7 0)))) 53 [some (vR 80), some (vI (xs 1)), some (vI 7)] [] _
                        rw [← eG9]
                        obtain ⟨f84_16, h84⟩ : ∃ g : Nat → Int32, G9[84]? = some (ab_if 2000 (g)) := ⟨_, h84⟩
                        refine ab_iinc (v := 8) d_MO_end_53 rfl (by decide) (Nat.le_of_ble_eq_true rfl) (Nat.le_of_ble_eq_true rfl) rfl ?_
                        change ab_W _ _ _ G9 56 [some (vR 80), some (vI (xs 1)), some (vI 8)] [] _
                        refine ab_goto (tgt := 31) d_MO_end_56 (by decide) ?_
                        refine ab_iload_n d_MO_end_31 rfl ?_
                        refine ab_iload_n d_MO_end_32 rfl ?_
                        refine ab_icmp_ge (tgt := 59) d_MO_end_33 (by decide) (fun c13 => ?_) (fun c13 => ?_)
                        · refine ab_less (L' := [some (vR 80), some (vI (xs 1)), none]) (fun i v h => by rcases i with _ | _ | _ | i <;> first | exact h | (simp at h)) ?_
                          refine s_MO_end_59_0 (xs := xs) hlen hsl h80 h83 (fun o Gz hq => ?_)
                          obtain ⟨hv, hfk, hlen, hsl, h80, ⟨f83_17, h83⟩⟩ := hq
                          have h84 := hfk.get (by decide) h84
                          have hfr := hfr.cl hfk (by decide)
                          rw [hQ]; exact ⟨hv, hfr, hlen, hsl, h80, ⟨_, h83⟩, ⟨_, h84⟩⟩
                        · refine ab_aload_n d_MO_end_36 rfl ?_
                          refine ab_getf (fs := (m_fv (vI 0) (vI 0) (vI 0) (vI 0) (vI 0) (vI 0) (vI 0) (vI 0) (vI 0) (vI 0) (vI 0) (vI 0) (vI (-1)) (vI 0) (vI 0) (vI 0) (vI 0) (vI 0) (vI 0) (vI 0) (vI 0) (vI 0) (vI 0) (vI 0) (vI 0) (vI 0) (vI 0) (vI 0) (vI 0) (vI 0) (vI 0) (vI 0) (vI 0) (vI 0) (vI 0))) f_MO_19 d_MO_end_37 h80 rfl ?_
                          refine ab_aload_n d_MO_end_40 rfl ?_
                          refine ab_getf (fs := (m_fv (vI 0) (vI 0) (vI 0) (vI 0) (vI 0) (vI 0) (vI 0) (vI 0) (vI 0) (vI 0) (vI 0) (vI 0) (vI (-1)) (vI 0) (vI 0) (vI 0) (vI 0) (vI 0) (vI 0) (vI 0) (vI 0) (vI 0) (vI 0) (vI 0) (vI 0) (vI 0) (vI 0) (vI 0) (vI 0) (vI 0) (vI 0) (vI 0) (vI 0) (vI 0) (vI 0))) f_MO_223 d_MO_end_41 h80 rfl ?_
                          refine ab_iload_n d_MO_end_44 rfl ?_
                          refine ab_iadd d_MO_end_45 ?_
                          refine ab_topi (y := 8) (by decide) ?_
                          refine ab_aload_n d_MO_end_46 rfl ?_
                          refine ab_getf (fs := (m_fv (vI 0) (vI 0) (vI 0) (vI 0) (vI 0) (vI 0) (vI 0) (vI 0) (vI 0) (vI 0) (vI 0) (vI 0) (vI (-1)) (vI 0) (vI 0) (vI 0) (vI 0) (vI 0) (vI 0) (vI 0) (vI 0) (vI 0) (vI 0) (vI 0) (vI 0) (vI 0) (vI 0) (vI 0) (vI 0) (vI 0) (vI 0) (vI 0) (vI 0) (vI 0) (vI 0))) f_MO_16 d_MO_end_47 h80 rfl ?_
                          refine ab_iload_n d_MO_end_50 rfl ?_
                          refine ab_iald d_MO_end_51 h83 (by unfold vp_in; decide) ?_
                          refine ab_topi (y := 0) rfl ?_
                          refine ab_iast d_MO_end_52 h84 (by unfold vp_in; decide) (by decide) ?_
                          obtain ⟨G10, eG10⟩ : ∃ z : ab_G, z = List.set G9 84 (ab_if 2000 ((upd f84_16 8 0))) := ⟨_, rfl⟩
                          have h80 := ab_keep eG10 (by decide) h80
                          have h83 := ab_keep eG10 (by decide) h83
                          have hlen := ab_klen eG10 hlen
                          have hsl := ab_ksl 2000 eG10 h84 rfl rfl hsl
                          have hfr := hfr.wr eG10 (by decide)
                          have h84 := ab_kept eG10 h84
                          change ab_W _ _ _ (List.set G9 84 (ab_if 2000 ((upd f84_16 8 0)))) 53 [some (vR 80), some (vI (xs 1)), some (vI 8)] [] _
                          rw [← eG10]
                          obtain ⟨f84_18, h84⟩ : ∃ g : Nat → Int32, G10[84]? = some (ab_if 2000 (g)) := ⟨_, h84⟩
                          refine ab_iinc (v := 9) d_MO_end_53 rfl (by decide) (Nat.le_of_ble_eq_true rfl) (Nat.le_of_ble_eq_true rfl) rfl ?_
                          change ab_W _ _ _ G10 56 [some (vR 80), some (vI (xs 1)), some (vI 9)] [] _
                          refine ab_goto (tgt := 31) d_MO_end_56 (by decide) ?_
                          refine ab_iload_n d_MO_end_31 rfl ?_
                          refine ab_iload_n d_MO_end_32 rfl ?_
                          refine ab_icmp_ge (tgt := 59) d_MO_end_33 (by decide) (fun c14 => ?_) (fun c14 => ?_)
                          · refine ab_less (L' := [some (vR 80), some (vI (xs 1)), none]) (fun i v h => by rcases i with _ | _ | _ | i <;> first | exact h | (simp at h)) ?_
                            refine s_MO_end_59_0 (xs := xs) hlen hsl h80 h83 (fun o Gz hq => ?_)
                            obtain ⟨hv, hfk, hlen, hsl, h80, ⟨f83_19, h83⟩⟩ := hq
                            have h84 := hfk.get (by decide) h84
                            have hfr := hfr.cl hfk (by decide)
                            rw [hQ]; exact ⟨hv, hfr, hlen, hsl, h80, ⟨_, h83⟩, ⟨_, h84⟩⟩
                          · refine ab_aload_n d_MO_end_36 rfl ?_
                            refine ab_getf (fs := (m_fv (vI 0) (vI 0) (vI 0) (vI 0) (vI 0) (vI 0) (vI 0) (vI 0) (vI 0) (vI 0) (vI 0) (vI 0) (vI (-1)) (vI 0) (vI 0) (vI 0) (vI 0) (vI 0) (vI 0) (vI 0) (vI 0) (vI 0) (vI 0) (vI 0) (vI 0) (vI 0) (vI 0) (vI 0) (vI 0) (vI 0) (vI 0) (vI 0) (vI 0) (vI 0) (vI 0))) f_MO_19 d_MO_end_37 h80 rfl ?_
                            refine ab_aload_n d_MO_end_40 rfl ?_
                            refine ab_getf (fs := (m_fv (vI 0) (vI 0) (vI 0) (vI 0) (vI 0) (vI 0) (vI 0) (vI 0) (vI 0) (vI 0) (vI 0) (vI 0) (vI (-1)) (vI 0) (vI 0) (vI 0) (vI 0) (vI 0) (vI 0) (vI 0) (vI 0) (vI 0) (vI 0) (vI 0) (vI 0) (vI 0) (vI 0) (vI 0) (vI 0) (vI 0) (vI 0) (vI 0) (vI 0) (vI 0) (vI 0))) f_MO_223 d_MO_end_41 h80 rfl ?_
                            refine ab_iload_n d_MO_end_44 rfl ?_
                            refine ab_iadd d_MO_end_45 ?_
                            refine ab_topi (y := 9) (by decide) ?_
                            refine ab_aload_n d_MO_end_46 rfl ?_
                            refine ab_getf (fs := (m_fv (vI 0) (vI 0) (vI 0) (vI 0) (vI 0) (vI 0) (vI 0) (vI 0) (vI 0) (vI 0) (vI 0) (vI 0) (vI (-1)) (vI 0) (vI 0) (vI 0) (vI 0) (vI 0) (vI 0) (vI 0) (vI 0) (vI 0) (vI 0) (vI 0) (vI 0) (vI 0) (vI 0) (vI 0) (vI 0) (vI 0) (vI 0) (vI 0) (vI 0) (vI 0) (vI 0))) f_MO_16 d_MO_end_47 h80 rfl ?_
                            refine ab_iload_n d_MO_end_50 rfl ?_
                            refine ab_iald d_MO_end_51 h83 (by unfold vp_in; decide) ?_
                            refine ab_topi (y := 0) rfl ?_
                            refine ab_iast d_MO_end_52 h84 (by unfold vp_in; decide) (by decide) ?_
                            obtain ⟨G11, eG11⟩ : ∃ z : ab_G, z = List.set G10 84 (ab_if 2000 ((upd f84_18 9 0))) := ⟨_, rfl⟩
                            have h80 := ab_keep eG11 (by decide) h80
                            have h83 := ab_keep eG11 (by decide) h83
                            have hlen := ab_klen eG11 hlen
                            have hsl := ab_ksl 2000 eG11 h84 rfl rfl hsl
                            have hfr := hfr.wr eG11 (by decide)
                            have h84 := ab_kept eG11 h84
                            change ab_W _ _ _ (List.set G10 84 (ab_if 2000 ((upd f84_18 9 0)))) 53 [some (vR 80), some (vI (xs 1)), some (vI 9)] [] _
                            rw [← eG11]
                            obtain ⟨f84_20, h84⟩ : ∃ g : Nat → Int32, G11[84]? = some (ab_if 2000 (g)) := ⟨_, h84⟩
                            refine ab_iinc (v := 10) d_MO_end_53 rfl (by decide) (Nat.le_of_ble_eq_true rfl) (Nat.le_of_ble_eq_true rfl) rfl ?_
                            change ab_W _ _ _ G11 56 [some (vR 80), some (vI (xs 1)), some (vI 10)] [] _
                            refine ab_goto (tgt := 31) d_MO_end_56 (by decide) ?_
                            refine ab_iload_n d_MO_end_31 rfl ?_
                            refine ab_iload_n d_MO_end_32 rfl ?_
                            refine ab_icmp_ge (tgt := 59) d_MO_end_33 (by decide) (fun c15 => ?_) (fun c15 => ?_)
                            · refine ab_less (L' := [some (vR 80), some (vI (xs 1)), none]) (fun i v h => by rcases i with _ | _ | _ | i <;> first | exact h | (simp at h)) ?_
                              refine s_MO_end_59_0 (xs := xs) hlen hsl h80 h83 (fun o Gz hq => ?_)
                              obtain ⟨hv, hfk, hlen, hsl, h80, ⟨f83_21, h83⟩⟩ := hq
                              have h84 := hfk.get (by decide) h84
                              have hfr := hfr.cl hfk (by decide)
                              rw [hQ]; exact ⟨hv, hfr, hlen, hsl, h80, ⟨_, h83⟩, ⟨_, h84⟩⟩
                            · refine ab_aload_n d_MO_end_36 rfl ?_
                              refine ab_getf (fs := (m_fv (vI 0) (vI 0) (vI 0) (vI 0) (vI 0) (vI 0) (vI 0) (vI 0) (vI 0) (vI 0) (vI 0) (vI 0) (vI (-1)) (vI 0) (vI 0) (vI 0) (vI 0) (vI 0) (vI 0) (vI 0) (vI 0) (vI 0) (vI 0) (vI 0) (vI 0) (vI 0) (vI 0) (vI 0) (vI 0) (vI 0) (vI 0) (vI 0) (vI 0) (vI 0) (vI 0))) f_MO_19 d_MO_end_37 h80 rfl ?_
                              refine ab_aload_n d_MO_end_40 rfl ?_
                              refine ab_getf (fs := (m_fv (vI 0) (vI 0) (vI 0) (vI 0) (vI 0) (vI 0) (vI 0) (vI 0) (vI 0) (vI 0) (vI 0) (vI 0) (vI (-1)) (vI 0) (vI 0) (vI 0) (vI 0) (vI 0) (vI 0) (vI 0) (vI 0) (vI 0) (vI 0) (vI 0) (vI 0) (vI 0) (vI 0) (vI 0) (vI 0) (vI 0) (vI 0) (vI 0) (vI 0) (vI 0) (vI 0))) f_MO_223 d_MO_end_41 h80 rfl ?_
                              refine ab_iload_n d_MO_end_44 rfl ?_
                              refine ab_iadd d_MO_end_45 ?_
                              refine ab_topi (y := 10) (by decide) ?_
                              refine ab_aload_n d_MO_end_46 rfl ?_
                              refine ab_getf (fs := (m_fv (vI 0) (vI 0) (vI 0) (vI 0) (vI 0) (vI 0) (vI 0) (vI 0) (vI 0) (vI 0) (vI 0) (vI 0) (vI (-1)) (vI 0) (vI 0) (vI 0) (vI 0) (vI 0) (vI 0) (vI 0) (vI 0) (vI 0) (vI 0) (vI 0) (vI 0) (vI 0) (vI 0) (vI 0) (vI 0) (vI 0) (vI 0) (vI 0) (vI 0) (vI 0) (vI 0))) f_MO_16 d_MO_end_47 h80 rfl ?_
                              refine ab_iload_n d_MO_end_50 rfl ?_
                              refine ab_iald d_MO_end_51 h83 (by unfold vp_in; decide) ?_
                              refine ab_topi (y := 0) rfl ?_
                              refine ab_iast d_MO_end_52 h84 (by unfold vp_in; decide) (by decide) ?_
                              obtain ⟨G12, eG12⟩ : ∃ z : ab_G, z = List.set G11 84 (ab_if 2000 ((upd f84_20 10 0))) := ⟨_, rfl⟩
                              have h80 := ab_keep eG12 (by decide) h80
                              have h83 := ab_keep eG12 (by decide) h83
                              have hlen := ab_klen eG12 hlen
                              have hsl := ab_ksl 2000 eG12 h84 rfl rfl hsl
                              have hfr := hfr.wr eG12 (by decide)
                              have h84 := ab_kept eG12 h84
                              change ab_W _ _ _ (List.set G11 84 (ab_if 2000 ((upd f84_20 10 0)))) 53 [some (vR 80), some (vI (xs 1)), some (vI 10)] [] _
                              rw [← eG12]
                              obtain ⟨f84_22, h84⟩ : ∃ g : Nat → Int32, G12[84]? = some (ab_if 2000 (g)) := ⟨_, h84⟩
                              refine ab_iinc (v := 11) d_MO_end_53 rfl (by decide) (Nat.le_of_ble_eq_true rfl) (Nat.le_of_ble_eq_true rfl) rfl ?_
                              change ab_W _ _ _ G12 56 [some (vR 80), some (vI (xs 1)), some (vI 11)] [] _
                              refine ab_goto (tgt := 31) d_MO_end_56 (by decide) ?_
                              refine ab_iload_n d_MO_end_31 rfl ?_
                              refine ab_iload_n d_MO_end_32 rfl ?_
                              refine ab_icmp_ge (tgt := 59) d_MO_end_33 (by decide) (fun c16 => ?_) (fun c16 => ?_)
                              · refine ab_less (L' := [some (vR 80), some (vI (xs 1)), none]) (fun i v h => by rcases i with _ | _ | _ | i <;> first | exact h | (simp at h)) ?_
                                refine s_MO_end_59_0 (xs := xs) hlen hsl h80 h83 (fun o Gz hq => ?_)
                                obtain ⟨hv, hfk, hlen, hsl, h80, ⟨f83_23, h83⟩⟩ := hq
                                have h84 := hfk.get (by decide) h84
                                have hfr := hfr.cl hfk (by decide)
                                rw [hQ]; exact ⟨hv, hfr, hlen, hsl, h80, ⟨_, h83⟩, ⟨_, h84⟩⟩
                              · refine ab_aload_n d_MO_end_36 rfl ?_
                                refine ab_getf (fs := (m_fv (vI 0) (vI 0) (vI 0) (vI 0) (vI 0) (vI 0) (vI 0) (vI 0) (vI 0) (vI 0) (vI 0) (vI 0) (vI (-1)) (vI 0) (vI 0) (vI 0) (vI 0) (vI 0) (vI 0) (vI 0) (vI 0) (vI 0) (vI 0) (vI 0) (vI 0) (vI 0) (vI 0) (vI 0) (vI 0) (vI 0) (vI 0) (vI 0) (vI 0) (vI 0) (vI 0))) f_MO_19 d_MO_end_37 h80 rfl ?_
                                refine ab_aload_n d_MO_end_40 rfl ?_
                                refine ab_getf (fs := (m_fv (vI 0) (vI 0) (vI 0) (vI 0) (vI 0) (vI 0) (vI 0) (vI 0) (vI 0) (vI 0) (vI 0) (vI 0) (vI (-1)) (vI 0) (vI 0) (vI 0) (vI 0) (vI 0) (vI 0) (vI 0) (vI 0) (vI 0) (vI 0) (vI 0) (vI 0) (vI 0) (vI 0) (vI 0) (vI 0) (vI 0) (vI 0) (vI 0) (vI 0) (vI 0) (vI 0))) f_MO_223 d_MO_end_41 h80 rfl ?_
                                refine ab_iload_n d_MO_end_44 rfl ?_
                                refine ab_iadd d_MO_end_45 ?_
                                refine ab_topi (y := 11) (by decide) ?_
                                refine ab_aload_n d_MO_end_46 rfl ?_
                                refine ab_getf (fs := (m_fv (vI 0) (vI 0) (vI 0) (vI 0) (vI 0) (vI 0) (vI 0) (vI 0) (vI 0) (vI 0) (vI 0) (vI 0) (vI (-1)) (vI 0) (vI 0) (vI 0) (vI 0) (vI 0) (vI 0) (vI 0) (vI 0) (vI 0) (vI 0) (vI 0) (vI 0) (vI 0) (vI 0) (vI 0) (vI 0) (vI 0) (vI 0) (vI 0) (vI 0) (vI 0) (vI 0))) f_MO_16 d_MO_end_47 h80 rfl ?_
                                refine ab_iload_n d_MO_end_50 rfl ?_
                                refine ab_iald d_MO_end_51 h83 (by unfold vp_in; decide) ?_
                                refine ab_topi (y := 0) rfl ?_
                                refine ab_iast d_MO_end_52 h84 (by unfold vp_in; decide) (by decide) ?_
                                obtain ⟨G13, eG13⟩ : ∃ z : ab_G, z = List.set G12 84 (ab_if 2000 ((upd f84_22 11 0))) := ⟨_, rfl⟩
                                have h80 := ab_keep eG13 (by decide) h80
                                have h83 := ab_keep eG13 (by decide) h83
                                have hlen := ab_klen eG13 hlen
                                have hsl := ab_ksl 2000 eG13 h84 rfl rfl hsl
                                have hfr := hfr.wr eG13 (by decide)
                                have h84 := ab_kept eG13 h84
                                change ab_W _ _ _ (List.set G12 84 (ab_if 2000 ((upd f84_22 11 0)))) 53 [some (vR 80), some (vI (xs 1)), some (vI 11)] [] _
                                rw [← eG13]
                                obtain ⟨f84_24, h84⟩ : ∃ g : Nat → Int32, G13[84]? = some (ab_if 2000 (g)) := ⟨_, h84⟩
                                refine ab_iinc (v := 12) d_MO_end_53 rfl (by decide) (Nat.le_of_ble_eq_true rfl) (Nat.le_of_ble_eq_true rfl) rfl ?_
                                change ab_W _ _ _ G13 56 [some (vR 80), some (vI (xs 1)), some (vI 12)] [] _
                                refine ab_goto (tgt := 31) d_MO_end_56 (by decide) ?_
                                refine ab_iload_n d_MO_end_31 rfl ?_
                                refine ab_iload_n d_MO_end_32 rfl ?_
                                refine ab_icmp_ge (tgt := 59) d_MO_end_33 (by decide) (fun c17 => ?_) (fun c17 => ?_)
                                · refine ab_less (L' := [some (vR 80), some (vI (xs 1)), none]) (fun i v h => by rcases i with _ | _ | _ | i <;> first | exact h | (simp at h)) ?_
                                  refine s_MO_end_59_0 (xs := xs) hlen hsl h80 h83 (fun o Gz hq => ?_)
                                  obtain ⟨hv, hfk, hlen, hsl, h80, ⟨f83_25, h83⟩⟩ := hq
                                  have h84 := hfk.get (by decide) h84
                                  have hfr := hfr.cl hfk (by decide)
                                  rw [hQ]; exact ⟨hv, hfr, hlen, hsl, h80, ⟨_, h83⟩, ⟨_, h84⟩⟩
                                · refine ab_aload_n d_MO_end_36 rfl ?_
                                  refine ab_getf (fs := (m_fv (vI 0) (vI 0) (vI 0) (vI 0) (vI 0) (vI 0) (vI 0) (vI 0) (vI 0) (vI 0) (vI 0) (vI 0) (vI (-1)) (vI 0) (vI 0) (vI 0) (vI 0) (vI 0) (vI 0) (vI 0) (vI 0) (vI 0) (vI 0) (vI 0) (vI 0) (vI 0) (vI 0) (vI 0) (vI 0) (vI 0) (vI 0) (vI 0) (vI 0) (vI 0) (vI 0))) f_MO_19 d_MO_end_37 h80 rfl ?_
                                  refine ab_aload_n d_MO_end_40 rfl ?_
                                  refine ab_getf (fs := (m_fv (vI 0) (vI 0) (vI 0) (vI 0) (vI 0) (vI 0) (vI 0) (vI 0) (vI 0) (vI 0) (vI 0) (vI 0) (vI (-1)) (vI 0) (vI 0) (vI 0) (vI 0) (vI 0) (vI 0) (vI 0) (vI 0) (vI 0) (vI 0) (vI 0) (vI 0) (vI 0) (vI 0) (vI 0) (vI 0) (vI 0) (vI 0) (vI 0) (vI 0) (vI 0) (vI 0))) f_MO_223 d_MO_end_41 h80 rfl ?_
                                  refine ab_iload_n d_MO_end_44 rfl ?_
                                  refine ab_iadd d_MO_end_45 ?_
                                  refine ab_topi (y := 12) (by decide) ?_
                                  refine ab_aload_n d_MO_end_46 rfl ?_
                                  refine ab_getf (fs := (m_fv (vI 0) (vI 0) (vI 0) (vI 0) (vI 0) (vI 0) (vI 0) (vI 0) (vI 0) (vI 0) (vI 0) (vI 0) (vI (-1)) (vI 0) (vI 0) (vI 0) (vI 0) (vI 0) (vI 0) (vI 0) (vI 0) (vI 0) (vI 0) (vI 0) (vI 0) (vI 0) (vI 0) (vI 0) (vI 0) (vI 0) (vI 0) (vI 0) (vI 0) (vI 0) (vI 0))) f_MO_16 d_MO_end_47 h80 rfl ?_
                                  refine ab_iload_n d_MO_end_50 rfl ?_
                                  refine ab_iald d_MO_end_51 h83 (by unfold vp_in; decide) ?_
                                  refine ab_topi (y := 0) rfl ?_
                                  refine ab_iast d_MO_end_52 h84 (by unfold vp_in; decide) (by decide) ?_
                                  obtain ⟨G14, eG14⟩ : ∃ z : ab_G, z = List.set G13 84 (ab_if 2000 ((upd f84_24 12 0))) := ⟨_, rfl⟩
                                  have h80 := ab_keep eG14 (by decide) h80
                                  have h83 := ab_keep eG14 (by decide) h83
                                  have hlen := ab_klen eG14 hlen
                                  have hsl := ab_ksl 2000 eG14 h84 rfl rfl hsl
                                  have hfr := hfr.wr eG14 (by decide)
                                  have h84 := ab_kept eG14 h84
                                  change ab_W _ _ _ (List.set G13 84 (ab_if 2000 ((upd f84_24 12 0)))) 53 [some (vR 80), some (vI (xs 1)), some (vI 12)] [] _
                                  rw [← eG14]
                                  obtain ⟨f84_26, h84⟩ : ∃ g : Nat → Int32, G14[84]? = some (ab_if 2000 (g)) := ⟨_, h84⟩
                                  refine ab_iinc (v := 13) d_MO_end_53 rfl (by decide) (Nat.le_of_ble_eq_true rfl) (Nat.le_of_ble_eq_true rfl) rfl ?_
                                  change ab_W _ _ _ G14 56 [some (vR 80), some (vI (xs 1)), some (vI 13)] [] _
                                  refine ab_goto (tgt := 31) d_MO_end_56 (by decide) ?_
                                  refine ab_iload_n d_MO_end_31 rfl ?_
                                  refine ab_iload_n d_MO_end_32 rfl ?_
                                  refine ab_icmp_ge (tgt := 59) d_MO_end_33 (by decide) (fun c18 => ?_) (fun c18 => ?_)
                                  · refine ab_less (L' := [some (vR 80), some (vI (xs 1)), none]) (fun i v h => by rcases i with _ | _ | _ | i <;> first | exact h | (simp at h)) ?_
                                    refine s_MO_end_59_0 (xs := xs) hlen hsl h80 h83 (fun o Gz hq => ?_)
                                    obtain ⟨hv, hfk, hlen, hsl, h80, ⟨f83_27, h83⟩⟩ := hq
                                    have h84 := hfk.get (by decide) h84
                                    have hfr := hfr.cl hfk (by decide)
                                    rw [hQ]; exact ⟨hv, hfr, hlen, hsl, h80, ⟨_, h83⟩, ⟨_, h84⟩⟩
                                  · refine ab_aload_n d_MO_end_36 rfl ?_
                                    refine ab_getf (fs := (m_fv (vI 0) (vI 0) (vI 0) (vI 0) (vI 0) (vI 0) (vI 0) (vI 0) (vI 0) (vI 0) (vI 0) (vI 0) (vI (-1)) (vI 0) (vI 0) (vI 0) (vI 0) (vI 0) (vI 0) (vI 0) (vI 0) (vI 0) (vI 0) (vI 0) (vI 0) (vI 0) (vI 0) (vI 0) (vI 0) (vI 0) (vI 0) (vI 0) (vI 0) (vI 0) (vI 0))) f_MO_19 d_MO_end_37 h80 rfl ?_
                                    refine ab_aload_n d_MO_end_40 rfl ?_
                                    refine ab_getf (fs := (m_fv (vI 0) (vI 0) (vI 0) (vI 0) (vI 0) (vI 0) (vI 0) (vI 0) (vI 0) (vI 0) (vI 0) (vI 0) (vI (-1)) (vI 0) (vI 0) (vI 0) (vI 0) (vI 0) (vI 0) (vI 0) (vI 0) (vI 0) (vI 0) (vI 0) (vI 0) (vI 0) (vI 0) (vI 0) (vI 0) (vI 0) (vI 0) (vI 0) (vI 0) (vI 0) (vI 0))) f_MO_223 d_MO_end_41 h80 rfl ?_
                                    refine ab_iload_n d_MO_end_44 rfl ?_
                                    refine ab_iadd d_MO_end_45 ?_
                                    refine ab_topi (y := 13) (by decide) ?_
                                    refine ab_aload_n d_MO_end_46 rfl ?_
                                    refine ab_getf (fs := (m_fv (vI 0) (vI 0) (vI 0) (vI 0) (vI 0) (vI 0) (vI 0) (vI 0) (vI 0) (vI 0) (vI 0) (vI 0) (vI (-1)) (vI 0) (vI 0) (vI 0) (vI 0) (vI 0) (vI 0) (vI 0) (vI 0) (vI 0) (vI 0) (vI 0) (vI 0) (vI 0) (vI 0) (vI 0) (vI 0) (vI 0) (vI 0) (vI 0) (vI 0) (vI 0) (vI 0))) f_MO_16 d_MO_end_47 h80 rfl ?_
                                    refine ab_iload_n d_MO_end_50 rfl ?_
                                    refine ab_iald d_MO_end_51 h83 (by unfold vp_in; decide) ?_
                                    refine ab_topi (y := 0) rfl ?_
                                    refine ab_iast d_MO_end_52 h84 (by unfold vp_in; decide) (by decide) ?_
                                    obtain ⟨G15, eG15⟩ : ∃ z : ab_G, z = List.set G14 84 (ab_if 2000 ((upd f84_26 13 0))) := ⟨_, rfl⟩
                                    have h80 := ab_keep eG15 (by decide) h80
                                    have h83 := ab_keep eG15 (by decide) h83
                                    have hlen := ab_klen eG15 hlen
                                    have hsl := ab_ksl 2000 eG15 h84 rfl rfl hsl
                                    have hfr := hfr.wr eG15 (by decide)
                                    have h84 := ab_kept eG15 h84
                                    change ab_W _ _ _ (List.set G14 84 (ab_if 2000 ((upd f84_26 13 0)))) 53 [some (vR 80), some (vI (xs 1)), some (vI 13)] [] _
                                    rw [← eG15]
                                    obtain ⟨f84_28, h84⟩ : ∃ g : Nat → Int32, G15[84]? = some (ab_if 2000 (g)) := ⟨_, h84⟩
                                    refine ab_iinc (v := 14) d_MO_end_53 rfl (by decide) (Nat.le_of_ble_eq_true rfl) (Nat.le_of_ble_eq_true rfl) rfl ?_
                                    change ab_W _ _ _ G15 56 [some (vR 80), some (vI (xs 1)), some (vI 14)] [] _
                                    refine ab_goto (tgt := 31) d_MO_end_56 (by decide) ?_
                                    refine ab_iload_n d_MO_end_31 rfl ?_
                                    refine ab_iload_n d_MO_end_32 rfl ?_
                                    refine ab_icmp_ge (tgt := 59) d_MO_end_33 (by decide) (fun c19 => ?_) (fun c19 => ?_)
                                    · refine ab_less (L' := [some (vR 80), some (vI (xs 1)), none]) (fun i v h => by rcases i with _ | _ | _ | i <;> first | exact h | (simp at h)) ?_
                                      refine s_MO_end_59_0 (xs := xs) hlen hsl h80 h83 (fun o Gz hq => ?_)
                                      obtain ⟨hv, hfk, hlen, hsl, h80, ⟨f83_29, h83⟩⟩ := hq
                                      have h84 := hfk.get (by decide) h84
                                      have hfr := hfr.cl hfk (by decide)
                                      rw [hQ]; exact ⟨hv, hfr, hlen, hsl, h80, ⟨_, h83⟩, ⟨_, h84⟩⟩
                                    · refine ab_aload_n d_MO_end_36 rfl ?_
                                      refine ab_getf (fs := (m_fv (vI 0) (vI 0) (vI 0) (vI 0) (vI 0) (vI 0) (vI 0) (vI 0) (vI 0) (vI 0) (vI 0) (vI 0) (vI (-1)) (vI 0) (vI 0) (vI 0) (vI 0) (vI 0) (vI 0) (vI 0) (vI 0) (vI 0) (vI 0) (vI 0) (vI 0) (vI 0) (vI 0) (vI 0) (vI 0) (vI 0) (vI 0) (vI 0) (vI 0) (vI 0) (vI 0))) f_MO_19 d_MO_end_37 h80 rfl ?_
                                      refine ab_aload_n d_MO_end_40 rfl ?_
                                      refine ab_getf (fs := (m_fv (vI 0) (vI 0) (vI 0) (vI 0) (vI 0) (vI 0) (vI 0) (vI 0) (vI 0) (vI 0) (vI 0) (vI 0) (vI (-1)) (vI 0) (vI 0) (vI 0) (vI 0) (vI 0) (vI 0) (vI 0) (vI 0) (vI 0) (vI 0) (vI 0) (vI 0) (vI 0) (vI 0) (vI 0) (vI 0) (vI 0) (vI 0) (vI 0) (vI 0) (vI 0) (vI 0))) f_MO_223 d_MO_end_41 h80 rfl ?_
                                      refine ab_iload_n d_MO_end_44 rfl ?_
                                      refine ab_iadd d_MO_end_45 ?_
                                      refine ab_topi (y := 14) (by decide) ?_
                                      refine ab_aload_n d_MO_end_46 rfl ?_
                                      refine ab_getf (fs := (m_fv (vI 0) (vI 0) (vI 0) (vI 0) (vI 0) (vI 0) (vI 0) (vI 0) (vI 0) (vI 0) (vI 0) (vI 0) (vI (-1)) (vI 0) (vI 0) (vI 0) (vI 0) (vI 0) (vI 0) (vI 0) (vI 0) (vI 0) (vI 0) (vI 0) (vI 0) (vI 0) (vI 0) (vI 0) (vI 0) (vI 0) (vI 0) (vI 0) (vI 0) (vI 0) (vI 0))) f_MO_16 d_MO_end_47 h80 rfl ?_
                                      refine ab_iload_n d_MO_end_50 rfl ?_
                                      refine ab_iald d_MO_end_51 h83 (by unfold vp_in; decide) ?_
                                      refine ab_topi (y := 0) rfl ?_
                                      refine ab_iast d_MO_end_52 h84 (by unfold vp_in; decide) (by decide) ?_
                                      obtain ⟨G16, eG16⟩ : ∃ z : ab_G, z = List.set G15 84 (ab_if 2000 ((upd f84_28 14 0))) := ⟨_, rfl⟩
                                      have h80 := ab_keep eG16 (by decide) h80
                                      have h83 := ab_keep eG16 (by decide) h83
                                      have hlen := ab_klen eG16 hlen
                                      have hsl := ab_ksl 2000 eG16 h84 rfl rfl hsl
                                      have hfr := hfr.wr eG16 (by decide)
                                      have h84 := ab_kept eG16 h84
                                      change ab_W _ _ _ (List.set G15 84 (ab_if 2000 ((upd f84_28 14 0)))) 53 [some (vR 80), some (vI (xs 1)), some (vI 14)] [] _
                                      rw [← eG16]
                                      obtain ⟨f84_30, h84⟩ : ∃ g : Nat → Int32, G16[84]? = some (ab_if 2000 (g)) := ⟨_, h84⟩
                                      refine ab_iinc (v := 15) d_MO_end_53 rfl (by decide) (Nat.le_of_ble_eq_true rfl) (Nat.le_of_ble_eq_true rfl) rfl ?_
                                      change ab_W _ _ _ G16 56 [some (vR 80), some (vI (xs 1)), some (vI 15)] [] _
                                      refine ab_goto (tgt := 31) d_MO_end_56 (by decide) ?_
                                      refine ab_iload_n d_MO_end_31 rfl ?_
                                      refine ab_iload_n d_MO_end_32 rfl ?_
                                      refine ab_icmp_ge (tgt := 59) d_MO_end_33 (by decide) (fun c20 => ?_) (fun c20 => ?_)
                                      · refine ab_less (L' := [some (vR 80), some (vI (xs 1)), none]) (fun i v h => by rcases i with _ | _ | _ | i <;> first | exact h | (simp at h)) ?_
                                        refine s_MO_end_59_0 (xs := xs) hlen hsl h80 h83 (fun o Gz hq => ?_)
                                        obtain ⟨hv, hfk, hlen, hsl, h80, ⟨f83_31, h83⟩⟩ := hq
                                        have h84 := hfk.get (by decide) h84
                                        have hfr := hfr.cl hfk (by decide)
                                        rw [hQ]; exact ⟨hv, hfr, hlen, hsl, h80, ⟨_, h83⟩, ⟨_, h84⟩⟩
                                      · refine ab_aload_n d_MO_end_36 rfl ?_
                                        refine ab_getf (fs := (m_fv (vI 0) (vI 0) (vI 0) (vI 0) (vI 0) (vI 0) (vI 0) (vI 0) (vI 0) (vI 0) (vI 0) (vI 0) (vI (-1)) (vI 0) (vI 0) (vI 0) (vI 0) (vI 0) (vI 0) (vI 0) (vI 0) (vI 0) (vI 0) (vI 0) (vI 0) (vI 0) (vI 0) (vI 0) (vI 0) (vI 0) (vI 0) (vI 0) (vI 0) (vI 0) (vI 0))) f_MO_19 d_MO_end_37 h80 rfl ?_
                                        refine ab_aload_n d_MO_end_40 rfl ?_
                                        refine ab_getf (fs := (m_fv (vI 0) (vI 0) (vI 0) (vI 0) (vI 0) (vI 0) (vI 0) (vI 0) (vI 0) (vI 0) (vI 0) (vI 0) (vI (-1)) (vI 0) (vI 0) (vI 0) (vI 0) (vI 0) (vI 0) (vI 0) (vI 0) (vI 0) (vI 0) (vI 0) (vI 0) (vI 0) (vI 0) (vI 0) (vI 0) (vI 0) (vI 0) (vI 0) (vI 0) (vI 0) (vI 0))) f_MO_223 d_MO_end_41 h80 rfl ?_
                                        refine ab_iload_n d_MO_end_44 rfl ?_
                                        refine ab_iadd d_MO_end_45 ?_
                                        refine ab_topi (y := 15) (by decide) ?_
                                        refine ab_aload_n d_MO_end_46 rfl ?_
                                        refine ab_getf (fs := (m_fv (vI 0) (vI 0) (vI 0) (vI 0) (vI 0) (vI 0) (vI 0) (vI 0) (vI 0) (vI 0) (vI 0) (vI 0) (vI (-1)) (vI 0) (vI 0) (vI 0) (vI 0) (vI 0) (vI 0) (vI 0) (vI 0) (vI 0) (vI 0) (vI 0) (vI 0) (vI 0) (vI 0) (vI 0) (vI 0) (vI 0) (vI 0) (vI 0) (vI 0) (vI 0) (vI 0))) f_MO_16 d_MO_end_47 h80 rfl ?_
                                        refine ab_iload_n d_MO_end_50 rfl ?_
                                        refine ab_iald d_MO_end_51 h83 (by unfold vp_in; decide) ?_
                                        refine ab_topi (y := 0) rfl ?_
                                        refine ab_iast d_MO_end_52 h84 (by unfold vp_in; decide) (by decide) ?_
                                        obtain ⟨G17, eG17⟩ : ∃ z : ab_G, z = List.set G16 84 (ab_if 2000 ((upd f84_30 15 0))) := ⟨_, rfl⟩
                                        have h80 := ab_keep eG17 (by decide) h80
                                        have h83 := ab_keep eG17 (by decide) h83
                                        have hlen := ab_klen eG17 hlen
                                        have hsl := ab_ksl 2000 eG17 h84 rfl rfl hsl
                                        have hfr := hfr.wr eG17 (by decide)
                                        have h84 := ab_kept eG17 h84
                                        change ab_W _ _ _ (List.set G16 84 (ab_if 2000 ((upd f84_30 15 0)))) 53 [some (vR 80), some (vI (xs 1)), some (vI 15)] [] _
                                        rw [← eG17]
                                        obtain ⟨f84_32, h84⟩ : ∃ g : Nat → Int32, G17[84]? = some (ab_if 2000 (g)) := ⟨_, h84⟩
                                        refine ab_iinc (v := 16) d_MO_end_53 rfl (by decide) (Nat.le_of_ble_eq_true rfl) (Nat.le_of_ble_eq_true rfl) rfl ?_
                                        change ab_W _ _ _ G17 56 [some (vR 80), some (vI (xs 1)), some (vI 16)] [] _
                                        refine ab_goto (tgt := 31) d_MO_end_56 (by decide) ?_
                                        refine ab_iload_n d_MO_end_31 rfl ?_
                                        refine ab_iload_n d_MO_end_32 rfl ?_
                                        refine ab_icmp_ge (tgt := 59) d_MO_end_33 (by decide) (fun c21 => ?_) (fun c21 => ?_)
                                        · refine ab_less (L' := [some (vR 80), some (vI (xs 1)), none]) (fun i v h => by rcases i with _ | _ | _ | i <;> first | exact h | (simp at h)) ?_
                                          refine s_MO_end_59_0 (xs := xs) hlen hsl h80 h83 (fun o Gz hq => ?_)
                                          obtain ⟨hv, hfk, hlen, hsl, h80, ⟨f83_33, h83⟩⟩ := hq
                                          have h84 := hfk.get (by decide) h84
                                          have hfr := hfr.cl hfk (by decide)
                                          rw [hQ]; exact ⟨hv, hfr, hlen, hsl, h80, ⟨_, h83⟩, ⟨_, h84⟩⟩
                                        · refine ab_aload_n d_MO_end_36 rfl ?_
                                          refine ab_getf (fs := (m_fv (vI 0) (vI 0) (vI 0) (vI 0) (vI 0) (vI 0) (vI 0) (vI 0) (vI 0) (vI 0) (vI 0) (vI 0) (vI (-1)) (vI 0) (vI 0) (vI 0) (vI 0) (vI 0) (vI 0) (vI 0) (vI 0) (vI 0) (vI 0) (vI 0) (vI 0) (vI 0) (vI 0) (vI 0) (vI 0) (vI 0) (vI 0) (vI 0) (vI 0) (vI 0) (vI 0))) f_MO_19 d_MO_end_37 h80 rfl ?_
                                          refine ab_aload_n d_MO_end_40 rfl ?_
                                          refine ab_getf (fs := (m_fv (vI 0) (vI 0) (vI 0) (vI 0) (vI 0) (vI 0) (vI 0) (vI 0) (vI 0) (vI 0) (vI 0) (vI 0) (vI (-1)) (vI 0) (vI 0) (vI 0) (vI 0) (vI 0) (vI 0) (vI 0) (vI 0) (vI 0) (vI 0) (vI 0) (vI 0) (vI 0) (vI 0) (vI 0) (vI 0) (vI 0) (vI 0) (vI 0) (vI 0) (vI 0) (vI 0))) f_MO_223 d_MO_end_41 h80 rfl ?_
                                          refine ab_iload_n d_MO_end_44 rfl ?_
                                          refine ab_iadd d_MO_end_45 ?_
                                          refine ab_topi (y := 16) (by decide) ?_
                                          refine ab_aload_n d_MO_end_46 rfl ?_
                                          refine ab_getf (fs := (m_fv (vI 0) (vI 0) (vI 0) (vI 0) (vI 0) (vI 0) (vI 0) (vI 0) (vI 0) (vI 0) (vI 0) (vI 0) (vI (-1)) (vI 0) (vI 0) (vI 0) (vI 0) (vI 0) (vI 0) (vI 0) (vI 0) (vI 0) (vI 0) (vI 0) (vI 0) (vI 0) (vI 0) (vI 0) (vI 0) (vI 0) (vI 0) (vI 0) (vI 0) (vI 0) (vI 0))) f_MO_16 d_MO_end_47 h80 rfl ?_
                                          refine ab_iload_n d_MO_end_50 rfl ?_
                                          refine ab_iald d_MO_end_51 h83 (by unfold vp_in; decide) ?_
                                          refine ab_topi (y := 0) rfl ?_
                                          refine ab_iast d_MO_end_52 h84 (by unfold vp_in; decide) (by decide) ?_
                                          obtain ⟨G18, eG18⟩ : ∃ z : ab_G, z = List.set G17 84 (ab_if 2000 ((upd f84_32 16 0))) := ⟨_, rfl⟩
                                          have h80 := ab_keep eG18 (by decide) h80
                                          have h83 := ab_keep eG18 (by decide) h83
                                          have hlen := ab_klen eG18 hlen
                                          have hsl := ab_ksl 2000 eG18 h84 rfl rfl hsl
                                          have hfr := hfr.wr eG18 (by decide)
                                          have h84 := ab_kept eG18 h84
                                          change ab_W _ _ _ (List.set G17 84 (ab_if 2000 ((upd f84_32 16 0)))) 53 [some (vR 80), some (vI (xs 1)), some (vI 16)] [] _
                                          rw [← eG18]
                                          obtain ⟨f84_34, h84⟩ : ∃ g : Nat → Int32, G18[84]? = some (ab_if 2000 (g)) := ⟨_, h84⟩
                                          refine ab_iinc (v := 17) d_MO_end_53 rfl (by decide) (Nat.le_of_ble_eq_true rfl) (Nat.le_of_ble_eq_true rfl) rfl ?_
                                          change ab_W _ _ _ G18 56 [some (vR 80), some (vI (xs 1)), some (vI 17)] [] _
                                          refine ab_goto (tgt := 31) d_MO_end_56 (by decide) ?_
                                          refine ab_iload_n d_MO_end_31 rfl ?_
                                          refine ab_iload_n d_MO_end_32 rfl ?_
                                          refine ab_icmp_ge (tgt := 59) d_MO_end_33 (by decide) (fun c22 => ?_) (fun c22 => ?_)
                                          · refine ab_less (L' := [some (vR 80), some (vI (xs 1)), none]) (fun i v h => by rcases i with _ | _ | _ | i <;> first | exact h | (simp at h)) ?_
                                            refine s_MO_end_59_0 (xs := xs) hlen hsl h80 h83 (fun o Gz hq => ?_)
                                            obtain ⟨hv, hfk, hlen, hsl, h80, ⟨f83_35, h83⟩⟩ := hq
                                            have h84 := hfk.get (by decide) h84
                                            have hfr := hfr.cl hfk (by decide)
                                            rw [hQ]; exact ⟨hv, hfr, hlen, hsl, h80, ⟨_, h83⟩, ⟨_, h84⟩⟩
                                          · refine ab_aload_n d_MO_end_36 rfl ?_
                                            refine ab_getf (fs := (m_fv (vI 0) (vI 0) (vI 0) (vI 0) (vI 0) (vI 0) (vI 0) (vI 0) (vI 0) (vI 0) (vI 0) (vI 0) (vI (-1)) (vI 0) (vI 0) (vI 0) (vI 0) (vI 0) (vI 0) (vI 0) (vI 0) (vI 0) (vI 0) (vI 0) (vI 0) (vI 0) (vI 0) (vI 0) (vI 0) (vI 0) (vI 0) (vI 0) (vI 0) (vI 0) (vI 0))) f_MO_19 d_MO_end_37 h80 rfl ?_
                                            refine ab_aload_n d_MO_end_40 rfl ?_
                                            refine ab_getf (fs := (m_fv (vI 0) (vI 0) (vI 0) (vI 0) (vI 0) (vI 0) (vI 0) (vI 0) (vI 0) (vI 0) (vI 0) (vI 0) (vI (-1)) (vI 0) (vI 0) (vI 0) (vI 0) (vI 0) (vI 0) (vI 0) (vI 0) (vI 0) (vI 0) (vI 0) (vI 0) (vI 0) (vI 0) (vI 0) (vI 0) (vI 0) (vI 0) (vI 0) (vI 0) (vI 0) (vI 0))) f_MO_223 d_MO_end_41 h80 rfl ?_
                                            refine ab_iload_n d_MO_end_44 rfl ?_
                                            refine ab_iadd d_MO_end_45 ?_
                                            refine ab_topi (y := 17) (by decide) ?_
                                            refine ab_aload_n d_MO_end_46 rfl ?_
                                            refine ab_getf (fs := (m_fv (vI 0) (vI 0) (vI 0) (vI 0) (vI 0) (vI 0) (vI 0) (vI 0) (vI 0) (vI 0) (vI 0) (vI 0) (vI (-1)) (vI 0) (vI 0) (vI 0) (vI 0) (vI 0) (vI 0) (vI 0) (vI 0) (vI 0) (vI 0) (vI 0) (vI 0) (vI 0) (vI 0) (vI 0) (vI 0) (vI 0) (vI 0) (vI 0) (vI 0) (vI 0) (vI 0))) f_MO_16 d_MO_end_47 h80 rfl ?_
                                            refine ab_iload_n d_MO_end_50 rfl ?_
                                            refine ab_iald d_MO_end_51 h83 (by unfold vp_in; decide) ?_
                                            refine ab_topi (y := 0) rfl ?_
                                            refine ab_iast d_MO_end_52 h84 (by unfold vp_in; decide) (by decide) ?_
                                            obtain ⟨G19, eG19⟩ : ∃ z : ab_G, z = List.set G18 84 (ab_if 2000 ((upd f84_34 17 0))) := ⟨_, rfl⟩
                                            have h80 := ab_keep eG19 (by decide) h80
                                            have h83 := ab_keep eG19 (by decide) h83
                                            have hlen := ab_klen eG19 hlen
                                            have hsl := ab_ksl 2000 eG19 h84 rfl rfl hsl
                                            have hfr := hfr.wr eG19 (by decide)
                                            have h84 := ab_kept eG19 h84
                                            change ab_W _ _ _ (List.set G18 84 (ab_if 2000 ((upd f84_34 17 0)))) 53 [some (vR 80), some (vI (xs 1)), some (vI 17)] [] _
                                            rw [← eG19]
                                            obtain ⟨f84_36, h84⟩ : ∃ g : Nat → Int32, G19[84]? = some (ab_if 2000 (g)) := ⟨_, h84⟩
                                            refine ab_iinc (v := 18) d_MO_end_53 rfl (by decide) (Nat.le_of_ble_eq_true rfl) (Nat.le_of_ble_eq_true rfl) rfl ?_
                                            change ab_W _ _ _ G19 56 [some (vR 80), some (vI (xs 1)), some (vI 18)] [] _
                                            refine ab_goto (tgt := 31) d_MO_end_56 (by decide) ?_
                                            refine ab_iload_n d_MO_end_31 rfl ?_
                                            refine ab_iload_n d_MO_end_32 rfl ?_
                                            refine ab_icmp_ge (tgt := 59) d_MO_end_33 (by decide) (fun c23 => ?_) (fun c23 => ?_)
                                            · refine ab_less (L' := [some (vR 80), some (vI (xs 1)), none]) (fun i v h => by rcases i with _ | _ | _ | i <;> first | exact h | (simp at h)) ?_
                                              refine s_MO_end_59_0 (xs := xs) hlen hsl h80 h83 (fun o Gz hq => ?_)
                                              obtain ⟨hv, hfk, hlen, hsl, h80, ⟨f83_37, h83⟩⟩ := hq
                                              have h84 := hfk.get (by decide) h84
                                              have hfr := hfr.cl hfk (by decide)
                                              rw [hQ]; exact ⟨hv, hfr, hlen, hsl, h80, ⟨_, h83⟩, ⟨_, h84⟩⟩
                                            · refine ab_aload_n d_MO_end_36 rfl ?_
                                              refine ab_getf (fs := (m_fv (vI 0) (vI 0) (vI 0) (vI 0) (vI 0) (vI 0) (vI 0) (vI 0) (vI 0) (vI 0) (vI 0) (vI 0) (vI (-1)) (vI 0) (vI 0) (vI 0) (vI 0) (vI 0) (vI 0) (vI 0) (vI 0) (vI 0) (vI 0) (vI 0) (vI 0) (vI 0) (vI 0) (vI 0) (vI 0) (vI 0) (vI 0) (vI 0) (vI 0) (vI 0) (vI 0))) f_MO_19 d_MO_end_37 h80 rfl ?_
                                              refine ab_aload_n d_MO_end_40 rfl ?_
                                              refine ab_getf (fs := (m_fv (vI 0) (vI 0) (vI 0) (vI 0) (vI 0) (vI 0) (vI 0) (vI 0) (vI 0) (vI 0) (vI 0) (vI 0) (vI (-1)) (vI 0) (vI 0) (vI 0) (vI 0) (vI 0) (vI 0) (vI 0) (vI 0) (vI 0) (vI 0) (vI 0) (vI 0) (vI 0) (vI 0) (vI 0) (vI 0) (vI 0) (vI 0) (vI 0) (vI 0) (vI 0) (vI 0))) f_MO_223 d_MO_end_41 h80 rfl ?_
                                              refine ab_iload_n d_MO_end_44 rfl ?_
                                              refine ab_iadd d_MO_end_45 ?_
                                              refine ab_topi (y := 18) (by decide) ?_
                                              refine ab_aload_n d_MO_end_46 rfl ?_
                                              refine ab_getf (fs := (m_fv (vI 0) (vI 0) (vI 0) (vI 0) (vI 0) (vI 0) (vI 0) (vI 0) (vI 0) (vI 0) (vI 0) (vI 0) (vI (-1)) (vI 0) (vI 0) (vI 0) (vI 0) (vI 0) (vI 0) (vI 0) (vI 0) (vI 0) (vI 0) (vI 0) (vI 0) (vI 0) (vI 0) (vI 0) (vI 0) (vI 0) (vI 0) (vI 0) (vI 0) (vI 0) (vI 0))) f_MO_16 d_MO_end_47 h80 rfl ?_
                                              refine ab_iload_n d_MO_end_50 rfl ?_
                                              refine ab_iald d_MO_end_51 h83 (by unfold vp_in; decide) ?_
                                              refine ab_topi (y := 0) rfl ?_
                                              refine ab_iast d_MO_end_52 h84 (by unfold vp_in; decide) (by decide) ?_
                                              obtain ⟨G20, eG20⟩ : ∃ z : ab_G, z = List.set G19 84 (ab_if 2000 ((upd f84_36 18 0))) := ⟨_, rfl⟩
                                              have h80 := ab_keep eG20 (by decide) h80
                                              have h83 := ab_keep eG20 (by decide) h83
                                              have hlen := ab_klen eG20 hlen
                                              have hsl := ab_ksl 2000 eG20 h84 rfl rfl hsl
                                              have hfr := hfr.wr eG20 (by decide)
                                              have h84 := ab_kept eG20 h84
                                              change ab_W _ _ _ (List.set G19 84 (ab_if 2000 ((upd f84_36 18 0)))) 53 [some (vR 80), some (vI (xs 1)), some (vI 18)] [] _
                                              rw [← eG20]
                                              obtain ⟨f84_38, h84⟩ : ∃ g : Nat → Int32, G20[84]? = some (ab_if 2000 (g)) := ⟨_, h84⟩
                                              refine ab_iinc (v := 19) d_MO_end_53 rfl (by decide) (Nat.le_of_ble_eq_true rfl) (Nat.le_of_ble_eq_true rfl) rfl ?_
                                              change ab_W _ _ _ G20 56 [some (vR 80), some (vI (xs 1)), some (vI 19)] [] _
                                              refine ab_goto (tgt := 31) d_MO_end_56 (by decide) ?_
                                              refine ab_iload_n d_MO_end_31 rfl ?_
                                              refine ab_iload_n d_MO_end_32 rfl ?_
                                              refine ab_icmp_ge (tgt := 59) d_MO_end_33 (by decide) (fun c24 => ?_) (fun c24 => ?_)
                                              · refine ab_less (L' := [some (vR 80), some (vI (xs 1)), none]) (fun i v h => by rcases i with _ | _ | _ | i <;> first | exact h | (simp at h)) ?_
                                                refine s_MO_end_59_0 (xs := xs) hlen hsl h80 h83 (fun o Gz hq => ?_)
                                                obtain ⟨hv, hfk, hlen, hsl, h80, ⟨f83_39, h83⟩⟩ := hq
                                                have h84 := hfk.get (by decide) h84
                                                have hfr := hfr.cl hfk (by decide)
                                                rw [hQ]; exact ⟨hv, hfr, hlen, hsl, h80, ⟨_, h83⟩, ⟨_, h84⟩⟩
                                              · refine ab_aload_n d_MO_end_36 rfl ?_
                                                refine ab_getf (fs := (m_fv (vI 0) (vI 0) (vI 0) (vI 0) (vI 0) (vI 0) (vI 0) (vI 0) (vI 0) (vI 0) (vI 0) (vI 0) (vI (-1)) (vI 0) (vI 0) (vI 0) (vI 0) (vI 0) (vI 0) (vI 0) (vI 0) (vI 0) (vI 0) (vI 0) (vI 0) (vI 0) (vI 0) (vI 0) (vI 0) (vI 0) (vI 0) (vI 0) (vI 0) (vI 0) (vI 0))) f_MO_19 d_MO_end_37 h80 rfl ?_
                                                refine ab_aload_n d_MO_end_40 rfl ?_
                                                refine ab_getf (fs := (m_fv (vI 0) (vI 0) (vI 0) (vI 0) (vI 0) (vI 0) (vI 0) (vI 0) (vI 0) (vI 0) (vI 0) (vI 0) (vI (-1)) (vI 0) (vI 0) (vI 0) (vI 0) (vI 0) (vI 0) (vI 0) (vI 0) (vI 0) (vI 0) (vI 0) (vI 0) (vI 0) (vI 0) (vI 0) (vI 0) (vI 0) (vI 0) (vI 0) (vI 0) (vI 0) (vI 0))) f_MO_223 d_MO_end_41 h80 rfl ?_
                                                refine ab_iload_n d_MO_end_44 rfl ?_
                                                refine ab_iadd d_MO_end_45 ?_
                                                refine ab_topi (y := 19) (by decide) ?_
                                                refine ab_aload_n d_MO_end_46 rfl ?_
                                                refine ab_getf (fs := (m_fv (vI 0) (vI 0) (vI 0) (vI 0) (vI 0) (vI 0) (vI 0) (vI 0) (vI 0) (vI 0) (vI 0) (vI 0) (vI (-1)) (vI 0) (vI 0) (vI 0) (vI 0) (vI 0) (vI 0) (vI 0) (vI 0) (vI 0) (vI 0) (vI 0) (vI 0) (vI 0) (vI 0) (vI 0) (vI 0) (vI 0) (vI 0) (vI 0) (vI 0) (vI 0) (vI 0))) f_MO_16 d_MO_end_47 h80 rfl ?_
                                                refine ab_iload_n d_MO_end_50 rfl ?_
                                                refine ab_iald d_MO_end_51 h83 (by unfold vp_in; decide) ?_
                                                refine ab_topi (y := 0) rfl ?_
                                                refine ab_iast d_MO_end_52 h84 (by unfold vp_in; decide) (by decide) ?_
                                                obtain ⟨G21, eG21⟩ : ∃ z : ab_G, z = List.set G20 84 (ab_if 2000 ((upd f84_38 19 0))) := ⟨_, rfl⟩
                                                have h80 := ab_keep eG21 (by decide) h80
                                                have h83 := ab_keep eG21 (by decide) h83
                                                have hlen := ab_klen eG21 hlen
                                                have hsl := ab_ksl 2000 eG21 h84 rfl rfl hsl
                                                have hfr := hfr.wr eG21 (by decide)
                                                have h84 := ab_kept eG21 h84
                                                change ab_W _ _ _ (List.set G20 84 (ab_if 2000 ((upd f84_38 19 0)))) 53 [some (vR 80), some (vI (xs 1)), some (vI 19)] [] _
                                                rw [← eG21]
                                                obtain ⟨f84_40, h84⟩ : ∃ g : Nat → Int32, G21[84]? = some (ab_if 2000 (g)) := ⟨_, h84⟩
                                                refine ab_iinc (v := 20) d_MO_end_53 rfl (by decide) (Nat.le_of_ble_eq_true rfl) (Nat.le_of_ble_eq_true rfl) rfl ?_
                                                change ab_W _ _ _ G21 56 [some (vR 80), some (vI (xs 1)), some (vI 20)] [] _
                                                refine ab_goto (tgt := 31) d_MO_end_56 (by decide) ?_
                                                refine ab_iload_n d_MO_end_31 rfl ?_
                                                refine ab_iload_n d_MO_end_32 rfl ?_
                                                refine ab_icmp_ge (tgt := 59) d_MO_end_33 (by decide) (fun c25 => ?_) (fun c25 => ?_)
                                                · refine ab_less (L' := [some (vR 80), some (vI (xs 1)), none]) (fun i v h => by rcases i with _ | _ | _ | i <;> first | exact h | (simp at h)) ?_
                                                  refine s_MO_end_59_0 (xs := xs) hlen hsl h80 h83 (fun o Gz hq => ?_)
                                                  obtain ⟨hv, hfk, hlen, hsl, h80, ⟨f83_41, h83⟩⟩ := hq
                                                  have h84 := hfk.get (by decide) h84
                                                  have hfr := hfr.cl hfk (by decide)
                                                  rw [hQ]; exact ⟨hv, hfr, hlen, hsl, h80, ⟨_, h83⟩, ⟨_, h84⟩⟩
                                                · exfalso; have l0 := (show (0 : Int32).toInt = 0 by decide); have l1 := (show (1 : Int32).toInt = 1 by decide); have l2 := (show (2 : Int32).toInt = 2 by decide); have l3 := (show (3 : Int32).toInt = 3 by decide); have l4 := (show (4 : Int32).toInt = 4 by decide); have l5 := (show (5 : Int32).toInt = 5 by decide); have l6 := (show (6 : Int32).toInt = 6 by decide); have l7 := (show (7 : Int32).toInt = 7 by decide); have l8 := (show (8 : Int32).toInt = 8 by decide); have l9 := (show (9 : Int32).toInt = 9 by decide); have l10 := (show (10 : Int32).toInt = 10 by decide); have l11 := (show (11 : Int32).toInt = 11 by decide); have l12 := (show (12 : Int32).toInt = 12 by decide); have l13 := (show (13 : Int32).toInt = 13 by decide); have l14 := (show (14 : Int32).toInt = 14 by decide); have l15 := (show (15 : Int32).toInt = 15 by decide); have l16 := (show (16 : Int32).toInt = 16 by decide); have l17 := (show (17 : Int32).toInt = 17 by decide); have l18 := (show (18 : Int32).toInt = 18 by decide); have l19 := (show (19 : Int32).toInt = 19 by decide); have l20 := (show (20 : Int32).toInt = 20 by decide); have l21 := (show (2000 : Int32).toInt = 2000 by decide); simp only [Int32.le_iff_toInt_le, Int32.lt_iff_toInt_lt, ← Int32.toInt_inj] at c0 c1 c2 c3 c4 c5 c6 c7 c8 c9 c10 c11 c12 c13 c14 c15 c16 c17 c18 c19 c20 c21 c22 c23 c24 c25; omega
      · exfalso; have l0 := (show (0 : Int32).toInt = 0 by decide); have l1 := (show (20 : Int32).toInt = 20 by decide); have l2 := (show (2000 : Int32).toInt = 2000 by decide); simp only [Int32.le_iff_toInt_le, Int32.lt_iff_toInt_lt, ← Int32.toInt_inj] at c0 c1 c2 c3 c4; omega
set_option maxRecDepth 100000 in
set_option maxHeartbeats 4000000 in
theorem lc_1c {X : ab_X} {d : Nat} {G : ab_G} {xs : Nat → Int32} (hlen : G.length = 149) (hsl : ab_slots G = 1890753) (h0 : G[0]? = some (ab_if 6 (xs))) (h18 : G[18]? = some (ab_ob 0 [vR 19, vR 20, vR 22, vR 30, vR 31, vR 36, vR 37, vR 46, vR 51, vR 60, vR 69, vR 70, vR 72, vR 74, vR 76, vR 78, vI 0, vI 0])) (h19 : G[19]? = some (ab_if 20 ((fun _ => 0)))) (h20 : G[20]? = some (ab_ob 7 [vI 2000, vR 21, vI 0])) (h21 : G[21]? = some (ab_if 32 ((fun _ => 0)))) (h80 : G[80]? = some (ab_ob 12 (m_fv (vI 0) (vI 0) (vI 0) (vI 0) (vI 0) (vI 0) (vI 0) (vI 0) (vI 0) (vI 0) (vI 0) (vI 0) (vI (-1)) (vI 0) (vI 0) (vI 0) (vI 0) (vI 0) (vI 0) (vI 0) (vI 0) (vI 0) (vI 0) (vI 0) (vI 0) (vI 0) (vI 0) (vI 0) (vI 0) (vI 0) (vI 0) (vI 0) (vI 0) (vI 0) (vI 0)))) (h83 : G[83]? = some (ab_if 20 ((fun _ => 0)))) (h84 : G[84]? = some (ab_if 2000 ((fun _ => 0)))) (c0 : 0 ≤ (xs 1)) (c1 : (xs 1) ≤ 20) (hd : 3 ≤ d) : ab_W X ab_LW d G 203 [some (vR 0), some (vR 18), some (vR 80), some (vR 148), some (vI 0), none, none] [] (fun o _ => o = .returned (some (vI 1))) := by
  obtain ⟨Q, hQ⟩ : ∃ z : Outcome → ab_G → Prop, z = (fun o _ => o = .returned (some (vI 1))) := ⟨_, rfl⟩
  rw [← hQ]
  have hfr : ab_fr [19, 20, 21, 80, 83, 84] G G := ab_fr.rf
  refine ab_aload_n d_LA_law_203 rfl ?_
  refine ab_aload_n d_LA_law_204 rfl ?_
  refine ab_iload d_LA_law_205 rfl ?_
  refine ab_iconst (v := 1) d_LA_law_207 (by decide) ?_
  refine ab_iadd d_LA_law_208 ?_
  refine ab_topi (y := 1) (by decide) ?_
  refine ab_iald d_LA_law_209 h0 (by unfold vp_in; decide) ?_
  refine ab_topi (y := (xs 1)) rfl ?_
  refine ab_callV (d' := d - 1) (as := [vI (xs 1)]) (st := []) (r := _) (q_PW_end_2 (xs := xs) hlen hsl h18 h19 h20 h21 c0 c1 (by omega)) (fun o G2 h => ⟨_, h.1⟩) (by omega) m_PW_end ml_LA_42 im_PW_end se_PW_end c_PW h18 (Nat.le_of_ble_eq_true rfl) d_LA_law_210 rfl ?_
  intro v G1 hq
  obtain ⟨hv, hfk, hlen, hsl, ⟨f19_1, h19⟩, h20, h21⟩ := hq
  cases hv
  have h0 := hfk.get (by decide) h0
  have h18 := hfk.get (by decide) h18
  have h80 := hfk.get (by decide) h80
  have h83 := hfk.get (by decide) h83
  have h84 := hfk.get (by decide) h84
  have hfr := hfr.cl hfk (by decide)
  change ab_W _ _ _ G1 213 [some (vR 0), some (vR 18), some (vR 80), some (vR 148), some (vI 0), none, none] [vI (xs 1)] _
  refine ab_aload_n d_LA_law_213 rfl ?_
  refine ab_aload_n d_LA_law_214 rfl ?_
  refine ab_iload d_LA_law_215 rfl ?_
  refine ab_iconst (v := 1) d_LA_law_217 (by decide) ?_
  refine ab_iadd d_LA_law_218 ?_
  refine ab_topi (y := 1) (by decide) ?_
  refine ab_iald d_LA_law_219 h0 (by unfold vp_in; decide) ?_
  refine ab_topi (y := (xs 1)) rfl ?_
  refine ab_callV (d' := d - 1) (as := [vI (xs 1)]) (st := [vI (xs 1)]) (r := _) (q_MO_end_3 (xs := xs) hlen hsl h80 h83 h84 c0 c1) (fun o G2 h => ⟨_, h.1⟩) (by omega) m_MO_end ml_LA_45 im_MO_end se_MO_end c_MO h80 (Nat.le_of_ble_eq_true rfl) d_LA_law_220 rfl ?_
  intro v G2 hq
  obtain ⟨hv, hfk, hlen, hsl, h80, ⟨f83_2, h83⟩, ⟨f84_3, h84⟩⟩ := hq
  cases hv
  have h0 := hfk.get (by decide) h0
  have h18 := hfk.get (by decide) h18
  have h19 := hfk.get (by decide) h19
  have h20 := hfk.get (by decide) h20
  have h21 := hfk.get (by decide) h21
  have hfr := hfr.cl hfk (by decide)
  change ab_W _ _ _ G2 223 [some (vR 0), some (vR 18), some (vR 80), some (vR 148), some (vI 0), none, none] [vI (xs 1), vI (xs 1)] _
  refine ab_icmp_eq (tgt := 931) d_LA_law_223 (by decide) (fun _ => ?_) (fun c => absurd c (fun h => h rfl))
  refine ab_iinc (v := 6) d_LA_law_931 rfl (by decide) (Nat.le_of_ble_eq_true rfl) (Nat.le_of_ble_eq_true rfl) rfl ?_
  change ab_W _ _ _ G2 934 [some (vR 0), some (vR 18), some (vR 80), some (vR 148), some (vI 6), none, none] [] _
  refine ab_goto (tgt := 23) d_LA_law_934 (by decide) ?_
  refine ab_iload d_LA_law_23 rfl ?_
  refine ab_aload_n d_LA_law_25 rfl ?_
  refine ab_alen (v := 6) d_LA_law_26 h0 (by first | decide | rfl) ?_
  refine ab_bipush (v := 6) d_LA_law_27 (by decide) ?_
  refine ab_isub d_LA_law_29 ?_
  refine ab_topi (y := 0) (by decide) ?_
  refine ab_icmp_gt (tgt := 937) d_LA_law_30 (by decide) (fun _ => ?_) (fun c => absurd c (by decide))
  refine ab_iconst (v := 1) d_LA_law_937 (by decide) ?_
  exact ab_iret (rt := .boolean) rfl (by decide) d_LA_law_938 (by rw [hQ])
set_option maxRecDepth 100000 in
set_option maxHeartbeats 4000000 in
theorem q_TX_begin_0 {X : ab_X} {d : Nat} {G : ab_G}  (hlen : G.length = 149) (hsl : ab_slots G = 1890753) (h20 : G[20]? = some (ab_ob 7 [vI 2000, vR 21, vI 0])) (h23 : G[23]? = some (ab_ob 10 [vR 24, vR 26, vI 0, vI 0, vI 0, vI (-1), vR 1, vI 0])) : ab_F X d y_TX_begin (.code y_TX_begin b_TX_begin 2 none) [vR 23, vR 20] G (fun o G2 => o = .returned none ∧ ab_fr [23] G G2 ∧ G2.length = 149 ∧ ab_slots G2 = 1890753 ∧ G2[23]? = some (ab_ob 10 [vR 24, vR 21, vI 0, vI 0, vI 0, vI (-1), vR 1, vI 0])) := by
  refine ab_F_of (by decide +kernel) (Nat.le_of_ble_eq_true rfl) ?_
  obtain ⟨Q, hQ⟩ : ∃ z : Outcome → ab_G → Prop, z = (fun o G2 => o = .returned none ∧ ab_fr [23] G G2 ∧ G2.length = 149 ∧ ab_slots G2 = 1890753 ∧ G2[23]? = some (ab_ob 10 [vR 24, vR 21, vI 0, vI 0, vI 0, vI (-1), vR 1, vI 0])) := ⟨_, rfl⟩
  rw [← hQ]
  change ab_W X (ab_pl y_TX_begin b_TX_begin 2 none) d G 0 [some (vR 23), some (vR 20)] [] Q
  have hfr : ab_fr [23] G G := ab_fr.rf
  refine ab_aload_n d_TX_begin_0 rfl ?_
  refine ab_aload_n d_TX_begin_1 rfl ?_
  refine ab_getf (fs := [vI 2000, vR 21, vI 0]) f_TX_32 d_TX_begin_2 h20 rfl ?_
  refine ab_putf (fs := [vR 24, vR 26, vI 0, vI 0, vI 0, vI (-1), vR 1, vI 0]) f_TX_18 (Or.inl rfl) d_TX_begin_5 h23 (Nat.le_of_ble_eq_true rfl) (fun _ => ⟨rfl, rfl⟩) (by decide) ?_
  obtain ⟨G1, eG1⟩ : ∃ z : ab_G, z = List.set G 23 (ab_ob 10 [vR 24, vR 21, vI 0, vI 0, vI 0, vI (-1), vR 1, vI 0]) := ⟨_, rfl⟩
  have h20 := ab_keep eG1 (by decide) h20
  have hlen := ab_klen eG1 hlen
  have hsl := ab_ksl 8 eG1 h23 rfl rfl hsl
  have hfr := hfr.wr eG1 (by decide)
  have h23 := ab_kept eG1 h23
  change ab_W _ _ _ (List.set G 23 (ab_ob 10 [vR 24, vR 21, vI 0, vI 0, vI 0, vI (-1), vR 1, vI 0])) 8 [some (vR 23), some (vR 20)] [] _
  rw [← eG1]
  refine ab_aload_n d_TX_begin_8 rfl ?_
  refine ab_aload_n d_TX_begin_9 rfl ?_
  refine ab_getf (fs := [vI 2000, vR 21, vI 0]) f_TX_37 d_TX_begin_10 h20 rfl ?_
  refine ab_putf (fs := [vR 24, vR 21, vI 0, vI 0, vI 0, vI (-1), vR 1, vI 0]) f_TX_40 (Or.inl rfl) d_TX_begin_13 h23 (Nat.le_of_ble_eq_true rfl) (fun _ => ⟨rfl, rfl⟩) (by decide) ?_
  obtain ⟨G2, eG2⟩ : ∃ z : ab_G, z = List.set G1 23 (ab_ob 10 [vR 24, vR 21, vI 0, vI 0, vI 0, vI (-1), vR 1, vI 0]) := ⟨_, rfl⟩
  have h20 := ab_keep eG2 (by decide) h20
  have hlen := ab_klen eG2 hlen
  have hsl := ab_ksl 8 eG2 h23 rfl rfl hsl
  have hfr := hfr.wr eG2 (by decide)
  have h23 := ab_kept eG2 h23
  change ab_W _ _ _ (List.set G1 23 (ab_ob 10 [vR 24, vR 21, vI 0, vI 0, vI 0, vI (-1), vR 1, vI 0])) 16 [some (vR 23), some (vR 20)] [] _
  rw [← eG2]
  refine ab_aload_n d_TX_begin_16 rfl ?_
  refine ab_iconst (v := 0) d_TX_begin_17 (by decide) ?_
  refine ab_putf (fs := [vR 24, vR 21, vI 0, vI 0, vI 0, vI (-1), vR 1, vI 0]) f_TX_43 (Or.inl rfl) d_TX_begin_18 h23 (Nat.le_of_ble_eq_true rfl) (fun _ => ⟨rfl, rfl⟩) (by decide) ?_
  obtain ⟨G3, eG3⟩ : ∃ z : ab_G, z = List.set G2 23 (ab_ob 10 [vR 24, vR 21, vI 0, vI 0, vI 0, vI (-1), vR 1, vI 0]) := ⟨_, rfl⟩
  have h20 := ab_keep eG3 (by decide) h20
  have hlen := ab_klen eG3 hlen
  have hsl := ab_ksl 8 eG3 h23 rfl rfl hsl
  have hfr := hfr.wr eG3 (by decide)
  have h23 := ab_kept eG3 h23
  change ab_W _ _ _ (List.set G2 23 (ab_ob 10 [vR 24, vR 21, vI 0, vI 0, vI 0, vI (-1), vR 1, vI 0])) 21 [some (vR 23), some (vR 20)] [] _
  rw [← eG3]
  refine ab_aload_n d_TX_begin_21 rfl ?_
  refine ab_iconst (v := 0) d_TX_begin_22 (by decide) ?_
  refine ab_putf (fs := [vR 24, vR 21, vI 0, vI 0, vI 0, vI (-1), vR 1, vI 0]) f_TX_46 (Or.inl rfl) d_TX_begin_23 h23 (Nat.le_of_ble_eq_true rfl) (fun _ => ⟨rfl, rfl⟩) (by decide) ?_
  obtain ⟨G4, eG4⟩ : ∃ z : ab_G, z = List.set G3 23 (ab_ob 10 [vR 24, vR 21, vI 0, vI 0, vI 0, vI (-1), vR 1, vI 0]) := ⟨_, rfl⟩
  have h20 := ab_keep eG4 (by decide) h20
  have hlen := ab_klen eG4 hlen
  have hsl := ab_ksl 8 eG4 h23 rfl rfl hsl
  have hfr := hfr.wr eG4 (by decide)
  have h23 := ab_kept eG4 h23
  change ab_W _ _ _ (List.set G3 23 (ab_ob 10 [vR 24, vR 21, vI 0, vI 0, vI 0, vI (-1), vR 1, vI 0])) 26 [some (vR 23), some (vR 20)] [] _
  rw [← eG4]
  refine ab_aload_n d_TX_begin_26 rfl ?_
  refine ab_iconst (v := (-1)) d_TX_begin_27 (by decide) ?_
  refine ab_putf (fs := [vR 24, vR 21, vI 0, vI 0, vI 0, vI (-1), vR 1, vI 0]) f_TX_22 (Or.inl rfl) d_TX_begin_28 h23 (Nat.le_of_ble_eq_true rfl) (fun _ => ⟨rfl, rfl⟩) (by decide) ?_
  obtain ⟨G5, eG5⟩ : ∃ z : ab_G, z = List.set G4 23 (ab_ob 10 [vR 24, vR 21, vI 0, vI 0, vI 0, vI (-1), vR 1, vI 0]) := ⟨_, rfl⟩
  have h20 := ab_keep eG5 (by decide) h20
  have hlen := ab_klen eG5 hlen
  have hsl := ab_ksl 8 eG5 h23 rfl rfl hsl
  have hfr := hfr.wr eG5 (by decide)
  have h23 := ab_kept eG5 h23
  change ab_W _ _ _ (List.set G4 23 (ab_ob 10 [vR 24, vR 21, vI 0, vI 0, vI 0, vI (-1), vR 1, vI 0])) 31 [some (vR 23), some (vR 20)] [] _
  rw [← eG5]
  exact ab_vret rfl d_TX_begin_31 (by rw [hQ]; exact ⟨rfl, hfr, hlen, hsl, h23⟩)
