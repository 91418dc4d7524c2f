set_option maxRecDepth 100000 in
set_option maxHeartbeats 4000000 in
theorem z_MO_image {X : ab_X} {d : Nat} {o : Nat → Nat} {G : ab_G} {x : Int} (cx : -2 ≤ x ∧ x ≤ 2000000) : ab_F X d y_MO_image (.code y_MO_image b_MO_image 2 (some (.int))) [vz x] G (fun oc G2 => ∃ v : Int, oc = .returned (some (vz v)) ∧ G2 = G ∧ (v = img x)) := by
  refine ab_F_of (by decide +kernel) (Nat.le_of_ble_eq_true rfl) ?_
  obtain ⟨Q, hQ⟩ : ∃ z : Outcome → ab_G → Prop, z = (fun oc G2 => ∃ v : Int, oc = .returned (some (vz v)) ∧ G2 = G ∧ (v = img x)) := ⟨_, rfl⟩
  rw [← hQ]
  change ab_W X (ab_pl y_MO_image b_MO_image 2 (some (.int))) d G 0 [some (vz x), none] [] Q
  have hfr : fx o o [] G G := fx.rf
  have hlen : G.length = G.length := rfl
  have hsl : ab_slots G = ab_slots G := rfl
  refine ab_iload_n d_MO_image_0 rfl ?_
  refine zz_bipush d_MO_image_1 (by decide) ?_
  refine zz_icmp_lt (tgt := 12) d_MO_image_3 (by decide) (by omega) (by decide) (fun c1 => ?_) (fun c1 => ?_)
  · refine ab_iload_n d_MO_image_12 rfl ?_
    refine zz_sipush d_MO_image_13 (by decide) ?_
    refine zz_icmp_lt (tgt := 33) d_MO_image_16 (by decide) (by omega) (by decide) (fun c2 => ?_) (fun c2 => absurd c2 (by omega))
    refine ab_iload_n d_MO_image_33 rfl ?_
    refine zz_sipush d_MO_image_34 (by decide) ?_
    refine zz_icmp_lt (tgt := 47) d_MO_image_37 (by decide) (by omega) (by decide) (fun c3 => ?_) (fun c3 => absurd c3 (by omega))
    refine ab_iload_n d_MO_image_47 rfl ?_
    refine zz_sipush d_MO_image_48 (by decide) ?_
    refine zz_icmp_lt (tgt := 68) d_MO_image_51 (by decide) (by omega) (by decide) (fun c4 => ?_) (fun c4 => absurd c4 (by omega))
    refine ab_iload_n d_MO_image_68 rfl ?_
    refine zz_sipush d_MO_image_69 (by decide) ?_
    refine zz_icmp_lt (tgt := 89) d_MO_image_72 (by decide) (by omega) (by decide) (fun c5 => ?_) (fun c5 => absurd c5 (by omega))
    refine ab_iload_n d_MO_image_89 rfl ?_
    refine ab_istore_n d_MO_image_90 (Nat.le_of_ble_eq_true rfl) (Nat.le_of_ble_eq_true rfl) rfl ?_
    change ab_W _ _ _ G 91 [some (vz x), some (vz x)] [] _
    refine ab_iload_n d_MO_image_91 rfl ?_
    refine zz_sipush d_MO_image_92 (by decide) ?_
    refine zz_icmp_ne (tgt := 103) d_MO_image_95 (by decide) (by omega) (by decide) (fun c6 => ?_) (fun c6 => absurd c6 (by omega))
    refine ab_iload_n d_MO_image_103 rfl ?_
    refine zz_sipush d_MO_image_104 (by decide) ?_
    refine zz_icmp_ne (tgt := 115) d_MO_image_107 (by decide) (by omega) (by decide) (fun c7 => ?_) (fun c7 => absurd c7 (by omega))
    refine ab_iload_n d_MO_image_115 rfl ?_
    refine zz_sipush d_MO_image_116 (by decide) ?_
    refine zz_icmp_ne (tgt := 128) d_MO_image_119 (by decide) (by omega) (by decide) (fun c8 => ?_) (fun c8 => absurd c8 (by omega))
    refine ab_iload_n d_MO_image_128 rfl ?_
    refine zz_sipush d_MO_image_129 (by decide) ?_
    refine zz_icmp_ne (tgt := 141) d_MO_image_132 (by decide) (by omega) (by decide) (fun c9 => ?_) (fun c9 => absurd c9 (by omega))
    refine ab_iload_n d_MO_image_141 rfl ?_
    refine zz_sipush d_MO_image_142 (by decide) ?_
    refine zz_icmp_ne (tgt := 154) d_MO_image_145 (by decide) (by omega) (by decide) (fun c10 => ?_) (fun c10 => absurd c10 (by omega))
    refine ab_iload_n d_MO_image_154 rfl ?_
    refine zz_iret rfl d_MO_image_155 ?_
    rw [hQ]; exact ⟨_, rfl, rfl, (by have a1_ := img1_c x; have b1_ := img2_c (img1 x); unfold imgU at a1_; unfold img; omega)⟩
  · refine ab_iload_n d_MO_image_6 rfl ?_
    refine zz_bipush d_MO_image_7 (by decide) ?_
    refine zz_icmp_le (tgt := 61) d_MO_image_9 (by decide) (by omega) (by decide) (fun c11 => ?_) (fun c11 => ?_)
    · refine ab_iload_n d_MO_image_61 rfl ?_
      refine zz_bipush d_MO_image_62 (by decide) ?_
      refine zz_iadd d_MO_image_64 ?_
      refine ab_goto (tgt := 90) d_MO_image_65 (by decide) ?_
      refine ab_istore_n d_MO_image_90 (Nat.le_of_ble_eq_true rfl) (Nat.le_of_ble_eq_true rfl) rfl ?_
      change ab_W _ _ _ G 91 [some (vz x), some (vz (x + 32))] [] _
      refine ab_iload_n d_MO_image_91 rfl ?_
      refine zz_sipush d_MO_image_92 (by decide) ?_
      refine zz_icmp_ne (tgt := 103) d_MO_image_95 (by decide) (by omega) (by decide) (fun c12 => ?_) (fun c12 => absurd c12 (by omega))
      refine ab_iload_n d_MO_image_103 rfl ?_
      refine zz_sipush d_MO_image_104 (by decide) ?_
      refine zz_icmp_ne (tgt := 115) d_MO_image_107 (by decide) (by omega) (by decide) (fun c13 => ?_) (fun c13 => absurd c13 (by omega))
      refine ab_iload_n d_MO_image_115 rfl ?_
      refine zz_sipush d_MO_image_116 (by decide) ?_
      refine zz_icmp_ne (tgt := 128) d_MO_image_119 (by decide) (by omega) (by decide) (fun c14 => ?_) (fun c14 => absurd c14 (by omega))
      refine ab_iload_n d_MO_image_128 rfl ?_
      refine zz_sipush d_MO_image_129 (by decide) ?_
      refine zz_icmp_ne (tgt := 141) d_MO_image_132 (by decide) (by omega) (by decide) (fun c15 => ?_) (fun c15 => absurd c15 (by omega))
      refine ab_iload_n d_MO_image_141 rfl ?_
      refine zz_sipush d_MO_image_142 (by decide) ?_
      refine zz_icmp_ne (tgt := 154) d_MO_image_145 (by decide) (by omega) (by decide) (fun c16 => ?_) (fun c16 => absurd c16 (by omega))
      refine ab_iload_n d_MO_image_154 rfl ?_
      refine zz_iret rfl d_MO_image_155 ?_
      rw [hQ]; exact ⟨_, rfl, rfl, (by have a1_ := img1_c x; have b1_ := img2_c (img1 x); unfold imgU at a1_; unfold img; omega)⟩
    · refine ab_iload_n d_MO_image_12 rfl ?_
      refine zz_sipush d_MO_image_13 (by decide) ?_
      refine zz_icmp_lt (tgt := 33) d_MO_image_16 (by decide) (by omega) (by decide) (fun c17 => ?_) (fun c17 => ?_)
      · refine ab_iload_n d_MO_image_33 rfl ?_
        refine zz_sipush d_MO_image_34 (by decide) ?_
        refine zz_icmp_lt (tgt := 47) d_MO_image_37 (by decide) (by omega) (by decide) (fun c18 => ?_) (fun c18 => absurd c18 (by omega))
        refine ab_iload_n d_MO_image_47 rfl ?_
        refine zz_sipush d_MO_image_48 (by decide) ?_
        refine zz_icmp_lt (tgt := 68) d_MO_image_51 (by decide) (by omega) (by decide) (fun c19 => ?_) (fun c19 => absurd c19 (by omega))
        refine ab_iload_n d_MO_image_68 rfl ?_
        refine zz_sipush d_MO_image_69 (by decide) ?_
        refine zz_icmp_lt (tgt := 89) d_MO_image_72 (by decide) (by omega) (by decide) (fun c20 => ?_) (fun c20 => absurd c20 (by omega))
        refine ab_iload_n d_MO_image_89 rfl ?_
        refine ab_istore_n d_MO_image_90 (Nat.le_of_ble_eq_true rfl) (Nat.le_of_ble_eq_true rfl) rfl ?_
        change ab_W _ _ _ G 91 [some (vz x), some (vz x)] [] _
        refine ab_iload_n d_MO_image_91 rfl ?_
        refine zz_sipush d_MO_image_92 (by decide) ?_
        refine zz_icmp_ne (tgt := 103) d_MO_image_95 (by decide) (by omega) (by decide) (fun c21 => ?_) (fun c21 => absurd c21 (by omega))
        refine ab_iload_n d_MO_image_103 rfl ?_
        refine zz_sipush d_MO_image_104 (by decide) ?_
        refine zz_icmp_ne (tgt := 115) d_MO_image_107 (by decide) (by omega) (by decide) (fun c22 => ?_) (fun c22 => absurd c22 (by omega))
        refine ab_iload_n d_MO_image_115 rfl ?_
        refine zz_sipush d_MO_image_116 (by decide) ?_
        refine zz_icmp_ne (tgt := 128) d_MO_image_119 (by decide) (by omega) (by decide) (fun c23 => ?_) (fun c23 => absurd c23 (by omega))
        refine ab_iload_n d_MO_image_128 rfl ?_
        refine zz_sipush d_MO_image_129 (by decide) ?_
        refine zz_icmp_ne (tgt := 141) d_MO_image_132 (by decide) (by omega) (by decide) (fun c24 => ?_) (fun c24 => ?_)
        · refine ab_iload_n d_MO_image_141 rfl ?_
          refine zz_sipush d_MO_image_142 (by decide) ?_
          refine zz_icmp_ne (tgt := 154) d_MO_image_145 (by decide) (by omega) (by decide) (fun c25 => ?_) (fun c25 => absurd c25 (by omega))
          refine ab_iload_n d_MO_image_154 rfl ?_
          refine zz_iret rfl d_MO_image_155 ?_
          rw [hQ]; exact ⟨_, rfl, rfl, (by have a1_ := img1_c x; have b1_ := img2_c (img1 x); unfold imgU at a1_; unfold img; omega)⟩
        · refine zz_sipush d_MO_image_135 (by decide) ?_
          refine ab_goto (tgt := 155) d_MO_image_138 (by decide) ?_
          refine zz_iret rfl d_MO_image_155 ?_
          rw [hQ]; exact ⟨_, rfl, rfl, (by have a1_ := img1_c x; have b1_ := img2_c (img1 x); unfold imgU at a1_; unfold img; omega)⟩
      · refine ab_iload_n d_MO_image_19 rfl ?_
        refine zz_sipush d_MO_image_20 (by decide) ?_
        refine zz_icmp_gt (tgt := 33) d_MO_image_23 (by decide) (by omega) (by decide) (fun c26 => ?_) (fun c26 => ?_)
        · refine ab_iload_n d_MO_image_33 rfl ?_
          refine zz_sipush d_MO_image_34 (by decide) ?_
          refine zz_icmp_lt (tgt := 47) d_MO_image_37 (by decide) (by omega) (by decide) (fun c27 => ?_) (fun c27 => ?_)
          · refine ab_iload_n d_MO_image_47 rfl ?_
            refine zz_sipush d_MO_image_48 (by decide) ?_
            refine zz_icmp_lt (tgt := 68) d_MO_image_51 (by decide) (by omega) (by decide) (fun c28 => ?_) (fun c28 => absurd c28 (by omega))
            refine ab_iload_n d_MO_image_68 rfl ?_
            refine zz_sipush d_MO_image_69 (by decide) ?_
            refine zz_icmp_lt (tgt := 89) d_MO_image_72 (by decide) (by omega) (by decide) (fun c29 => ?_) (fun c29 => absurd c29 (by omega))
            refine ab_iload_n d_MO_image_89 rfl ?_
            refine ab_istore_n d_MO_image_90 (Nat.le_of_ble_eq_true rfl) (Nat.le_of_ble_eq_true rfl) rfl ?_
            change ab_W _ _ _ G 91 [some (vz x), some (vz x)] [] _
            refine ab_iload_n d_MO_image_91 rfl ?_
            refine zz_sipush d_MO_image_92 (by decide) ?_
            refine zz_icmp_ne (tgt := 103) d_MO_image_95 (by decide) (by omega) (by decide) (fun c30 => ?_) (fun c30 => absurd c30 (by omega))
            refine ab_iload_n d_MO_image_103 rfl ?_
            refine zz_sipush d_MO_image_104 (by decide) ?_
            refine zz_icmp_ne (tgt := 115) d_MO_image_107 (by decide) (by omega) (by decide) (fun c31 => ?_) (fun c31 => ?_)
            · refine ab_iload_n d_MO_image_115 rfl ?_
              refine zz_sipush d_MO_image_116 (by decide) ?_
              refine zz_icmp_ne (tgt := 128) d_MO_image_119 (by decide) (by omega) (by decide) (fun c32 => ?_) (fun c32 => absurd c32 (by omega))
              refine ab_iload_n d_MO_image_128 rfl ?_
              refine zz_sipush d_MO_image_129 (by decide) ?_
              refine zz_icmp_ne (tgt := 141) d_MO_image_132 (by decide) (by omega) (by decide) (fun c33 => ?_) (fun c33 => absurd c33 (by omega))
              refine ab_iload_n d_MO_image_141 rfl ?_
              refine zz_sipush d_MO_image_142 (by decide) ?_
              refine zz_icmp_ne (tgt := 154) d_MO_image_145 (by decide) (by omega) (by decide) (fun c34 => ?_) (fun c34 => absurd c34 (by omega))
              refine ab_iload_n d_MO_image_154 rfl ?_
              refine zz_iret rfl d_MO_image_155 ?_
              rw [hQ]; exact ⟨_, rfl, rfl, (by have a1_ := img1_c x; have b1_ := img2_c (img1 x); unfold imgU at a1_; unfold img; omega)⟩
            · refine zz_bipush d_MO_image_110 (by decide) ?_
              refine ab_goto (tgt := 155) d_MO_image_112 (by decide) ?_
              refine zz_iret rfl d_MO_image_155 ?_
              rw [hQ]; exact ⟨_, rfl, rfl, (by have a1_ := img1_c x; have b1_ := img2_c (img1 x); unfold imgU at a1_; unfold img; omega)⟩
          · refine ab_iload_n d_MO_image_40 rfl ?_
            refine zz_sipush d_MO_image_41 (by decide) ?_
            refine zz_icmp_le (tgt := 61) d_MO_image_44 (by decide) (by omega) (by decide) (fun c35 => ?_) (fun c35 => ?_)
            · refine ab_iload_n d_MO_image_61 rfl ?_
              refine zz_bipush d_MO_image_62 (by decide) ?_
              refine zz_iadd d_MO_image_64 ?_
              refine ab_goto (tgt := 90) d_MO_image_65 (by decide) ?_
              refine ab_istore_n d_MO_image_90 (Nat.le_of_ble_eq_true rfl) (Nat.le_of_ble_eq_true rfl) rfl ?_
              change ab_W _ _ _ G 91 [some (vz x), some (vz (x + 32))] [] _
              refine ab_iload_n d_MO_image_91 rfl ?_
              refine zz_sipush d_MO_image_92 (by decide) ?_
              refine zz_icmp_ne (tgt := 103) d_MO_image_95 (by decide) (by omega) (by decide) (fun c36 => ?_) (fun c36 => absurd c36 (by omega))
              refine ab_iload_n d_MO_image_103 rfl ?_
              refine zz_sipush d_MO_image_104 (by decide) ?_
              refine zz_icmp_ne (tgt := 115) d_MO_image_107 (by decide) (by omega) (by decide) (fun c37 => ?_) (fun c37 => absurd c37 (by omega))
              refine ab_iload_n d_MO_image_115 rfl ?_
              refine zz_sipush d_MO_image_116 (by decide) ?_
              refine zz_icmp_ne (tgt := 128) d_MO_image_119 (by decide) (by omega) (by decide) (fun c38 => ?_) (fun c38 => absurd c38 (by omega))
              refine ab_iload_n d_MO_image_128 rfl ?_
              refine zz_sipush d_MO_image_129 (by decide) ?_
              refine zz_icmp_ne (tgt := 141) d_MO_image_132 (by decide) (by omega) (by decide) (fun c39 => ?_) (fun c39 => absurd c39 (by omega))
              refine ab_iload_n d_MO_image_141 rfl ?_
              refine zz_sipush d_MO_image_142 (by decide) ?_
              refine zz_icmp_ne (tgt := 154) d_MO_image_145 (by decide) (by omega) (by decide) (fun c40 => ?_) (fun c40 => ?_)
              · refine ab_iload_n d_MO_image_154 rfl ?_
                refine zz_iret rfl d_MO_image_155 ?_
                rw [hQ]; exact ⟨_, rfl, rfl, (by have a1_ := img1_c x; have b1_ := img2_c (img1 x); unfold imgU at a1_; unfold img; omega)⟩
              · refine zz_sipush d_MO_image_148 (by decide) ?_
                refine ab_goto (tgt := 155) d_MO_image_151 (by decide) ?_
                refine zz_iret rfl d_MO_image_155 ?_
                rw [hQ]; exact ⟨_, rfl, rfl, (by have a1_ := img1_c x; have b1_ := img2_c (img1 x); unfold imgU at a1_; unfold img; omega)⟩
            · refine ab_iload_n d_MO_image_47 rfl ?_
              refine zz_sipush d_MO_image_48 (by decide) ?_
              refine zz_icmp_lt (tgt := 68) d_MO_image_51 (by decide) (by omega) (by decide) (fun c41 => ?_) (fun c41 => ?_)
              · refine ab_iload_n d_MO_image_68 rfl ?_
                refine zz_sipush d_MO_image_69 (by decide) ?_
                refine zz_icmp_lt (tgt := 89) d_MO_image_72 (by decide) (by omega) (by decide) (fun c42 => ?_) (fun c42 => ?_)
                · refine ab_iload_n d_MO_image_89 rfl ?_
                  refine ab_istore_n d_MO_image_90 (Nat.le_of_ble_eq_true rfl) (Nat.le_of_ble_eq_true rfl) rfl ?_
                  change ab_W _ _ _ G 91 [some (vz x), some (vz x)] [] _
                  refine ab_iload_n d_MO_image_91 rfl ?_
                  refine zz_sipush d_MO_image_92 (by decide) ?_
                  refine zz_icmp_ne (tgt := 103) d_MO_image_95 (by decide) (by omega) (by decide) (fun c43 => ?_) (fun c43 => absurd c43 (by omega))
                  refine ab_iload_n d_MO_image_103 rfl ?_
                  refine zz_sipush d_MO_image_104 (by decide) ?_
                  refine zz_icmp_ne (tgt := 115) d_MO_image_107 (by decide) (by omega) (by decide) (fun c44 => ?_) (fun c44 => absurd c44 (by omega))
                  refine ab_iload_n d_MO_image_115 rfl ?_
                  refine zz_sipush d_MO_image_116 (by decide) ?_
                  refine zz_icmp_ne (tgt := 128) d_MO_image_119 (by decide) (by omega) (by decide) (fun c45 => ?_) (fun c45 => absurd c45 (by omega))
                  refine ab_iload_n d_MO_image_128 rfl ?_
                  refine zz_sipush d_MO_image_129 (by decide) ?_
                  refine zz_icmp_ne (tgt := 141) d_MO_image_132 (by decide) (by omega) (by decide) (fun c46 => ?_) (fun c46 => absurd c46 (by omega))
                  refine ab_iload_n d_MO_image_141 rfl ?_
                  refine zz_sipush d_MO_image_142 (by decide) ?_
                  refine zz_icmp_ne (tgt := 154) d_MO_image_145 (by decide) (by omega) (by decide) (fun c47 => ?_) (fun c47 => ?_)
                  · refine ab_iload_n d_MO_image_154 rfl ?_
                    refine zz_iret rfl d_MO_image_155 ?_
                    rw [hQ]; exact ⟨_, rfl, rfl, (by have a1_ := img1_c x; have b1_ := img2_c (img1 x); unfold imgU at a1_; unfold img; omega)⟩
                  · refine zz_sipush d_MO_image_148 (by decide) ?_
                    refine ab_goto (tgt := 155) d_MO_image_151 (by decide) ?_
                    refine zz_iret rfl d_MO_image_155 ?_
                    rw [hQ]; exact ⟨_, rfl, rfl, (by have a1_ := img1_c x; have b1_ := img2_c (img1 x); unfold imgU at a1_; unfold img; omega)⟩
                · refine ab_iload_n d_MO_image_75 rfl ?_
                  refine zz_sipush d_MO_image_76 (by decide) ?_
                  refine zz_icmp_gt (tgt := 89) d_MO_image_79 (by decide) (by omega) (by decide) (fun c48 => absurd c48 (by omega)) (fun c48 => ?_)
                  refine ab_iload_n d_MO_image_82 rfl ?_
                  refine zz_bipush d_MO_image_83 (by decide) ?_
                  refine zz_iadd d_MO_image_85 ?_
                  refine ab_goto (tgt := 90) d_MO_image_86 (by decide) ?_
                  refine ab_istore_n d_MO_image_90 (Nat.le_of_ble_eq_true rfl) (Nat.le_of_ble_eq_true rfl) rfl ?_
                  change ab_W _ _ _ G 91 [some (vz x), some (vz (x + 80))] [] _
                  refine ab_iload_n d_MO_image_91 rfl ?_
                  refine zz_sipush d_MO_image_92 (by decide) ?_
                  refine zz_icmp_ne (tgt := 103) d_MO_image_95 (by decide) (by omega) (by decide) (fun c49 => ?_) (fun c49 => absurd c49 (by omega))
                  refine ab_iload_n d_MO_image_103 rfl ?_
                  refine zz_sipush d_MO_image_104 (by decide) ?_
                  refine zz_icmp_ne (tgt := 115) d_MO_image_107 (by decide) (by omega) (by decide) (fun c50 => ?_) (fun c50 => absurd c50 (by omega))
                  refine ab_iload_n d_MO_image_115 rfl ?_
                  refine zz_sipush d_MO_image_116 (by decide) ?_
                  refine zz_icmp_ne (tgt := 128) d_MO_image_119 (by decide) (by omega) (by decide) (fun c51 => ?_) (fun c51 => absurd c51 (by omega))
                  refine ab_iload_n d_MO_image_128 rfl ?_
                  refine zz_sipush d_MO_image_129 (by decide) ?_
                  refine zz_icmp_ne (tgt := 141) d_MO_image_132 (by decide) (by omega) (by decide) (fun c52 => ?_) (fun c52 => absurd c52 (by omega))
                  refine ab_iload_n d_MO_image_141 rfl ?_
                  refine zz_sipush d_MO_image_142 (by decide) ?_
                  refine zz_icmp_ne (tgt := 154) d_MO_image_145 (by decide) (by omega) (by decide) (fun c53 => ?_) (fun c53 => absurd c53 (by omega))
                  refine ab_iload_n d_MO_image_154 rfl ?_
                  refine zz_iret rfl d_MO_image_155 ?_
                  rw [hQ]; exact ⟨_, rfl, rfl, (by have a1_ := img1_c x; have b1_ := img2_c (img1 x); unfold imgU at a1_; unfold img; omega)⟩
              · refine ab_iload_n d_MO_image_54 rfl ?_
                refine zz_sipush d_MO_image_55 (by decide) ?_
                refine zz_icmp_gt (tgt := 68) d_MO_image_58 (by decide) (by omega) (by decide) (fun c54 => ?_) (fun c54 => ?_)
                · refine ab_iload_n d_MO_image_68 rfl ?_
                  refine zz_sipush d_MO_image_69 (by decide) ?_
                  refine zz_icmp_lt (tgt := 89) d_MO_image_72 (by decide) (by omega) (by decide) (fun c55 => absurd c55 (by omega)) (fun c55 => ?_)
                  refine ab_iload_n d_MO_image_75 rfl ?_
                  refine zz_sipush d_MO_image_76 (by decide) ?_
                  refine zz_icmp_gt (tgt := 89) d_MO_image_79 (by decide) (by omega) (by decide) (fun c56 => ?_) (fun c56 => absurd c56 (by omega))
                  refine ab_iload_n d_MO_image_89 rfl ?_
                  refine ab_istore_n d_MO_image_90 (Nat.le_of_ble_eq_true rfl) (Nat.le_of_ble_eq_true rfl) rfl ?_
                  change ab_W _ _ _ G 91 [some (vz x), some (vz x)] [] _
                  refine ab_iload_n d_MO_image_91 rfl ?_
                  refine zz_sipush d_MO_image_92 (by decide) ?_
                  refine zz_icmp_ne (tgt := 103) d_MO_image_95 (by decide) (by omega) (by decide) (fun c57 => ?_) (fun c57 => ?_)
                  · refine ab_iload_n d_MO_image_103 rfl ?_
                    refine zz_sipush d_MO_image_104 (by decide) ?_
                    refine zz_icmp_ne (tgt := 115) d_MO_image_107 (by decide) (by omega) (by decide) (fun c58 => ?_) (fun c58 => absurd c58 (by omega))
                    refine ab_iload_n d_MO_image_115 rfl ?_
                    refine zz_sipush d_MO_image_116 (by decide) ?_
                    refine zz_icmp_ne (tgt := 128) d_MO_image_119 (by decide) (by omega) (by decide) (fun c59 => ?_) (fun c59 => ?_)
                    · refine ab_iload_n d_MO_image_128 rfl ?_
                      refine zz_sipush d_MO_image_129 (by decide) ?_
                      refine zz_icmp_ne (tgt := 141) d_MO_image_132 (by decide) (by omega) (by decide) (fun c60 => ?_) (fun c60 => absurd c60 (by omega))
                      refine ab_iload_n d_MO_image_141 rfl ?_
                      refine zz_sipush d_MO_image_142 (by decide) ?_
                      refine zz_icmp_ne (tgt := 154) d_MO_image_145 (by decide) (by omega) (by decide) (fun c61 => ?_) (fun c61 => absurd c61 (by omega))
                      refine ab_iload_n d_MO_image_154 rfl ?_
                      refine zz_iret rfl d_MO_image_155 ?_
                      rw [hQ]; exact ⟨_, rfl, rfl, (by have a1_ := img1_c x; have b1_ := img2_c (img1 x); unfold imgU at a1_; unfold img; omega)⟩
                    · refine zz_sipush d_MO_image_122 (by decide) ?_
                      refine ab_goto (tgt := 155) d_MO_image_125 (by decide) ?_
                      refine zz_iret rfl d_MO_image_155 ?_
                      rw [hQ]; exact ⟨_, rfl, rfl, (by have a1_ := img1_c x; have b1_ := img2_c (img1 x); unfold imgU at a1_; unfold img; omega)⟩
                  · refine zz_bipush d_MO_image_98 (by decide) ?_
                    refine ab_goto (tgt := 155) d_MO_image_100 (by decide) ?_
                    refine zz_iret rfl d_MO_image_155 ?_
                    rw [hQ]; exact ⟨_, rfl, rfl, (by have a1_ := img1_c x; have b1_ := img2_c (img1 x); unfold imgU at a1_; unfold img; omega)⟩
                · refine ab_iload_n d_MO_image_61 rfl ?_
                  refine zz_bipush d_MO_image_62 (by decide) ?_
                  refine zz_iadd d_MO_image_64 ?_
                  refine ab_goto (tgt := 90) d_MO_image_65 (by decide) ?_
                  refine ab_istore_n d_MO_image_90 (Nat.le_of_ble_eq_true rfl) (Nat.le_of_ble_eq_true rfl) rfl ?_
                  change ab_W _ _ _ G 91 [some (vz x), some (vz (x + 32))] [] _
                  refine ab_iload_n d_MO_image_91 rfl ?_
                  refine zz_sipush d_MO_image_92 (by decide) ?_
                  refine zz_icmp_ne (tgt := 103) d_MO_image_95 (by decide) (by omega) (by decide) (fun c62 => ?_) (fun c62 => absurd c62 (by omega))
                  refine ab_iload_n d_MO_image_103 rfl ?_
                  refine zz_sipush d_MO_image_104 (by decide) ?_
                  refine zz_icmp_ne (tgt := 115) d_MO_image_107 (by decide) (by omega) (by decide) (fun c63 => ?_) (fun c63 => absurd c63 (by omega))
                  refine ab_iload_n d_MO_image_115 rfl ?_
                  refine zz_sipush d_MO_image_116 (by decide) ?_
                  refine zz_icmp_ne (tgt := 128) d_MO_image_119 (by decide) (by omega) (by decide) (fun c64 => ?_) (fun c64 => absurd c64 (by omega))
                  refine ab_iload_n d_MO_image_128 rfl ?_
                  refine zz_sipush d_MO_image_129 (by decide) ?_
                  refine zz_icmp_ne (tgt := 141) d_MO_image_132 (by decide) (by omega) (by decide) (fun c65 => ?_) (fun c65 => absurd c65 (by omega))
                  refine ab_iload_n d_MO_image_141 rfl ?_
                  refine zz_sipush d_MO_image_142 (by decide) ?_
                  refine zz_icmp_ne (tgt := 154) d_MO_image_145 (by decide) (by omega) (by decide) (fun c66 => ?_) (fun c66 => absurd c66 (by omega))
                  refine ab_iload_n d_MO_image_154 rfl ?_
                  refine zz_iret rfl d_MO_image_155 ?_
                  rw [hQ]; exact ⟨_, rfl, rfl, (by have a1_ := img1_c x; have b1_ := img2_c (img1 x); unfold imgU at a1_; unfold img; omega)⟩
        · refine ab_iload_n d_MO_image_26 rfl ?_
          refine zz_sipush d_MO_image_27 (by decide) ?_
          refine zz_icmp_ne (tgt := 61) d_MO_image_30 (by decide) (by omega) (by decide) (fun c67 => ?_) (fun c67 => ?_)
          · refine ab_iload_n d_MO_image_61 rfl ?_
            refine zz_bipush d_MO_image_62 (by decide) ?_
            refine zz_iadd d_MO_image_64 ?_
            refine ab_goto (tgt := 90) d_MO_image_65 (by decide) ?_
            refine ab_istore_n d_MO_image_90 (Nat.le_of_ble_eq_true rfl) (Nat.le_of_ble_eq_true rfl) rfl ?_
            change ab_W _ _ _ G 91 [some (vz x), some (vz (x + 32))] [] _
            refine ab_iload_n d_MO_image_91 rfl ?_
            refine zz_sipush d_MO_image_92 (by decide) ?_
            refine zz_icmp_ne (tgt := 103) d_MO_image_95 (by decide) (by omega) (by decide) (fun c68 => ?_) (fun c68 => absurd c68 (by omega))
            refine ab_iload_n d_MO_image_103 rfl ?_
            refine zz_sipush d_MO_image_104 (by decide) ?_
            refine zz_icmp_ne (tgt := 115) d_MO_image_107 (by decide) (by omega) (by decide) (fun c69 => ?_) (fun c69 => absurd c69 (by omega))
            refine ab_iload_n d_MO_image_115 rfl ?_
            refine zz_sipush d_MO_image_116 (by decide) ?_
            refine zz_icmp_ne (tgt := 128) d_MO_image_119 (by decide) (by omega) (by decide) (fun c70 => ?_) (fun c70 => absurd c70 (by omega))
            refine ab_iload_n d_MO_image_128 rfl ?_
            refine zz_sipush d_MO_image_129 (by decide) ?_
            refine zz_icmp_ne (tgt := 141) d_MO_image_132 (by decide) (by omega) (by decide) (fun c71 => ?_) (fun c71 => absurd c71 (by omega))
            refine ab_iload_n d_MO_image_141 rfl ?_
            refine zz_sipush d_MO_image_142 (by decide) ?_
            refine zz_icmp_ne (tgt := 154) d_MO_image_145 (by decide) (by omega) (by decide) (fun c72 => ?_) (fun c72 => absurd c72 (by omega))
            refine ab_iload_n d_MO_image_154 rfl ?_
            refine zz_iret rfl d_MO_image_155 ?_
            rw [hQ]; exact ⟨_, rfl, rfl, (by have a1_ := img1_c x; have b1_ := img2_c (img1 x); unfold imgU at a1_; unfold img; omega)⟩
          · refine ab_iload_n d_MO_image_33 rfl ?_
            refine zz_sipush d_MO_image_34 (by decide) ?_
            refine zz_icmp_lt (tgt := 47) d_MO_image_37 (by decide) (by omega) (by decide) (fun c73 => ?_) (fun c73 => absurd c73 (by omega))
            refine ab_iload_n d_MO_image_47 rfl ?_
            refine zz_sipush d_MO_image_48 (by decide) ?_
            refine zz_icmp_lt (tgt := 68) d_MO_image_51 (by decide) (by omega) (by decide) (fun c74 => ?_) (fun c74 => absurd c74 (by omega))
            refine ab_iload_n d_MO_image_68 rfl ?_
            refine zz_sipush d_MO_image_69 (by decide) ?_
            refine zz_icmp_lt (tgt := 89) d_MO_image_72 (by decide) (by omega) (by decide) (fun c75 => ?_) (fun c75 => absurd c75 (by omega))
            refine ab_iload_n d_MO_image_89 rfl ?_
            refine ab_istore_n d_MO_image_90 (Nat.le_of_ble_eq_true rfl) (Nat.le_of_ble_eq_true rfl) rfl ?_
            change ab_W _ _ _ G 91 [some (vz x), some (vz x)] [] _
            refine ab_iload_n d_MO_image_91 rfl ?_
            refine zz_sipush d_MO_image_92 (by decide) ?_
            refine zz_icmp_ne (tgt := 103) d_MO_image_95 (by decide) (by omega) (by decide) (fun c76 => ?_) (fun c76 => absurd c76 (by omega))
            refine ab_iload_n d_MO_image_103 rfl ?_
            refine zz_sipush d_MO_image_104 (by decide) ?_
            refine zz_icmp_ne (tgt := 115) d_MO_image_107 (by decide) (by omega) (by decide) (fun c77 => ?_) (fun c77 => absurd c77 (by omega))
            refine ab_iload_n d_MO_image_115 rfl ?_
            refine zz_sipush d_MO_image_116 (by decide) ?_
            refine zz_icmp_ne (tgt := 128) d_MO_image_119 (by decide) (by omega) (by decide) (fun c78 => ?_) (fun c78 => absurd c78 (by omega))
            refine ab_iload_n d_MO_image_128 rfl ?_
            refine zz_sipush d_MO_image_129 (by decide) ?_
            refine zz_icmp_ne (tgt := 141) d_MO_image_132 (by decide) (by omega) (by decide) (fun c79 => ?_) (fun c79 => absurd c79 (by omega))
            refine ab_iload_n d_MO_image_141 rfl ?_
            refine zz_sipush d_MO_image_142 (by decide) ?_
            refine zz_icmp_ne (tgt := 154) d_MO_image_145 (by decide) (by omega) (by decide) (fun c80 => ?_) (fun c80 => absurd c80 (by omega))
            refine ab_iload_n d_MO_image_154 rfl ?_
            refine zz_iret rfl d_MO_image_155 ?_
            rw [hQ]; exact ⟨_, rfl, rfl, (by have a1_ := img1_c x; have b1_ := img2_c (img1 x); unfold imgU at a1_; unfold img; omega)⟩
set_option maxRecDepth 100000 in
set_option maxHeartbeats 4000000 in
theorem z_MO_gather {X : ab_X} {d : Nat} {o : Nat → Nat} {G : ab_G} {m_thrown : Int} {m_taped : Int} {m_length : Int} {m_out : Int} {m_wide : Int} {m_gathered : Int} {m_sets : Int} {m_ranges : Int} {m_nodes : Int} {m_at : Int} {m_flags : Int} {m_fault : Int} {m_place : Int} {m_numbered : Int} {m_depth : Int} {m_value : Int} {m_isNot : Int} {m_least0 : Int} {m_most0 : Int} {m_slot : Int} {m_work : Int} {m_got : Int} {m_rowMany : Int} {m_charAt : Int} {m_charWide : Int} {m_trail : Int} {m_isMatch : Int} {m_matchGroups : Int} {m_allFrom : Int} {m_allBefore : Int} {m_founds : Int} {m_pieces : Int} {m_writtenMany : Int} {m_templateWide : Int} {m_tooMuch : Int} {LO : Int → Int} {HI : Int → Int} {a : Int} {b : Int} (h80 : cc o G 80 280 (ab_ob 12 (mof m_thrown m_taped m_length m_out m_wide m_gathered m_sets m_ranges m_nodes m_at m_flags m_fault m_place m_numbered m_depth m_value m_isNot m_least0 m_most0 m_slot m_work m_got m_rowMany m_charAt m_charWide m_trail m_isMatch m_matchGroups m_allFrom m_allBefore m_founds m_pieces m_writtenMany m_templateWide m_tooMuch))) (h87 : cc o G 87 287 (za 9000 LO)) (h88 : cc o G 88 288 (za 9000 HI)) (n18 : ab_n0 = 18) (cga : 0 ≤ m_gathered ∧ m_gathered < 9000) : ab_F X d y_MO_gather (.code y_MO_gather b_MO_gather 3 none) [vR 80, vz a, vz b] G (fun oc G2 => oc = .returned none ∧ fx o o [280, 287, 288] G G2 ∧ G2.length = G.length ∧ ab_slots G2 = ab_slots G ∧ cc o G2 80 280 (ab_ob 12 (mof m_thrown m_taped m_length m_out m_wide (m_gathered + 1) m_sets m_ranges m_nodes m_at m_flags m_fault m_place m_numbered m_depth m_value m_isNot m_least0 m_most0 m_slot m_work m_got m_rowMany m_charAt m_charWide m_trail m_isMatch m_matchGroups m_allFrom m_allBefore m_founds m_pieces m_writtenMany m_templateWide m_tooMuch)) ∧ cc o G2 87 287 (za 9000 (zu LO m_gathered a)) ∧ cc o G2 88 288 (za 9000 (zu HI m_gathered b))) := by
  refine ab_F_of (by decide +kernel) (Nat.le_of_ble_eq_true rfl) ?_
  obtain ⟨Q, hQ⟩ : ∃ z : Outcome → ab_G → Prop, z = (fun oc G2 => oc = .returned none ∧ fx o o [280, 287, 288] G G2 ∧ G2.length = G.length ∧ ab_slots G2 = ab_slots G ∧ cc o G2 80 280 (ab_ob 12 (mof m_thrown m_taped m_length m_out m_wide (m_gathered + 1) m_sets m_ranges m_nodes m_at m_flags m_fault m_place m_numbered m_depth m_value m_isNot m_least0 m_most0 m_slot m_work m_got m_rowMany m_charAt m_charWide m_trail m_isMatch m_matchGroups m_allFrom m_allBefore m_founds m_pieces m_writtenMany m_templateWide m_tooMuch)) ∧ cc o G2 87 287 (za 9000 (zu LO m_gathered a)) ∧ cc o G2 88 288 (za 9000 (zu HI m_gathered b))) := ⟨_, rfl⟩
  rw [← hQ]
  change ab_W X (ab_pl y_MO_gather b_MO_gather 3 none) d G 0 [some (vR 80), some (vz a), some (vz b)] [] Q
  have hfr : fx o o [280, 287, 288] G G := fx.rf
  have hlen : G.length = G.length := rfl
  have hsl : ab_slots G = ab_slots G := rfl
  refine ab_aload_n d_MO_gather_0 rfl ?_
  refine ab_getf (fs := mof m_thrown m_taped m_length m_out m_wide m_gathered m_sets m_ranges m_nodes m_at m_flags m_fault m_place m_numbered m_depth m_value m_isNot m_least0 m_most0 m_slot m_work m_got m_rowMany m_charAt m_charWide m_trail m_isMatch m_matchGroups m_allFrom m_allBefore m_founds m_pieces m_writtenMany m_templateWide m_tooMuch) f_MO_28 d_MO_gather_1 h80.2.2 rfl ?_
  refine ab_aload_n d_MO_gather_4 rfl ?_
  refine ab_getf (fs := mof m_thrown m_taped m_length m_out m_wide m_gathered m_sets m_ranges m_nodes m_at m_flags m_fault m_place m_numbered m_depth m_value m_isNot m_least0 m_most0 m_slot m_work m_got m_rowMany m_charAt m_charWide m_trail m_isMatch m_matchGroups m_allFrom m_allBefore m_founds m_pieces m_writtenMany m_templateWide m_tooMuch) f_MO_237 d_MO_gather_5 h80.2.2 rfl ?_
  refine ab_iload_n d_MO_gather_8 rfl ?_
  refine zz_iast d_MO_gather_9 h87 (by omega) (h87.2.1 (by decide)) ?_
  obtain ⟨G1, eG1⟩ : ∃ z : ab_G, z = List.set G 87 (za 9000 (zu LO m_gathered a)) := ⟨_, rfl⟩
  have h80 := h80.keep h87 eG1 (by decide)
  have h88 := h88.keep h87 eG1 (by decide)
  have hlen := (z_len eG1).trans hlen
  have hsl := (z_sl h87 eG1 rfl).trans hsl
  have hfr := hfr.wr h87 eG1 (by decide)
  have h87 := h87.kept eG1
  change ab_W _ _ _ (List.set G 87 (za 9000 (zu LO m_gathered a))) 10 [some (vR 80), some (vz a), some (vz b)] [] _
  rw [← eG1]
  refine ab_aload_n d_MO_gather_10 rfl ?_
  refine ab_getf (fs := mof m_thrown m_taped m_length m_out m_wide m_gathered m_sets m_ranges m_nodes m_at m_flags m_fault m_place m_numbered m_depth m_value m_isNot m_least0 m_most0 m_slot m_work m_got m_rowMany m_charAt m_charWide m_trail m_isMatch m_matchGroups m_allFrom m_allBefore m_founds m_pieces m_writtenMany m_templateWide m_tooMuch) f_MO_31 d_MO_gather_11 h80.2.2 rfl ?_
  refine ab_aload_n d_MO_gather_14 rfl ?_
  refine ab_getf (fs := mof m_thrown m_taped m_length m_out m_wide m_gathered m_sets m_ranges m_nodes m_at m_flags m_fault m_place m_numbered m_depth m_value m_isNot m_least0 m_most0 m_slot m_work m_got m_rowMany m_charAt m_charWide m_trail m_isMatch m_matchGroups m_allFrom m_allBefore m_founds m_pieces m_writtenMany m_templateWide m_tooMuch) f_MO_237 d_MO_gather_15 h80.2.2 rfl ?_
  refine ab_iload_n d_MO_gather_18 rfl ?_
  refine zz_iast d_MO_gather_19 h88 (by omega) (h88.2.1 (by decide)) ?_
  obtain ⟨G2, eG2⟩ : ∃ z : ab_G, z = List.set G1 88 (za 9000 (zu HI m_gathered b)) := ⟨_, rfl⟩
  have h80 := h80.keep h88 eG2 (by decide)
  have h87 := h87.keep h88 eG2 (by decide)
  have hlen := (z_len eG2).trans hlen
  have hsl := (z_sl h88 eG2 rfl).trans hsl
  have hfr := hfr.wr h88 eG2 (by decide)
  have h88 := h88.kept eG2
  change ab_W _ _ _ (List.set G1 88 (za 9000 (zu HI m_gathered b))) 20 [some (vR 80), some (vz a), some (vz b)] [] _
  rw [← eG2]
  refine ab_aload_n d_MO_gather_20 rfl ?_
  refine ab_dup d_MO_gather_21 rfl ?_
  refine ab_getf (fs := mof m_thrown m_taped m_length m_out m_wide m_gathered m_sets m_ranges m_nodes m_at m_flags m_fault m_place m_numbered m_depth m_value m_isNot m_least0 m_most0 m_slot m_work m_got m_rowMany m_charAt m_charWide m_trail m_isMatch m_matchGroups m_allFrom m_allBefore m_founds m_pieces m_writtenMany m_templateWide m_tooMuch) f_MO_237 d_MO_gather_22 h80.2.2 rfl ?_
  refine zz_iconst d_MO_gather_25 ?_
  refine zz_iadd d_MO_gather_26 ?_
  refine ab_putf (fs := mof m_thrown m_taped m_length m_out m_wide m_gathered m_sets m_ranges m_nodes m_at m_flags m_fault m_place m_numbered m_depth m_value m_isNot m_least0 m_most0 m_slot m_work m_got m_rowMany m_charAt m_charWide m_trail m_isMatch m_matchGroups m_allFrom m_allBefore m_founds m_pieces m_writtenMany m_templateWide m_tooMuch) f_MO_237 (Or.inl rfl) d_MO_gather_27 h80.2.2 (Nat.le_of_ble_eq_true rfl) (fun _ => ⟨rfl, rfl⟩) (h80.2.1 (by decide)) ?_
  obtain ⟨G3, eG3⟩ : ∃ z : ab_G, z = List.set G2 80 (ab_ob 12 (mof m_thrown m_taped m_length m_out m_wide (m_gathered + 1) m_sets m_ranges m_nodes m_at m_flags m_fault m_place m_numbered m_depth m_value m_isNot m_least0 m_most0 m_slot m_work m_got m_rowMany m_charAt m_charWide m_trail m_isMatch m_matchGroups m_allFrom m_allBefore m_founds m_pieces m_writtenMany m_templateWide m_tooMuch)) := ⟨_, rfl⟩
  have h87 := h87.keep h80 eG3 (by decide)
  have h88 := h88.keep h80 eG3 (by decide)
  have hlen := (z_len eG3).trans hlen
  have hsl := (z_sl h80 eG3 rfl).trans hsl
  have hfr := hfr.wr h80 eG3 (by decide)
  have h80 := h80.kept eG3
  change ab_W _ _ _ (List.set G2 80 (ab_ob 12 (mof m_thrown m_taped m_length m_out m_wide (m_gathered + 1) m_sets m_ranges m_nodes m_at m_flags m_fault m_place m_numbered m_depth m_value m_isNot m_least0 m_most0 m_slot m_work m_got m_rowMany m_charAt m_charWide m_trail m_isMatch m_matchGroups m_allFrom m_allBefore m_founds m_pieces m_writtenMany m_templateWide m_tooMuch))) 30 [some (vR 80), some (vz a), some (vz b)] [] _
  rw [← eG3]
  refine ab_vret rfl d_MO_gather_30 ?_
  rw [hQ]; exact ⟨rfl, hfr, hlen, hsl, h80, h87, h88⟩
set_option maxRecDepth 100000 in
set_option maxHeartbeats 4000000 in
theorem y_MO_begin_7 {X : ab_X} {d : Nat} {Q : Outcome → ab_G → Prop} {o : Nat → Nat} {G0 : ab_G} {m_thrown : Int} {m_taped : Int} {m_length : Int} {m_out : Int} {m_wide : Int} {m_gathered : Int} {m_sets : Int} {m_ranges : Int} {m_nodes : Int} {m_at : Int} {m_flags : Int} {m_fault : Int} {m_place : Int} {m_numbered : Int} {m_depth : Int} {m_value : Int} {m_isNot : Int} {m_least0 : Int} {m_most0 : Int} {m_slot : Int} {m_work : Int} {m_got : Int} {m_rowMany : Int} {m_charAt : Int} {m_charWide : Int} {m_trail : Int} {m_isMatch : Int} {m_matchGroups : Int} {m_allFrom : Int} {m_allBefore : Int} {m_founds : Int} {m_pieces : Int} {m_writtenMany : Int} {m_templateWide : Int} {m_tooMuch : Int} (n18 : ab_n0 = 18) (hd : 1 ≤ d) : ∀ (mz : Nat) {G : ab_G} {i_ : Int} {MK : Int → Int}, (cc o G 80 280 (ab_ob 12 (mof m_thrown m_taped m_length m_out m_wide m_gathered m_sets m_ranges m_nodes m_at m_flags m_fault m_place m_numbered m_depth m_value m_isNot m_least0 m_most0 m_slot m_work m_got m_rowMany m_charAt m_charWide m_trail m_isMatch m_matchGroups m_allFrom m_allBefore m_founds m_pieces m_writtenMany m_templateWide m_tooMuch))) → (cc o G 93 293 (zb 1200 MK)) → (0 ≤ i_ ∧ i_ ≤ 1200) → (rgs MK 1200 0 1) → (mk0 MK i_) → (fx o o [293] G0 G) → (G.length = G0.length) → (ab_slots G = ab_slots G0) → (Int.toNat (1200 - i_) < mz) → (∀ (G2 : ab_G) (MK2 : Int → Int), (cc o G2 93 293 (zb 1200 MK2)) → (rgs MK2 1200 0 1) → (mk0 MK2 1200) → (fx o o [293] G0 G2) → (G2.length = G0.length) → (ab_slots G2 = ab_slots G0) → ab_W X (ab_pl y_MO_begin b_MO_begin 2 none) d G2 27 [none, none] [] Q) → ab_W X (ab_pl y_MO_begin b_MO_begin 2 none) d G 7 [some (vR 80), some (vz i_)] [] Q := by
  intro mz
  induction mz with
  | zero => intro G i_ MK h80 h93 ci jmk jm hfr hlen hsl hm hk0; exact absurd hm (Nat.not_lt_zero _)
  | succ mz ih =>
    intro G i_ MK h80 h93 ci jmk jm hfr hlen hsl hm hk0
    refine ab_iload_n d_MO_begin_7 rfl ?_
    refine zz_sipush d_MO_begin_8 (by decide) ?_
    refine zz_icmp_ge (tgt := 27) d_MO_begin_11 (by decide) (by omega) (by decide) (fun c1 => ?_) (fun c1 => ?_)
    · refine ab_less (L' := [none, none]) (fun i v h => by rcases i with _ | _ | i <;> first | exact h | (simp at h)) ?_
      exact hk0 _ _ h93 (by exact jmk) (by exact (show i_ = 1200 by omega) ▸ jm) hfr hlen hsl
    · refine ab_aload_n d_MO_begin_14 rfl ?_
      refine ab_getf (fs := mof m_thrown m_taped m_length m_out m_wide m_gathered m_sets m_ranges m_nodes m_at m_flags m_fault m_place m_numbered m_depth m_value m_isNot m_least0 m_most0 m_slot m_work m_got m_rowMany m_charAt m_charWide m_trail m_isMatch m_matchGroups m_allFrom m_allBefore m_founds m_pieces m_writtenMany m_templateWide m_tooMuch) f_MO_46 d_MO_begin_15 h80.2.2 rfl ?_
      refine ab_iload_n d_MO_begin_18 rfl ?_
      refine zz_iconst d_MO_begin_19 ?_
      refine zz_zast d_MO_begin_20 h93 (by omega) (by decide) (h93.2.1 (by decide)) ?_
      obtain ⟨G2, eG2⟩ : ∃ z : ab_G, z = List.set G 93 (zb 1200 (zu MK i_ 0)) := ⟨_, rfl⟩
      have h80 := h80.keep h93 eG2 (by decide)
      have hlen := (z_len eG2).trans hlen
      have hsl := (z_sl h93 eG2 rfl).trans hsl
      have hfr := hfr.wr h93 eG2 (by decide)
      have h93 := h93.kept eG2
      change ab_W _ _ _ (List.set G 93 (zb 1200 (zu MK i_ 0))) 21 [some (vR 80), some (vz i_)] [] _
      rw [← eG2]
      refine zz_iinc d_MO_begin_21 rfl (Nat.le_of_ble_eq_true rfl) (Nat.le_of_ble_eq_true rfl) rfl ?_
      change ab_W _ _ _ G2 24 [some (vR 80), some (vz (i_ + 1))] [] _
      refine ab_goto (tgt := 7) d_MO_begin_24 (by decide) ?_
      exact ih (i_ := (i_ + 1)) (MK := (zu MK i_ 0)) h80 h93 (by omega) (rgs_zu jmk (by omega)) (mk0_s jm) hfr hlen hsl (by omega) hk0
set_option maxRecDepth 100000 in
set_option maxHeartbeats 4000000 in
theorem z_MO_begin {X : ab_X} {d : Nat} {o : Nat → Nat} {G : ab_G} {m_thrown : Int} {m_taped : Int} {m_length : Int} {m_out : Int} {m_wide : Int} {m_gathered : Int} {m_sets : Int} {m_ranges : Int} {m_nodes : Int} {m_at : Int} {m_flags : Int} {m_fault : Int} {m_place : Int} {m_numbered : Int} {m_depth : Int} {m_value : Int} {m_isNot : Int} {m_least0 : Int} {m_most0 : Int} {m_slot : Int} {m_work : Int} {m_got : Int} {m_rowMany : Int} {m_charAt : Int} {m_charWide : Int} {m_trail : Int} {m_isMatch : Int} {m_matchGroups : Int} {m_allFrom : Int} {m_allBefore : Int} {m_founds : Int} {m_pieces : Int} {m_writtenMany : Int} {m_templateWide : Int} {m_tooMuch : Int} {LO : Int → Int} {HI : Int → Int} {MK : Int → Int} (h80 : cc o G 80 280 (ab_ob 12 (mof m_thrown m_taped m_length m_out m_wide m_gathered m_sets m_ranges m_nodes m_at m_flags m_fault m_place m_numbered m_depth m_value m_isNot m_least0 m_most0 m_slot m_work m_got m_rowMany m_charAt m_charWide m_trail m_isMatch m_matchGroups m_allFrom m_allBefore m_founds m_pieces m_writtenMany m_templateWide m_tooMuch))) (h93 : cc o G 93 293 (zb 1200 MK)) (h87 : cc o G 87 287 (za 9000 LO)) (h88 : cc o G 88 288 (za 9000 HI)) (n18 : ab_n0 = 18) (jmk : rgs MK 1200 0 1) (hd : 2 ≤ d) : ab_F X d y_MO_begin (.code y_MO_begin b_MO_begin 2 none) [vR 80] G (fun oc G2 => ∃ MK2 : Int → Int, oc = .returned none ∧ fx o o [280, 293] G G2 ∧ G2.length = G.length ∧ ab_slots G2 = ab_slots G ∧ cc o G2 80 280 (ab_ob 12 (mof m_thrown m_taped m_length m_out m_wide 0 m_sets m_ranges m_nodes m_at m_flags m_fault m_place m_numbered m_depth m_value m_isNot m_least0 m_most0 m_slot m_work m_got m_rowMany m_charAt m_charWide m_trail m_isMatch m_matchGroups m_allFrom m_allBefore m_founds m_pieces m_writtenMany m_templateWide m_tooMuch)) ∧ cc o G2 93 293 (zb 1200 MK2) ∧ (rgs MK2 1200 0 1) ∧ (clsI LO HI 0 MK2 (fun _ => False))) := by
  refine ab_F_of (by decide +kernel) (Nat.le_of_ble_eq_true rfl) ?_
  obtain ⟨Q, hQ⟩ : ∃ z : Outcome → ab_G → Prop, z = (fun oc G2 => ∃ MK2 : Int → Int, oc = .returned none ∧ fx o o [280, 293] G G2 ∧ G2.length = G.length ∧ ab_slots G2 = ab_slots G ∧ cc o G2 80 280 (ab_ob 12 (mof m_thrown m_taped m_length m_out m_wide 0 m_sets m_ranges m_nodes m_at m_flags m_fault m_place m_numbered m_depth m_value m_isNot m_least0 m_most0 m_slot m_work m_got m_rowMany m_charAt m_charWide m_trail m_isMatch m_matchGroups m_allFrom m_allBefore m_founds m_pieces m_writtenMany m_templateWide m_tooMuch)) ∧ cc o G2 93 293 (zb 1200 MK2) ∧ (rgs MK2 1200 0 1) ∧ (clsI LO HI 0 MK2 (fun _ => False))) := ⟨_, rfl⟩
  rw [← hQ]
  change ab_W X (ab_pl y_MO_begin b_MO_begin 2 none) d G 0 [some (vR 80), none] [] Q
  have hfr : fx o o [280, 293] G G := fx.rf
  have hlen : G.length = G.length := rfl
  have hsl : ab_slots G = ab_slots G := rfl
  refine ab_aload_n d_MO_begin_0 rfl ?_
  refine zz_iconst d_MO_begin_1 ?_
  refine ab_putf (fs := mof m_thrown m_taped m_length m_out m_wide m_gathered m_sets m_ranges m_nodes m_at m_flags m_fault m_place m_numbered m_depth m_value m_isNot m_least0 m_most0 m_slot m_work m_got m_rowMany m_charAt m_charWide m_trail m_isMatch m_matchGroups m_allFrom m_allBefore m_founds m_pieces m_writtenMany m_templateWide m_tooMuch) f_MO_237 (Or.inl rfl) d_MO_begin_2 h80.2.2 (Nat.le_of_ble_eq_true rfl) (fun _ => ⟨rfl, rfl⟩) (h80.2.1 (by decide)) ?_
  obtain ⟨G1, eG1⟩ : ∃ z : ab_G, z = List.set G 80 (ab_ob 12 (mof m_thrown m_taped m_length m_out m_wide 0 m_sets m_ranges m_nodes m_at m_flags m_fault m_place m_numbered m_depth m_value m_isNot m_least0 m_most0 m_slot m_work m_got m_rowMany m_charAt m_charWide m_trail m_isMatch m_matchGroups m_allFrom m_allBefore m_founds m_pieces m_writtenMany m_templateWide m_tooMuch)) := ⟨_, rfl⟩
  have h93 := h93.keep h80 eG1 (by decide)
  have h87 := h87.keep h80 eG1 (by decide)
  have h88 := h88.keep h80 eG1 (by decide)
  have hlen := (z_len eG1).trans hlen
  have hsl := (z_sl h80 eG1 rfl).trans hsl
  have hfr := hfr.wr h80 eG1 (by decide)
  have h80 := h80.kept eG1
  change ab_W _ _ _ (List.set G 80 (ab_ob 12 (mof m_thrown m_taped m_length m_out m_wide 0 m_sets m_ranges m_nodes m_at m_flags m_fault m_place m_numbered m_depth m_value m_isNot m_least0 m_most0 m_slot m_work m_got m_rowMany m_charAt m_charWide m_trail m_isMatch m_matchGroups m_allFrom m_allBefore m_founds m_pieces m_writtenMany m_templateWide m_tooMuch))) 5 [some (vR 80), none] [] _
  rw [← eG1]
  refine zz_iconst d_MO_begin_5 ?_
  refine ab_istore_n d_MO_begin_6 (Nat.le_of_ble_eq_true rfl) (Nat.le_of_ble_eq_true rfl) rfl ?_
  change ab_W _ _ _ G1 7 [some (vR 80), some (vz 0)] [] _
  refine y_MO_begin_7 (m_thrown := m_thrown) (m_taped := m_taped) (m_length := m_length) (m_out := m_out) (m_wide := m_wide) (m_gathered := 0) (m_sets := m_sets) (m_ranges := m_ranges) (m_nodes := m_nodes) (m_at := m_at) (m_flags := m_flags) (m_fault := m_fault) (m_place := m_place) (m_numbered := m_numbered) (m_depth := m_depth) (m_value := m_value) (m_isNot := m_isNot) (m_least0 := m_least0) (m_most0 := m_most0) (m_slot := m_slot) (m_work := m_work) (m_got := m_got) (m_rowMany := m_rowMany) (m_charAt := m_charAt) (m_charWide := m_charWide) (m_trail := m_trail) (m_isMatch := m_isMatch) (m_matchGroups := m_matchGroups) (m_allFrom := m_allFrom) (m_allBefore := m_allBefore) (m_founds := m_founds) (m_pieces := m_pieces) (m_writtenMany := m_writtenMany) (m_templateWide := m_templateWide) (m_tooMuch := m_tooMuch) (G0 := G1) (i_ := 0) (MK := MK) (by omega) (by omega) (Int.toNat (1200 - 0) + 1) h80 h93 (by omega) jmk mk0_0 fx.rf rfl rfl (by omega) (fun G2 MK23 hN93 hq4 hq5 hfk hlk hsk => ?_)
  · have h80 := hfk.get h80 (by decide)
    have h87 := hfk.get h87 (by decide)
    have h88 := hfk.get h88 (by decide)
    have hfr := hfr.tr hfk (by decide)
    have hlen := hlk.trans hlen
    have hsl := hsk.trans hsl
    have h93 := hN93
    change ab_W _ _ _ G2 27 [none, none] [] _
    refine ab_vret rfl d_MO_begin_27 ?_
    rw [hQ]; exact ⟨_, rfl, hfr, hlen, hsl, h80, h93, (by first | exact hq4 | exact rgs_w hq4 (by omega)), (by exact clsI_0 hq5)⟩
set_option maxRecDepth 100000 in
set_option maxHeartbeats 4000000 in
theorem y_MO_gatherLike_14 {X : ab_X} {d : Nat} {Q : Outcome → ab_G → Prop} {o : Nat → Nat} {G0 : ab_G} {m_thrown : Int} {m_taped : Int} {m_length : Int} {m_out : Int} {m_wide : Int} {m_gathered : Int} {m_sets : Int} {m_ranges : Int} {m_nodes : Int} {m_at : Int} {m_flags : Int} {m_fault : Int} {m_place : Int} {m_numbered : Int} {m_depth : Int} {m_value : Int} {m_isNot : Int} {m_least0 : Int} {m_most0 : Int} {m_slot : Int} {m_work : Int} {m_got : Int} {m_rowMany : Int} {m_charAt : Int} {m_charWide : Int} {m_trail : Int} {m_isMatch : Int} {m_matchGroups : Int} {m_allFrom : Int} {m_allBefore : Int} {m_founds : Int} {m_pieces : Int} {m_writtenMany : Int} {m_templateWide : Int} {m_tooMuch : Int} {a : Int} {b : Int} {MK0 : Int → Int} (n18 : ab_n0 = 18) (cab : 0 ≤ a ∧ a ≤ b ∧ b ≤ 1114111) (hd : 1 ≤ d) : ∀ (mz : Nat) {G : ab_G} {i_ : Int} {MK : Int → Int}, (cc o G 80 280 (ab_ob 12 (mof m_thrown m_taped m_length m_out m_wide m_gathered m_sets m_ranges m_nodes m_at m_flags m_fault m_place m_numbered m_depth m_value m_isNot m_least0 m_most0 m_slot m_work m_got m_rowMany m_charAt m_charWide m_trail m_isMatch m_matchGroups m_allFrom m_allBefore m_founds m_pieces m_writtenMany m_templateWide m_tooMuch))) → (cc o G 93 293 (zb 1200 MK)) → (a ≤ i_ ∧ i_ ≤ b + 1 ∧ (i_ = a ∨ i_ ≤ 1120)) → (rgs MK 1200 0 1) → (mkd MK0 MK (mkR a i_)) → (fx o o [293] G0 G) → (G.length = G0.length) → (ab_slots G = ab_slots G0) → (Int.toNat (b + 1 - i_) < mz) → (∀ (G2 : ab_G) (MK2 : Int → Int) (i2 : Int), (cc o G2 93 293 (zb 1200 MK2)) → (rgs MK2 1200 0 1) → (i2 ≤ b + 1 ∧ (i2 = b + 1 ∨ 1120 ≤ i2) ∧ (i2 = a ∨ i2 ≤ 1120)) → (mkd MK0 MK2 (mkR a i2)) → (fx o o [293] G0 G2) → (G2.length = G0.length) → (ab_slots G2 = ab_slots G0) → ab_W X (ab_pl y_MO_gatherLike b_MO_gatherLike 5 none) d G2 45 [some (vR 80), some (vz a), some (vz b), none, none] [] Q) → ab_W X (ab_pl y_MO_gatherLike b_MO_gatherLike 5 none) d G 14 [some (vR 80), some (vz a), some (vz b), none, some (vz i_)] [] Q := by
  intro mz
  induction mz with
  | zero => intro G i_ MK h80 h93 ci jmk jm hfr hlen hsl hm hk0; exact absurd hm (Nat.not_lt_zero _)
  | succ mz ih =>
    intro G i_ MK h80 h93 ci jmk jm hfr hlen hsl hm hk0
    refine ab_iload d_MO_gatherLike_14 rfl ?_
    refine ab_iload_n d_MO_gatherLike_16 rfl ?_
    refine zz_icmp_gt (tgt := 45) d_MO_gatherLike_17 (by decide) (by omega) (by omega) (fun c1 => ?_) (fun c1 => ?_)
    · refine ab_less (L' := [some (vR 80), some (vz a), some (vz b), none, none]) (fun i v h => by rcases i with _ | _ | _ | _ | _ | i <;> first | exact h | (simp at h)) ?_
      exact hk0 _ _ i_ h93 (by exact jmk) (by omega) (by exact jm) hfr hlen hsl
    · refine ab_iload d_MO_gatherLike_20 rfl ?_
      refine zz_sipush d_MO_gatherLike_22 (by decide) ?_
      refine zz_icmp_ge (tgt := 45) d_MO_gatherLike_25 (by decide) (by omega) (by decide) (fun c2 => ?_) (fun c2 => ?_)
      · refine ab_less (L' := [some (vR 80), some (vz a), some (vz b), none, none]) (fun i v h => by rcases i with _ | _ | _ | _ | _ | i <;> first | exact h | (simp at h)) ?_
        exact hk0 _ _ i_ h93 (by exact jmk) (by omega) (by exact jm) hfr hlen hsl
      · refine ab_aload_n d_MO_gatherLike_28 rfl ?_
        refine ab_getf (fs := mof m_thrown m_taped m_length m_out m_wide m_gathered m_sets m_ranges m_nodes m_at m_flags m_fault m_place m_numbered m_depth m_value m_isNot m_least0 m_most0 m_slot m_work m_got m_rowMany m_charAt m_charWide m_trail m_isMatch m_matchGroups m_allFrom m_allBefore m_founds m_pieces m_writtenMany m_templateWide m_tooMuch) f_MO_46 d_MO_gatherLike_29 h80.2.2 rfl ?_
        refine ab_iload d_MO_gatherLike_32 rfl ?_
        refine ab_callS (d' := d - 1) (as := [vz i_]) (st := [vR 93]) (z_MO_image (o := o) (x := i_) (by omega)) (fun oc G2 h => by rcases h with ⟨_, h, _⟩ <;> exact ⟨_, h⟩) (by omega) m_MO_image ml_MO_244 st_MO_image (Nat.le_of_ble_eq_true rfl) d_MO_gatherLike_34 rfl ?_
        intro v G3 hq
        rcases hq with ⟨v4, hv, hGe, hq5⟩
        cases hv
        rw [hGe]
        change ab_W _ _ _ G 37 [some (vR 80), some (vz a), some (vz b), none, some (vz i_)] [vz v4, vR 93] _
        have hin_ := img_in (c := i_) (Or.inl (by omega))
        rw [← hq5] at hin_
        refine zz_iconst d_MO_gatherLike_37 ?_
        refine zz_zast d_MO_gatherLike_38 h93 (by omega) (by decide) (h93.2.1 (by decide)) ?_
        obtain ⟨G6, eG6⟩ : ∃ z : ab_G, z = List.set G 93 (zb 1200 (zu MK v4 1)) := ⟨_, rfl⟩
        have h80 := h80.keep h93 eG6 (by decide)
        have hlen := (z_len eG6).trans hlen
        have hsl := (z_sl h93 eG6 rfl).trans hsl
        have hfr := hfr.wr h93 eG6 (by decide)
        have h93 := h93.kept eG6
        change ab_W _ _ _ (List.set G 93 (zb 1200 (zu MK v4 1))) 39 [some (vR 80), some (vz a), some (vz b), none, some (vz i_)] [] _
        rw [← eG6]
        refine zz_iinc d_MO_gatherLike_39 rfl (Nat.le_of_ble_eq_true rfl) (Nat.le_of_ble_eq_true rfl) rfl ?_
        change ab_W _ _ _ G6 42 [some (vR 80), some (vz a), some (vz b), none, some (vz (i_ + 1))] [] _
        refine ab_goto (tgt := 14) d_MO_gatherLike_42 (by decide) ?_
        exact ih (i_ := (i_ + 1)) (MK := (zu MK v4 1)) h80 h93 (by omega) (rgs_zu jmk (by omega)) (by rw [hq5]; exact mkd_s jm (by omega)) hfr hlen hsl (by omega) hk0
set_option maxRecDepth 100000 in
set_option maxHeartbeats 4000000 in
theorem z_MO_gatherLike {X : ab_X} {d : Nat} {o : Nat → Nat} {G : ab_G} {m_thrown : Int} {m_taped : Int} {m_length : Int} {m_out : Int} {m_wide : Int} {m_gathered : Int} {m_sets : Int} {m_ranges : Int} {m_nodes : Int} {m_at : Int} {m_flags : Int} {m_fault : Int} {m_place : Int} {m_numbered : Int} {m_depth : Int} {m_value : Int} {m_isNot : Int} {m_least0 : Int} {m_most0 : Int} {m_slot : Int} {m_work : Int} {m_got : Int} {m_rowMany : Int} {m_charAt : Int} {m_charWide : Int} {m_trail : Int} {m_isMatch : Int} {m_matchGroups : Int} {m_allFrom : Int} {m_allBefore : Int} {m_founds : Int} {m_pieces : Int} {m_writtenMany : Int} {m_templateWide : Int} {m_tooMuch : Int} {LO : Int → Int} {HI : Int → Int} {MK : Int → Int} {P : Int → Prop} {a : Int} {b : Int} {lk : Int} (h80 : cc o G 80 280 (ab_ob 12 (mof m_thrown m_taped m_length m_out m_wide m_gathered m_sets m_ranges m_nodes m_at m_flags m_fault m_place m_numbered m_depth m_value m_isNot m_least0 m_most0 m_slot m_work m_got m_rowMany m_charAt m_charWide m_trail m_isMatch m_matchGroups m_allFrom m_allBefore m_founds m_pieces m_writtenMany m_templateWide m_tooMuch))) (h87 : cc o G 87 287 (za 9000 LO)) (h88 : cc o G 88 288 (za 9000 HI)) (h93 : cc o G 93 293 (zb 1200 MK)) (n18 : ab_n0 = 18) (cga : 0 ≤ m_gathered ∧ m_gathered < 9000) (cab : 0 ≤ a ∧ a ≤ b ∧ b ≤ 1114111) (clk : 0 ≤ lk ∧ lk ≤ 1) (jmk : rgs MK 1200 0 1) (jc : clsI LO HI m_gathered MK P) (hd : 2 ≤ d) : ab_F X d y_MO_gatherLike (.code y_MO_gatherLike b_MO_gatherLike 5 none) [vR 80, vz a, vz b, vz lk] G (fun oc G2 => ∃ LO2 : Int → Int, ∃ HI2 : Int → Int, ∃ MK2 : Int → Int, oc = .returned none ∧ fx o o [280, 287, 288, 293] G G2 ∧ G2.length = G.length ∧ ab_slots G2 = ab_slots G ∧ cc o G2 80 280 (ab_ob 12 (mof m_thrown m_taped m_length m_out m_wide (m_gathered + 1) m_sets m_ranges m_nodes m_at m_flags m_fault m_place m_numbered m_depth m_value m_isNot m_least0 m_most0 m_slot m_work m_got m_rowMany m_charAt m_charWide m_trail m_isMatch m_matchGroups m_allFrom m_allBefore m_founds m_pieces m_writtenMany m_templateWide m_tooMuch)) ∧ cc o G2 87 287 (za 9000 LO2) ∧ cc o G2 88 288 (za 9000 HI2) ∧ cc o G2 93 293 (zb 1200 MK2) ∧ (rgs MK2 1200 0 1) ∧ (clsI LO2 HI2 (m_gathered + 1) MK2 (fun x => P x ∨ lkS lk a b x))) := by
  refine ab_F_of (by decide +kernel) (Nat.le_of_ble_eq_true rfl) ?_
  obtain ⟨Q, hQ⟩ : ∃ z : Outcome → ab_G → Prop, z = (fun oc G2 => ∃ LO2 : Int → Int, ∃ HI2 : Int → Int, ∃ MK2 : Int → Int, oc = .returned none ∧ fx o o [280, 287, 288, 293] G G2 ∧ G2.length = G.length ∧ ab_slots G2 = ab_slots G ∧ cc o G2 80 280 (ab_ob 12 (mof m_thrown m_taped m_length m_out m_wide (m_gathered + 1) m_sets m_ranges m_nodes m_at m_flags m_fault m_place m_numbered m_depth m_value m_isNot m_least0 m_most0 m_slot m_work m_got m_rowMany m_charAt m_charWide m_trail m_isMatch m_matchGroups m_allFrom m_allBefore m_founds m_pieces m_writtenMany m_templateWide m_tooMuch)) ∧ cc o G2 87 287 (za 9000 LO2) ∧ cc o G2 88 288 (za 9000 HI2) ∧ cc o G2 93 293 (zb 1200 MK2) ∧ (rgs MK2 1200 0 1) ∧ (clsI LO2 HI2 (m_gathered + 1) MK2 (fun x => P x ∨ lkS lk a b x))) := ⟨_, rfl⟩
  rw [← hQ]
  change ab_W X (ab_pl y_MO_gatherLike b_MO_gatherLike 5 none) d G 0 [some (vR 80), some (vz a), some (vz b), some (vz lk), none] [] Q
  have hfr : fx o o [280, 287, 288, 293] G G := fx.rf
  have hlen : G.length = G.length := rfl
  have hsl : ab_slots G = ab_slots G := rfl
  refine ab_aload_n d_MO_gatherLike_0 rfl ?_
  refine ab_iload_n d_MO_gatherLike_1 rfl ?_
  refine ab_iload_n d_MO_gatherLike_2 rfl ?_
  refine ab_callV (d' := d - 1) (as := [vz a, vz b]) (st := []) (r := _) (z_MO_gather (o := o) (m_thrown := m_thrown) (m_taped := m_taped) (m_length := m_length) (m_out := m_out) (m_wide := m_wide) (m_gathered := m_gathered) (m_sets := m_sets) (m_ranges := m_ranges) (m_nodes := m_nodes) (m_at := m_at) (m_flags := m_flags) (m_fault := m_fault) (m_place := m_place) (m_numbered := m_numbered) (m_depth := m_depth) (m_value := m_value) (m_isNot := m_isNot) (m_least0 := m_least0) (m_most0 := m_most0) (m_slot := m_slot) (m_work := m_work) (m_got := m_got) (m_rowMany := m_rowMany) (m_charAt := m_charAt) (m_charWide := m_charWide) (m_trail := m_trail) (m_isMatch := m_isMatch) (m_matchGroups := m_matchGroups) (m_allFrom := m_allFrom) (m_allBefore := m_allBefore) (m_founds := m_founds) (m_pieces := m_pieces) (m_writtenMany := m_writtenMany) (m_templateWide := m_templateWide) (m_tooMuch := m_tooMuch) (LO := LO) (HI := HI) (a := a) (b := b) h80 h87 h88 (by omega) (by omega)) (fun oc G2 h => by rcases h with ⟨h, _⟩ <;> exact ⟨_, h⟩) (by omega) m_MO_gather ml_MO_240 im_MO_gather se_MO_gather c_MO h80.2.2 (Nat.le_of_ble_eq_true rfl) d_MO_gatherLike_3 rfl ?_
  intro v G1 hq
  rcases hq with ⟨hv, hfk, hlk, hsk, hN80, hN87, hN88⟩
  cases hv
  have h93 := hfk.get h93 (by decide)
  have hfr := hfr.tr hfk (by decide)
  have hlen := hlk.trans hlen
  have hsl := hsk.trans hsl
  have h80 := hN80
  have h87 := hN87
  have h88 := hN88
  change ab_W _ _ _ G1 6 [some (vR 80), some (vz a), some (vz b), some (vz lk), none] [] _
  refine ab_iload_n d_MO_gatherLike_6 rfl ?_
  refine zz_if_ne (tgt := 11) d_MO_gatherLike_7 (by decide) (by omega) (fun c2 => ?_) (fun c2 => ?_)
  · refine ab_iload_n d_MO_gatherLike_11 rfl ?_
    refine ab_istore d_MO_gatherLike_12 (Nat.le_of_ble_eq_true rfl) (Nat.le_of_ble_eq_true rfl) rfl ?_
    change ab_W _ _ _ G1 14 [some (vR 80), some (vz a), some (vz b), some (vz lk), some (vz a)] [] _
    refine ab_less (L' := [some (vR 80), some (vz a), some (vz b), none, some (vz a)]) (fun i v h => by rcases i with _ | _ | _ | _ | _ | i <;> first | exact h | (simp at h)) ?_
    refine y_MO_gatherLike_14 (m_thrown := m_thrown) (m_taped := m_taped) (m_length := m_length) (m_out := m_out) (m_wide := m_wide) (m_gathered := (m_gathered + 1)) (m_sets := m_sets) (m_ranges := m_ranges) (m_nodes := m_nodes) (m_at := m_at) (m_flags := m_flags) (m_fault := m_fault) (m_place := m_place) (m_numbered := m_numbered) (m_depth := m_depth) (m_value := m_value) (m_isNot := m_isNot) (m_least0 := m_least0) (m_most0 := m_most0) (m_slot := m_slot) (m_work := m_work) (m_got := m_got) (m_rowMany := m_rowMany) (m_charAt := m_charAt) (m_charWide := m_charWide) (m_trail := m_trail) (m_isMatch := m_isMatch) (m_matchGroups := m_matchGroups) (m_allFrom := m_allFrom) (m_allBefore := m_allBefore) (m_founds := m_founds) (m_pieces := m_pieces) (m_writtenMany := m_writtenMany) (m_templateWide := m_templateWide) (m_tooMuch := m_tooMuch) (a := a) (b := b) (MK0 := MK) (G0 := G1) (i_ := a) (MK := MK) (by omega) (by omega) (by omega) (Int.toNat (b + 1 - a) + 1) h80 h93 (by omega) jmk mkd_0 fx.rf rfl rfl (by omega) (fun G3 MK24 i25 hN93 hq6 hq7 hq8 hfk hlk hsk => ?_)
    · have h80 := hfk.get h80 (by decide)
      have h87 := hfk.get h87 (by decide)
      have h88 := hfk.get h88 (by decide)
      have hfr := hfr.tr hfk (by decide)
      have hlen := hlk.trans hlen
      have hsl := hsk.trans hsl
      have h93 := hN93
      change ab_W _ _ _ G3 45 [some (vR 80), some (vz a), some (vz b), none, none] [] _
      refine ab_iload_n d_MO_gatherLike_45 rfl ?_
      refine zz_sipush d_MO_gatherLike_46 (by decide) ?_
      refine zz_icmp_gt (tgt := 67) d_MO_gatherLike_49 (by decide) (by omega) (by decide) (fun c9 => ?_) (fun c9 => ?_)
      · refine ab_iload_n d_MO_gatherLike_67 rfl ?_
        refine zz_sipush d_MO_gatherLike_68 (by decide) ?_
        refine zz_icmp_gt (tgt := 90) d_MO_gatherLike_71 (by decide) (by omega) (by decide) (fun c10 => ?_) (fun c10 => ?_)
        · refine ab_vret rfl d_MO_gatherLike_90 ?_
          rw [hQ]; exact ⟨_, _, _, rfl, hfr, hlen, hsl, h80, h87, h88, h93, (by first | exact hq6 | exact rgs_w hq6 (by omega)), (by rw [show lk = 1 by omega]; exact clsI_l1 (i := i25) jc (by omega) (by omega) (mkd_n (mkd_n hq8 (by omega)) (by omega)) (by omega) (by omega) (by omega))⟩
        · refine ab_iload_n d_MO_gatherLike_74 rfl ?_
          refine zz_sipush d_MO_gatherLike_75 (by decide) ?_
          refine zz_icmp_lt (tgt := 90) d_MO_gatherLike_78 (by decide) (by omega) (by decide) (fun c11 => absurd c11 (by omega)) (fun c11 => ?_)
          refine ab_aload_n d_MO_gatherLike_81 rfl ?_
          refine ab_getf (fs := mof m_thrown m_taped m_length m_out m_wide (m_gathered + 1) m_sets m_ranges m_nodes m_at m_flags m_fault m_place m_numbered m_depth m_value m_isNot m_least0 m_most0 m_slot m_work m_got m_rowMany m_charAt m_charWide m_trail m_isMatch m_matchGroups m_allFrom m_allBefore m_founds m_pieces m_writtenMany m_templateWide m_tooMuch) f_MO_46 d_MO_gatherLike_82 h80.2.2 rfl ?_
          refine zz_sipush d_MO_gatherLike_85 (by decide) ?_
          refine zz_iconst d_MO_gatherLike_88 ?_
          refine zz_zast d_MO_gatherLike_89 h93 (by omega) (by decide) (h93.2.1 (by decide)) ?_
          obtain ⟨G12, eG12⟩ : ∃ z : ab_G, z = List.set G3 93 (zb 1200 (zu MK24 229 1)) := ⟨_, rfl⟩
          have h80 := h80.keep h93 eG12 (by decide)
          have h87 := h87.keep h93 eG12 (by decide)
          have h88 := h88.keep h93 eG12 (by decide)
          have hlen := (z_len eG12).trans hlen
          have hsl := (z_sl h93 eG12 rfl).trans hsl
          have hfr := hfr.wr h93 eG12 (by decide)
          have h93 := h93.kept eG12
          change ab_W _ _ _ (List.set G3 93 (zb 1200 (zu MK24 229 1))) 90 [some (vR 80), some (vz a), some (vz b), none, none] [] _
          rw [← eG12]
          refine ab_vret rfl d_MO_gatherLike_90 ?_
          rw [hQ]; exact ⟨_, _, _, rfl, hfr, hlen, hsl, h80, h87, h88, h93, (by first | exact (rgs_zu hq6 (by omega)) | exact rgs_w (rgs_zu hq6 (by omega)) (by omega)), (by rw [show lk = 1 by omega]; exact clsI_l1 (i := i25) jc (by omega) (by omega) (mkd_y (mkd_n hq8 (by omega)) (by omega)) (by omega) (by omega) (by omega))⟩
      · refine ab_iload_n d_MO_gatherLike_52 rfl ?_
        refine zz_sipush d_MO_gatherLike_53 (by decide) ?_
        refine zz_icmp_lt (tgt := 67) d_MO_gatherLike_56 (by decide) (by omega) (by decide) (fun c13 => ?_) (fun c13 => ?_)
        · refine ab_iload_n d_MO_gatherLike_67 rfl ?_
          refine zz_sipush d_MO_gatherLike_68 (by decide) ?_
          refine zz_icmp_gt (tgt := 90) d_MO_gatherLike_71 (by decide) (by omega) (by decide) (fun c14 => absurd c14 (by omega)) (fun c14 => ?_)
          refine ab_iload_n d_MO_gatherLike_74 rfl ?_
          refine zz_sipush d_MO_gatherLike_75 (by decide) ?_
          refine zz_icmp_lt (tgt := 90) d_MO_gatherLike_78 (by decide) (by omega) (by decide) (fun c15 => ?_) (fun c15 => absurd c15 (by omega))
          refine ab_vret rfl d_MO_gatherLike_90 ?_
          rw [hQ]; exact ⟨_, _, _, rfl, hfr, hlen, hsl, h80, h87, h88, h93, (by first | exact hq6 | exact rgs_w hq6 (by omega)), (by rw [show lk = 1 by omega]; exact clsI_l1 (i := i25) jc (by omega) (by omega) (mkd_n (mkd_n hq8 (by omega)) (by omega)) (by omega) (by omega) (by omega))⟩
        · refine ab_aload_n d_MO_gatherLike_59 rfl ?_
          refine ab_getf (fs := mof m_thrown m_taped m_length m_out m_wide (m_gathered + 1) m_sets m_ranges m_nodes m_at m_flags m_fault m_place m_numbered m_depth m_value m_isNot m_least0 m_most0 m_slot m_work m_got m_rowMany m_charAt m_charWide m_trail m_isMatch m_matchGroups m_allFrom m_allBefore m_founds m_pieces m_writtenMany m_templateWide m_tooMuch) f_MO_46 d_MO_gatherLike_60 h80.2.2 rfl ?_
          refine zz_bipush d_MO_gatherLike_63 (by decide) ?_
          refine zz_iconst d_MO_gatherLike_65 ?_
          refine zz_zast d_MO_gatherLike_66 h93 (by omega) (by decide) (h93.2.1 (by decide)) ?_
          obtain ⟨G16, eG16⟩ : ∃ z : ab_G, z = List.set G3 93 (zb 1200 (zu MK24 107 1)) := ⟨_, rfl⟩
          have h80 := h80.keep h93 eG16 (by decide)
          have h87 := h87.keep h93 eG16 (by decide)
          have h88 := h88.keep h93 eG16 (by decide)
          have hlen := (z_len eG16).trans hlen
          have hsl := (z_sl h93 eG16 rfl).trans hsl
          have hfr := hfr.wr h93 eG16 (by decide)
          have h93 := h93.kept eG16
          change ab_W _ _ _ (List.set G3 93 (zb 1200 (zu MK24 107 1))) 67 [some (vR 80), some (vz a), some (vz b), none, none] [] _
          rw [← eG16]
          refine ab_iload_n d_MO_gatherLike_67 rfl ?_
          refine zz_sipush d_MO_gatherLike_68 (by decide) ?_
          refine zz_icmp_gt (tgt := 90) d_MO_gatherLike_71 (by decide) (by omega) (by decide) (fun c17 => absurd c17 (by omega)) (fun c17 => ?_)
          refine ab_iload_n d_MO_gatherLike_74 rfl ?_
          refine zz_sipush d_MO_gatherLike_75 (by decide) ?_
          refine zz_icmp_lt (tgt := 90) d_MO_gatherLike_78 (by decide) (by omega) (by decide) (fun c18 => ?_) (fun c18 => ?_)
          · refine ab_vret rfl d_MO_gatherLike_90 ?_
            rw [hQ]; exact ⟨_, _, _, rfl, hfr, hlen, hsl, h80, h87, h88, h93, (by first | exact (rgs_zu hq6 (by omega)) | exact rgs_w (rgs_zu hq6 (by omega)) (by omega)), (by rw [show lk = 1 by omega]; exact clsI_l1 (i := i25) jc (by omega) (by omega) (mkd_n (mkd_y hq8 (by omega)) (by omega)) (by omega) (by omega) (by omega))⟩
          · refine ab_aload_n d_MO_gatherLike_81 rfl ?_
            refine ab_getf (fs := mof m_thrown m_taped m_length m_out m_wide (m_gathered + 1) m_sets m_ranges m_nodes m_at m_flags m_fault m_place m_numbered m_depth m_value m_isNot m_least0 m_most0 m_slot m_work m_got m_rowMany m_charAt m_charWide m_trail m_isMatch m_matchGroups m_allFrom m_allBefore m_founds m_pieces m_writtenMany m_templateWide m_tooMuch) f_MO_46 d_MO_gatherLike_82 h80.2.2 rfl ?_
            refine zz_sipush d_MO_gatherLike_85 (by decide) ?_
            refine zz_iconst d_MO_gatherLike_88 ?_
            refine zz_zast d_MO_gatherLike_89 h93 (by omega) (by decide) (h93.2.1 (by decide)) ?_
            obtain ⟨G19, eG19⟩ : ∃ z : ab_G, z = List.set G16 93 (zb 1200 (zu (zu MK24 107 1) 229 1)) := ⟨_, rfl⟩
            have h80 := h80.keep h93 eG19 (by decide)
            have h87 := h87.keep h93 eG19 (by decide)
            have h88 := h88.keep h93 eG19 (by decide)
            have hlen := (z_len eG19).trans hlen
            have hsl := (z_sl h93 eG19 rfl).trans hsl
            have hfr := hfr.wr h93 eG19 (by decide)
            have h93 := h93.kept eG19
            change ab_W _ _ _ (List.set G16 93 (zb 1200 (zu (zu MK24 107 1) 229 1))) 90 [some (vR 80), some (vz a), some (vz b), none, none] [] _
            rw [← eG19]
            refine ab_vret rfl d_MO_gatherLike_90 ?_
            rw [hQ]; exact ⟨_, _, _, rfl, hfr, hlen, hsl, h80, h87, h88, h93, (by first | exact (rgs_zu (rgs_zu hq6 (by omega)) (by omega)) | exact rgs_w (rgs_zu (rgs_zu hq6 (by omega)) (by omega)) (by omega)), (by rw [show lk = 1 by omega]; exact clsI_l1 (i := i25) jc (by omega) (by omega) (mkd_y (mkd_y hq8 (by omega)) (by omega)) (by omega) (by omega) (by omega))⟩
  · refine ab_vret rfl d_MO_gatherLike_10 ?_
    rw [hQ]; exact ⟨_, _, _, rfl, hfr, hlen, hsl, h80, h87, h88, h93, (by first | exact jmk | exact rgs_w jmk (by omega)), (by rw [show lk = 0 by omega]; exact clsI_l0 jc (by omega) (by omega))⟩
set_option maxRecDepth 100000 in
set_option maxHeartbeats 4000000 in
theorem y_MO_gatherMarked_2 {X : ab_X} {d : Nat} {Q : Outcome → ab_G → Prop} {o : Nat → Nat} {G0 : ab_G} {m_thrown : Int} {m_taped : Int} {m_length : Int} {m_out : Int} {m_wide : Int} {m_sets : Int} {m_ranges : Int} {m_nodes : Int} {m_at : Int} {m_flags : Int} {m_fault : Int} {m_place : Int} {m_numbered : Int} {m_depth : Int} {m_value : Int} {m_isNot : Int} {m_least0 : Int} {m_most0 : Int} {m_slot : Int} {m_work : Int} {m_got : Int} {m_rowMany : Int} {m_charAt : Int} {m_charWide : Int} {m_trail : Int} {m_isMatch : Int} {m_matchGroups : Int} {m_allFrom : Int} {m_allBefore : Int} {m_founds : Int} {m_pieces : Int} {m_writtenMany : Int} {m_templateWide : Int} {m_tooMuch : Int} {MK : Int → Int} {g0 : Int} {LO0 : Int → Int} {HI0 : Int → Int} (n18 : ab_n0 = 18) (jmk : rgs MK 1200 0 1) (cg0 : 0 ≤ g0 ∧ g0 ≤ 7800) (hd : 2 ≤ d) : ∀ (mz : Nat) {G : ab_G} {i_ : Int} {m_gathered : Int} {LO : Int → Int} {HI : Int → Int}, (cc o G 80 280 (ab_ob 12 (mof m_thrown m_taped m_length m_out m_wide m_gathered m_sets m_ranges m_nodes m_at m_flags m_fault m_place m_numbered m_depth m_value m_isNot m_least0 m_most0 m_slot m_work m_got m_rowMany m_charAt m_charWide m_trail m_isMatch m_matchGroups m_allFrom m_allBefore m_founds m_pieces m_writtenMany m_templateWide m_tooMuch))) → (cc o G 87 287 (za 9000 LO)) → (cc o G 88 288 (za 9000 HI)) → (cc o G 93 293 (zb 1200 MK)) → (0 ≤ i_ ∧ i_ ≤ 1120 ∧ g0 ≤ m_gathered ∧ m_gathered ≤ g0 + i_) → (gmk LO0 HI0 LO HI MK g0 m_gathered i_) → (fx o o [280, 287, 288] G0 G) → (G.length = G0.length) → (ab_slots G = ab_slots G0) → (Int.toNat (1120 - i_) < mz) → (∀ (G2 : ab_G) (g2 : Int) (LO2 : Int → Int) (HI2 : Int → Int), (cc o G2 80 280 (ab_ob 12 (mof m_thrown m_taped m_length m_out m_wide g2 m_sets m_ranges m_nodes m_at m_flags m_fault m_place m_numbered m_depth m_value m_isNot m_least0 m_most0 m_slot m_work m_got m_rowMany m_charAt m_charWide m_trail m_isMatch m_matchGroups m_allFrom m_allBefore m_founds m_pieces m_writtenMany m_templateWide m_tooMuch))) → (cc o G2 87 287 (za 9000 LO2)) → (cc o G2 88 288 (za 9000 HI2)) → (g0 ≤ g2 ∧ g2 ≤ g0 + 1120) → (gmk LO0 HI0 LO2 HI2 MK g0 g2 1120) → (fx o o [280, 287, 288] G0 G2) → (G2.length = G0.length) → (ab_slots G2 = ab_slots G0) → ab_W X (ab_pl y_MO_gatherMarked b_MO_gatherMarked 2 none) d G2 33 [some (vR 80), none] [] Q) → ab_W X (ab_pl y_MO_gatherMarked b_MO_gatherMarked 2 none) d G 2 [some (vR 80), some (vz i_)] [] Q := by
  intro mz
  induction mz with
  | zero => intro G i_ m_gathered LO HI h80 h87 h88 h93 ci jg hfr hlen hsl hm hk0; exact absurd hm (Nat.not_lt_zero _)
  | succ mz ih =>
    intro G i_ m_gathered LO HI h80 h87 h88 h93 ci jg hfr hlen hsl hm hk0
    refine ab_iload_n d_MO_gatherMarked_2 rfl ?_
    refine zz_sipush d_MO_gatherMarked_3 (by decide) ?_
    refine zz_icmp_ge (tgt := 33) d_MO_gatherMarked_6 (by decide) (by omega) (by decide) (fun c1 => ?_) (fun c1 => ?_)
    · refine ab_less (L' := [some (vR 80), none]) (fun i v h => by rcases i with _ | _ | i <;> first | exact h | (simp at h)) ?_
      exact hk0 _ _ _ _ h80 h87 h88 (by omega) (by exact (show i_ = 1120 by omega) ▸ jg) hfr hlen hsl
    · refine ab_aload_n d_MO_gatherMarked_9 rfl ?_
      refine ab_getf (fs := mof m_thrown m_taped m_length m_out m_wide m_gathered m_sets m_ranges m_nodes m_at m_flags m_fault m_place m_numbered m_depth m_value m_isNot m_least0 m_most0 m_slot m_work m_got m_rowMany m_charAt m_charWide m_trail m_isMatch m_matchGroups m_allFrom m_allBefore m_founds m_pieces m_writtenMany m_templateWide m_tooMuch) f_MO_46 d_MO_gatherMarked_10 h80.2.2 rfl ?_
      refine ab_iload_n d_MO_gatherMarked_13 rfl ?_
      refine ab_callS (d' := d - 1) (as := [vz i_]) (st := [vR 93]) (z_MO_image (o := o) (x := i_) (by omega)) (fun oc G2 h => by rcases h with ⟨_, h, _⟩ <;> exact ⟨_, h⟩) (by omega) m_MO_image ml_MO_244 st_MO_image (Nat.le_of_ble_eq_true rfl) d_MO_gatherMarked_14 rfl ?_
      intro v G2 hq
      rcases hq with ⟨v3, hv, hGe, hq4⟩
      cases hv
      rw [hGe]
      change ab_W _ _ _ G 17 [some (vR 80), some (vz i_)] [vz v3, vR 93] _
      have hin_ := img_in (c := i_) (Or.inl (by omega))
      rw [← hq4] at hin_
      have hmv_ := jmk v3 (by omega) (by omega)
      refine zz_zald d_MO_gatherMarked_17 h93 (by omega) ?_
      refine zz_if_eq (tgt := 27) d_MO_gatherMarked_18 (by decide) (by omega) (fun c5 => ?_) (fun c5 => ?_)
      · refine zz_iinc d_MO_gatherMarked_27 rfl (Nat.le_of_ble_eq_true rfl) (Nat.le_of_ble_eq_true rfl) rfl ?_
        change ab_W _ _ _ G 30 [some (vR 80), some (vz (i_ + 1))] [] _
        refine ab_goto (tgt := 2) d_MO_gatherMarked_30 (by decide) ?_
        exact ih (i_ := (i_ + 1)) (m_gathered := m_gathered) (LO := LO) (HI := HI) h80 h87 h88 h93 (by omega) (gmk_n jg (by rw [← hq4]; omega)) hfr hlen hsl (by omega) hk0
      · refine ab_aload_n d_MO_gatherMarked_21 rfl ?_
        refine ab_iload_n d_MO_gatherMarked_22 rfl ?_
        refine ab_iload_n d_MO_gatherMarked_23 rfl ?_
        refine ab_callV (d' := d - 1) (as := [vz i_, vz i_]) (st := []) (r := _) (z_MO_gather (o := o) (m_thrown := m_thrown) (m_taped := m_taped) (m_length := m_length) (m_out := m_out) (m_wide := m_wide) (m_gathered := m_gathered) (m_sets := m_sets) (m_ranges := m_ranges) (m_nodes := m_nodes) (m_at := m_at) (m_flags := m_flags) (m_fault := m_fault) (m_place := m_place) (m_numbered := m_numbered) (m_depth := m_depth) (m_value := m_value) (m_isNot := m_isNot) (m_least0 := m_least0) (m_most0 := m_most0) (m_slot := m_slot) (m_work := m_work) (m_got := m_got) (m_rowMany := m_rowMany) (m_charAt := m_charAt) (m_charWide := m_charWide) (m_trail := m_trail) (m_isMatch := m_isMatch) (m_matchGroups := m_matchGroups) (m_allFrom := m_allFrom) (m_allBefore := m_allBefore) (m_founds := m_founds) (m_pieces := m_pieces) (m_writtenMany := m_writtenMany) (m_templateWide := m_templateWide) (m_tooMuch := m_tooMuch) (LO := LO) (HI := HI) (a := i_) (b := i_) h80 h87 h88 (by omega) (by omega)) (fun oc G2 h => by rcases h with ⟨h, _⟩ <;> exact ⟨_, h⟩) (by omega) m_MO_gather ml_MO_240 im_MO_gather se_MO_gather c_MO h80.2.2 (Nat.le_of_ble_eq_true rfl) d_MO_gatherMarked_24 rfl ?_
        intro v G6 hq
        rcases hq with ⟨hv, hfk, hlk, hsk, hN80, hN87, hN88⟩
        cases hv
        have h93 := hfk.get h93 (by decide)
        have hfr := hfr.tr hfk (by decide)
        have hlen := hlk.trans hlen
        have hsl := hsk.trans hsl
        have h80 := hN80
        have h87 := hN87
        have h88 := hN88
        change ab_W _ _ _ G6 27 [some (vR 80), some (vz i_)] [] _
        refine zz_iinc d_MO_gatherMarked_27 rfl (Nat.le_of_ble_eq_true rfl) (Nat.le_of_ble_eq_true rfl) rfl ?_
        change ab_W _ _ _ G6 30 [some (vR 80), some (vz (i_ + 1))] [] _
        refine ab_goto (tgt := 2) d_MO_gatherMarked_30 (by decide) ?_
        exact ih (i_ := (i_ + 1)) (m_gathered := (m_gathered + 1)) (LO := (zu LO m_gathered i_)) (HI := (zu HI m_gathered i_)) h80 h87 h88 h93 (by omega) (gmk_y jg (by omega) (by omega) (by rw [← hq4]; omega)) hfr hlen hsl (by omega) hk0
set_option maxRecDepth 100000 in
set_option maxHeartbeats 4000000 in
theorem z_MO_gatherMarked {X : ab_X} {d : Nat} {o : Nat → Nat} {G : ab_G} {m_thrown : Int} {m_taped : Int} {m_length : Int} {m_out : Int} {m_wide : Int} {m_gathered : Int} {m_sets : Int} {m_ranges : Int} {m_nodes : Int} {m_at : Int} {m_flags : Int} {m_fault : Int} {m_place : Int} {m_numbered : Int} {m_depth : Int} {m_value : Int} {m_isNot : Int} {m_least0 : Int} {m_most0 : Int} {m_slot : Int} {m_work : Int} {m_got : Int} {m_rowMany : Int} {m_charAt : Int} {m_charWide : Int} {m_trail : Int} {m_isMatch : Int} {m_matchGroups : Int} {m_allFrom : Int} {m_allBefore : Int} {m_founds : Int} {m_pieces : Int} {m_writtenMany : Int} {m_templateWide : Int} {m_tooMuch : Int} {LO : Int → Int} {HI : Int → Int} {MK : Int → Int} {P : Int → Prop} (h80 : cc o G 80 280 (ab_ob 12 (mof m_thrown m_taped m_length m_out m_wide m_gathered m_sets m_ranges m_nodes m_at m_flags m_fault m_place m_numbered m_depth m_value m_isNot m_least0 m_most0 m_slot m_work m_got m_rowMany m_charAt m_charWide m_trail m_isMatch m_matchGroups m_allFrom m_allBefore m_founds m_pieces m_writtenMany m_templateWide m_tooMuch))) (h87 : cc o G 87 287 (za 9000 LO)) (h88 : cc o G 88 288 (za 9000 HI)) (h93 : cc o G 93 293 (zb 1200 MK)) (n18 : ab_n0 = 18) (jmk : rgs MK 1200 0 1) (cg : 0 ≤ m_gathered ∧ m_gathered ≤ 7800) (jc : clsI LO HI m_gathered MK P) (hd : 3 ≤ d) : ab_F X d y_MO_gatherMarked (.code y_MO_gatherMarked b_MO_gatherMarked 2 none) [vR 80] G (fun oc G2 => ∃ g2 : Int, ∃ LO2 : Int → Int, ∃ HI2 : Int → Int, oc = .returned none ∧ fx o o [280, 287, 288] G G2 ∧ G2.length = G.length ∧ ab_slots G2 = ab_slots G ∧ cc o G2 80 280 (ab_ob 12 (mof m_thrown m_taped m_length m_out m_wide g2 m_sets m_ranges m_nodes m_at m_flags m_fault m_place m_numbered m_depth m_value m_isNot m_least0 m_most0 m_slot m_work m_got m_rowMany m_charAt m_charWide m_trail m_isMatch m_matchGroups m_allFrom m_allBefore m_founds m_pieces m_writtenMany m_templateWide m_tooMuch)) ∧ cc o G2 87 287 (za 9000 LO2) ∧ cc o G2 88 288 (za 9000 HI2) ∧ (m_gathered ≤ g2 ∧ g2 ≤ m_gathered + 1122) ∧ (gall LO2 HI2 g2 P)) := by
  refine ab_F_of (by decide +kernel) (Nat.le_of_ble_eq_true rfl) ?_
  obtain ⟨Q, hQ⟩ : ∃ z : Outcome → ab_G → Prop, z = (fun oc G2 => ∃ g2 : Int, ∃ LO2 : Int → Int, ∃ HI2 : Int → Int, oc = .returned none ∧ fx o o [280, 287, 288] G G2 ∧ G2.length = G.length ∧ ab_slots G2 = ab_slots G ∧ cc o G2 80 280 (ab_ob 12 (mof m_thrown m_taped m_length m_out m_wide g2 m_sets m_ranges m_nodes m_at m_flags m_fault m_place m_numbered m_depth m_value m_isNot m_least0 m_most0 m_slot m_work m_got m_rowMany m_charAt m_charWide m_trail m_isMatch m_matchGroups m_allFrom m_allBefore m_founds m_pieces m_writtenMany m_templateWide m_tooMuch)) ∧ cc o G2 87 287 (za 9000 LO2) ∧ cc o G2 88 288 (za 9000 HI2) ∧ (m_gathered ≤ g2 ∧ g2 ≤ m_gathered + 1122) ∧ (gall LO2 HI2 g2 P)) := ⟨_, rfl⟩
  rw [← hQ]
  change ab_W X (ab_pl y_MO_gatherMarked b_MO_gatherMarked 2 none) d G 0 [some (vR 80), none] [] Q
  have hfr : fx o o [280, 287, 288] G G := fx.rf
  have hlen : G.length = G.length := rfl
  have hsl : ab_slots G = ab_slots G := rfl
  refine zz_iconst d_MO_gatherMarked_0 ?_
  refine ab_istore_n d_MO_gatherMarked_1 (Nat.le_of_ble_eq_true rfl) (Nat.le_of_ble_eq_true rfl) rfl ?_
  change ab_W _ _ _ G 2 [some (vR 80), some (vz 0)] [] _
  refine y_MO_gatherMarked_2 (m_thrown := m_thrown) (m_taped := m_taped) (m_length := m_length) (m_out := m_out) (m_wide := m_wide) (m_sets := m_sets) (m_ranges := m_ranges) (m_nodes := m_nodes) (m_at := m_at) (m_flags := m_flags) (m_fault := m_fault) (m_place := m_place) (m_numbered := m_numbered) (m_depth := m_depth) (m_value := m_value) (m_isNot := m_isNot) (m_least0 := m_least0) (m_most0 := m_most0) (m_slot := m_slot) (m_work := m_work) (m_got := m_got) (m_rowMany := m_rowMany) (m_charAt := m_charAt) (m_charWide := m_charWide) (m_trail := m_trail) (m_isMatch := m_isMatch) (m_matchGroups := m_matchGroups) (m_allFrom := m_allFrom) (m_allBefore := m_allBefore) (m_founds := m_founds) (m_pieces := m_pieces) (m_writtenMany := m_writtenMany) (m_templateWide := m_templateWide) (m_tooMuch := m_tooMuch) (MK := MK) (g0 := m_gathered) (LO0 := LO) (HI0 := HI) (G0 := G) (i_ := 0) (m_gathered := m_gathered) (LO := LO) (HI := HI) (by omega) jmk (by omega) (by omega) (Int.toNat (1120 - 0) + 1) h80 h87 h88 h93 (by omega) (gmk_0 jc.1) fx.rf rfl rfl (by omega) (fun G1 g22 LO23 HI24 hN80 hN87 hN88 hq5 hq6 hfk hlk hsk => ?_)
  · have h93 := hfk.get h93 (by decide)
    have hfr := hfr.tr hfk (by decide)
    have hlen := hlk.trans hlen
    have hsl := hsk.trans hsl
    have h80 := hN80
    have h87 := hN87
    have h88 := hN88
    change ab_W _ _ _ G1 33 [some (vR 80), none] [] _
    have hm107_ := jmk 107 (by decide) (by decide)
    refine ab_aload_n d_MO_gatherMarked_33 rfl ?_
    refine ab_getf (fs := mof m_thrown m_taped m_length m_out m_wide g22 m_sets m_ranges m_nodes m_at m_flags m_fault m_place m_numbered m_depth m_value m_isNot m_least0 m_most0 m_slot m_work m_got m_rowMany m_charAt m_charWide m_trail m_isMatch m_matchGroups m_allFrom m_allBefore m_founds m_pieces m_writtenMany m_templateWide m_tooMuch) f_MO_46 d_MO_gatherMarked_34 h80.2.2 rfl ?_
    refine zz_bipush d_MO_gatherMarked_37 (by decide) ?_
    refine zz_zald d_MO_gatherMarked_39 h93 (by omega) ?_
    refine zz_if_eq (tgt := 53) d_MO_gatherMarked_40 (by decide) (by omega) (fun c7 => ?_) (fun c7 => ?_)
    · have hm229_ := jmk 229 (by decide) (by decide)
      refine ab_aload_n d_MO_gatherMarked_53 rfl ?_
      refine ab_getf (fs := mof m_thrown m_taped m_length m_out m_wide g22 m_sets m_ranges m_nodes m_at m_flags m_fault m_place m_numbered m_depth m_value m_isNot m_least0 m_most0 m_slot m_work m_got m_rowMany m_charAt m_charWide m_trail m_isMatch m_matchGroups m_allFrom m_allBefore m_founds m_pieces m_writtenMany m_templateWide m_tooMuch) f_MO_46 d_MO_gatherMarked_54 h80.2.2 rfl ?_
      refine zz_sipush d_MO_gatherMarked_57 (by decide) ?_
      refine zz_zald d_MO_gatherMarked_60 h93 (by omega) ?_
      refine zz_if_eq (tgt := 74) d_MO_gatherMarked_61 (by decide) (by omega) (fun c8 => ?_) (fun c8 => ?_)
      · refine ab_vret rfl d_MO_gatherMarked_74 ?_
        rw [hQ]; exact ⟨_, _, _, rfl, hfr, hlen, hsl, h80, h87, h88, (by omega), (by exact gall_e jc hq6 (gbe_nn hq6.1 (by omega) (by omega)))⟩
      · refine ab_aload_n d_MO_gatherMarked_64 rfl ?_
        refine zz_sipush d_MO_gatherMarked_65 (by decide) ?_
        refine zz_sipush d_MO_gatherMarked_68 (by decide) ?_
        refine ab_callV (d' := d - 1) (as := [vz 8491, vz 8491]) (st := []) (r := _) (z_MO_gather (o := o) (m_thrown := m_thrown) (m_taped := m_taped) (m_length := m_length) (m_out := m_out) (m_wide := m_wide) (m_gathered := g22) (m_sets := m_sets) (m_ranges := m_ranges) (m_nodes := m_nodes) (m_at := m_at) (m_flags := m_flags) (m_fault := m_fault) (m_place := m_place) (m_numbered := m_numbered) (m_depth := m_depth) (m_value := m_value) (m_isNot := m_isNot) (m_least0 := m_least0) (m_most0 := m_most0) (m_slot := m_slot) (m_work := m_work) (m_got := m_got) (m_rowMany := m_rowMany) (m_charAt := m_charAt) (m_charWide := m_charWide) (m_trail := m_trail) (m_isMatch := m_isMatch) (m_matchGroups := m_matchGroups) (m_allFrom := m_allFrom) (m_allBefore := m_allBefore) (m_founds := m_founds) (m_pieces := m_pieces) (m_writtenMany := m_writtenMany) (m_templateWide := m_templateWide) (m_tooMuch := m_tooMuch) (LO := LO23) (HI := HI24) (a := 8491) (b := 8491) h80 h87 h88 (by omega) (by omega)) (fun oc G2 h => by rcases h with ⟨h, _⟩ <;> exact ⟨_, h⟩) (by omega) m_MO_gather ml_MO_240 im_MO_gather se_MO_gather c_MO h80.2.2 (Nat.le_of_ble_eq_true rfl) d_MO_gatherMarked_71 rfl ?_
        intro v G9 hq
        rcases hq with ⟨hv, hfk, hlk, hsk, hN80, hN87, hN88⟩
        cases hv
        have h93 := hfk.get h93 (by decide)
        have hfr := hfr.tr hfk (by decide)
        have hlen := hlk.trans hlen
        have hsl := hsk.trans hsl
        have h80 := hN80
        have h87 := hN87
        have h88 := hN88
        change ab_W _ _ _ G9 74 [some (vR 80), none] [] _
        refine ab_vret rfl d_MO_gatherMarked_74 ?_
        rw [hQ]; exact ⟨_, _, _, rfl, hfr, hlen, hsl, h80, h87, h88, (by omega), (by exact gall_e jc hq6 (gbe_ny hq6.1 (by omega) (by omega) (by omega)))⟩
    · refine ab_aload_n d_MO_gatherMarked_43 rfl ?_
      refine zz_sipush d_MO_gatherMarked_44 (by decide) ?_
      refine zz_sipush d_MO_gatherMarked_47 (by decide) ?_
      refine ab_callV (d' := d - 1) (as := [vz 8490, vz 8490]) (st := []) (r := _) (z_MO_gather (o := o) (m_thrown := m_thrown) (m_taped := m_taped) (m_length := m_length) (m_out := m_out) (m_wide := m_wide) (m_gathered := g22) (m_sets := m_sets) (m_ranges := m_ranges) (m_nodes := m_nodes) (m_at := m_at) (m_flags := m_flags) (m_fault := m_fault) (m_place := m_place) (m_numbered := m_numbered) (m_depth := m_depth) (m_value := m_value) (m_isNot := m_isNot) (m_least0 := m_least0) (m_most0 := m_most0) (m_slot := m_slot) (m_work := m_work) (m_got := m_got) (m_rowMany := m_rowMany) (m_charAt := m_charAt) (m_charWide := m_charWide) (m_trail := m_trail) (m_isMatch := m_isMatch) (m_matchGroups := m_matchGroups) (m_allFrom := m_allFrom) (m_allBefore := m_allBefore) (m_founds := m_founds) (m_pieces := m_pieces) (m_writtenMany := m_writtenMany) (m_templateWide := m_templateWide) (m_tooMuch := m_tooMuch) (LO := LO23) (HI := HI24) (a := 8490) (b := 8490) h80 h87 h88 (by omega) (by omega)) (fun oc G2 h => by rcases h with ⟨h, _⟩ <;> exact ⟨_, h⟩) (by omega) m_MO_gather ml_MO_240 im_MO_gather se_MO_gather c_MO h80.2.2 (Nat.le_of_ble_eq_true rfl) d_MO_gatherMarked_50 rfl ?_
      intro v G10 hq
      rcases hq with ⟨hv, hfk, hlk, hsk, hN80, hN87, hN88⟩
      cases hv
      have h93 := hfk.get h93 (by decide)
      have hfr := hfr.tr hfk (by decide)
      have hlen := hlk.trans hlen
      have hsl := hsk.trans hsl
      have h80 := hN80
      have h87 := hN87
      have h88 := hN88
      change ab_W _ _ _ G10 53 [some (vR 80), none] [] _
      have hm229_ := jmk 229 (by decide) (by decide)
      refine ab_aload_n d_MO_gatherMarked_53 rfl ?_
      refine ab_getf (fs := mof m_thrown m_taped m_length m_out m_wide (g22 + 1) m_sets m_ranges m_nodes m_at m_flags m_fault m_place m_numbered m_depth m_value m_isNot m_least0 m_most0 m_slot m_work m_got m_rowMany m_charAt m_charWide m_trail m_isMatch m_matchGroups m_allFrom m_allBefore m_founds m_pieces m_writtenMany m_templateWide m_tooMuch) f_MO_46 d_MO_gatherMarked_54 h80.2.2 rfl ?_
      refine zz_sipush d_MO_gatherMarked_57 (by decide) ?_
      refine zz_zald d_MO_gatherMarked_60 h93 (by omega) ?_
      refine zz_if_eq (tgt := 74) d_MO_gatherMarked_61 (by decide) (by omega) (fun c11 => ?_) (fun c11 => ?_)
      · refine ab_vret rfl d_MO_gatherMarked_74 ?_
        rw [hQ]; exact ⟨_, _, _, rfl, hfr, hlen, hsl, h80, h87, h88, (by omega), (by exact gall_e jc hq6 (gbe_yn hq6.1 (by omega) (by omega) (by omega)))⟩
      · refine ab_aload_n d_MO_gatherMarked_64 rfl ?_
        refine zz_sipush d_MO_gatherMarked_65 (by decide) ?_
        refine zz_sipush d_MO_gatherMarked_68 (by decide) ?_
        refine ab_callV (d' := d - 1) (as := [vz 8491, vz 8491]) (st := []) (r := _) (z_MO_gather (o := o) (m_thrown := m_thrown) (m_taped := m_taped) (m_length := m_length) (m_out := m_out) (m_wide := m_wide) (m_gathered := (g22 + 1)) (m_sets := m_sets) (m_ranges := m_ranges) (m_nodes := m_nodes) (m_at := m_at) (m_flags := m_flags) (m_fault := m_fault) (m_place := m_place) (m_numbered := m_numbered) (m_depth := m_depth) (m_value := m_value) (m_isNot := m_isNot) (m_least0 := m_least0) (m_most0 := m_most0) (m_slot := m_slot) (m_work := m_work) (m_got := m_got) (m_rowMany := m_rowMany) (m_charAt := m_charAt) (m_charWide := m_charWide) (m_trail := m_trail) (m_isMatch := m_isMatch) (m_matchGroups := m_matchGroups) (m_allFrom := m_allFrom) (m_allBefore := m_allBefore) (m_founds := m_founds) (m_pieces := m_pieces) (m_writtenMany := m_writtenMany) (m_templateWide := m_templateWide) (m_tooMuch := m_tooMuch) (LO := (zu LO23 g22 8490)) (HI := (zu HI24 g22 8490)) (a := 8491) (b := 8491) h80 h87 h88 (by omega) (by omega)) (fun oc G2 h => by rcases h with ⟨h, _⟩ <;> exact ⟨_, h⟩) (by omega) m_MO_gather ml_MO_240 im_MO_gather se_MO_gather c_MO h80.2.2 (Nat.le_of_ble_eq_true rfl) d_MO_gatherMarked_71 rfl ?_
        intro v G12 hq
        rcases hq with ⟨hv, hfk, hlk, hsk, hN80, hN87, hN88⟩
        cases hv
        have h93 := hfk.get h93 (by decide)
        have hfr := hfr.tr hfk (by decide)
        have hlen := hlk.trans hlen
        have hsl := hsk.trans hsl
        have h80 := hN80
        have h87 := hN87
        have h88 := hN88
        change ab_W _ _ _ G12 74 [some (vR 80), none] [] _
        refine ab_vret rfl d_MO_gatherMarked_74 ?_
        rw [hQ]; exact ⟨_, _, _, rfl, hfr, hlen, hsl, h80, h87, h88, (by omega), (by exact gall_e jc hq6 (gbe_yy hq6.1 (by omega) (by omega) (by omega)))⟩
set_option maxRecDepth 100000 in
set_option maxHeartbeats 4000000 in
theorem y_MO_gatherNamed_10 {X : ab_X} {d : Nat} {Q : Outcome → ab_G → Prop} {o : Nat → Nat} {G0 : ab_G} {m_thrown : Int} {m_taped : Int} {m_length : Int} {m_out : Int} {m_wide : Int} {m_sets : Int} {m_ranges : Int} {m_nodes : Int} {m_at : Int} {m_flags : Int} {m_fault : Int} {m_place : Int} {m_numbered : Int} {m_depth : Int} {m_value : Int} {m_isNot : Int} {m_least0 : Int} {m_most0 : Int} {m_slot : Int} {m_work : Int} {m_got : Int} {m_rowMany : Int} {m_charAt : Int} {m_charWide : Int} {m_trail : Int} {m_isMatch : Int} {m_matchGroups : Int} {m_allFrom : Int} {m_allBefore : Int} {m_founds : Int} {m_pieces : Int} {m_writtenMany : Int} {m_templateWide : Int} {m_tooMuch : Int} {MK : Int → Int} {w : Int} {nt : Int} {g0 : Int} {m0 : Int} {P0 : Int → Prop} (n18 : ab_n0 = 18) (cw : 0 ≤ w ∧ w < 12 ∧ 0 ≤ nt ∧ nt ≤ 1 ∧ 0 ≤ g0 ∧ g0 ≤ 8000) (hd : 1 ≤ d) : ∀ (mz : Nat) {G : ab_G} {k : Int} {u : Int} {nx : Int} {m_gathered : Int} {LO : Int → Int} {HI : Int → Int} {P : Int → Prop}, (cc o G 80 280 (ab_ob 12 (mof m_thrown m_taped m_length m_out m_wide m_gathered m_sets m_ranges m_nodes m_at m_flags m_fault m_place m_numbered m_depth m_value m_isNot m_least0 m_most0 m_slot m_work m_got m_rowMany m_charAt m_charWide m_trail m_isMatch m_matchGroups m_allFrom m_allBefore m_founds m_pieces m_writtenMany m_templateWide m_tooMuch))) → (cc o G 87 287 (za 9000 LO)) → (cc o G 88 288 (za 9000 HI)) → (cc o G 81 281 (za 13 tbA)) → (cc o G 82 282 (za 66 tbT)) → (k = 2 * u) → (tbH w ≤ u ∧ u ≤ tbH (w + 1) ∧ 0 ≤ nx ∧ nx ≤ 1280 ∧ g0 ≤ m_gathered ∧ m_gathered ≤ g0 + (u - tbH w)) → (clsI LO HI m_gathered MK P) → (lfc P (m0 + m_gathered - g0)) → (gnI P P0 w nt u nx) → (fx o o [280, 287, 288] G0 G) → (G.length = G0.length) → (ab_slots G = ab_slots G0) → (Int.toNat (tbH (w + 1) - u) < mz) → (∀ (G2 : ab_G) (g2 : Int) (nx2 : Int) (LO2 : Int → Int) (HI2 : Int → Int) (P2 : Int → Prop), (cc o G2 80 280 (ab_ob 12 (mof m_thrown m_taped m_length m_out m_wide g2 m_sets m_ranges m_nodes m_at m_flags m_fault m_place m_numbered m_depth m_value m_isNot m_least0 m_most0 m_slot m_work m_got m_rowMany m_charAt m_charWide m_trail m_isMatch m_matchGroups m_allFrom m_allBefore m_founds m_pieces m_writtenMany m_templateWide m_tooMuch))) → (cc o G2 87 287 (za 9000 LO2)) → (cc o G2 88 288 (za 9000 HI2)) → (g0 ≤ g2 ∧ g2 ≤ g0 + (tbH (w + 1) - tbH w) ∧ 0 ≤ nx2 ∧ nx2 ≤ 1280) → (clsI LO2 HI2 g2 MK P2) → (lfc P2 (m0 + g2 - g0)) → (gnI P2 P0 w nt (tbH (w + 1)) nx2) → (fx o o [280, 287, 288] G0 G2) → (G2.length = G0.length) → (ab_slots G2 = ab_slots G0) → ab_W X (ab_pl y_MO_gatherNamed b_MO_gatherNamed 5 none) d G2 93 [some (vR 80), some (vz w), some (vz nt), some (vz nx2), none] [] Q) → ab_W X (ab_pl y_MO_gatherNamed b_MO_gatherNamed 5 none) d G 10 [some (vR 80), some (vz w), some (vz nt), some (vz nx), some (vz k)] [] Q := by
  intro mz
  induction mz with
  | zero => intro G k u nx m_gathered LO HI P h80 h87 h88 h81 h82 ck cu jc jl jx hfr hlen hsl hm hk0; exact absurd hm (Nat.not_lt_zero _)
  | succ mz ih =>
    intro G k u nx m_gathered LO HI P h80 h87 h88 h81 h82 ck cu jc jl jx hfr hlen hsl hm hk0
    subst ck
    have htb_ := tbH_v w (by omega) (by omega)
    refine ab_iload d_MO_gatherNamed_10 rfl ?_
    refine ab_aload_n d_MO_gatherNamed_12 rfl ?_
    refine ab_getf (fs := mof m_thrown m_taped m_length m_out m_wide m_gathered m_sets m_ranges m_nodes m_at m_flags m_fault m_place m_numbered m_depth m_value m_isNot m_least0 m_most0 m_slot m_work m_got m_rowMany m_charAt m_charWide m_trail m_isMatch m_matchGroups m_allFrom m_allBefore m_founds m_pieces m_writtenMany m_templateWide m_tooMuch) f_MO_7 d_MO_gatherNamed_13 h80.2.2 rfl ?_
    refine ab_iload_n d_MO_gatherNamed_16 rfl ?_
    refine zz_iconst d_MO_gatherNamed_17 ?_
    refine zz_iadd d_MO_gatherNamed_18 ?_
    refine zz_iald d_MO_gatherNamed_19 h81 (by omega) ?_
    have hq1 := tbA_in (w + 1) (by omega) (by omega)
    refine zz_icmp_ge (tgt := 93) d_MO_gatherNamed_20 (by decide) (by omega) (by omega) (fun c2 => ?_) (fun c2 => ?_)
    · refine ab_less (L' := [some (vR 80), some (vz w), some (vz nt), some (vz nx), none]) (fun i v h => by rcases i with _ | _ | _ | _ | _ | i <;> first | exact h | (simp at h)) ?_
      exact hk0 _ _ _ _ _ P h80 h87 h88 (by omega) (by exact jc) (by exact jl) (by have t_ := jx; rw [show u = tbH (w + 1) by omega] at t_; exact t_) hfr hlen hsl
    · have htl_ := tbT_le u (by omega) (by omega)
      have hti_ := tbT_in (2 * u) (by omega) (by omega)
      have htj_ := tbT_in (2 * u + 1) (by omega) (by omega)
      refine ab_iload_n d_MO_gatherNamed_23 rfl ?_
      refine zz_if_ne (tgt := 50) d_MO_gatherNamed_24 (by decide) (by omega) (fun c3 => ?_) (fun c3 => ?_)
      · refine ab_aload_n d_MO_gatherNamed_50 rfl ?_
        refine ab_getf (fs := mof m_thrown m_taped m_length m_out m_wide m_gathered m_sets m_ranges m_nodes m_at m_flags m_fault m_place m_numbered m_depth m_value m_isNot m_least0 m_most0 m_slot m_work m_got m_rowMany m_charAt m_charWide m_trail m_isMatch m_matchGroups m_allFrom m_allBefore m_founds m_pieces m_writtenMany m_templateWide m_tooMuch) f_MO_13 d_MO_gatherNamed_51 h80.2.2 rfl ?_
        refine ab_iload d_MO_gatherNamed_54 rfl ?_
        refine zz_iald d_MO_gatherNamed_56 h82 (by omega) ?_
        have hq4 := tbT_in (2 * u) (by omega) (by omega)
        refine ab_iload_n d_MO_gatherNamed_57 rfl ?_
        refine zz_icmp_le (tgt := 75) d_MO_gatherNamed_58 (by decide) (by omega) (by omega) (fun c5 => ?_) (fun c5 => ?_)
        · refine ab_aload_n d_MO_gatherNamed_75 rfl ?_
          refine ab_getf (fs := mof m_thrown m_taped m_length m_out m_wide m_gathered m_sets m_ranges m_nodes m_at m_flags m_fault m_place m_numbered m_depth m_value m_isNot m_least0 m_most0 m_slot m_work m_got m_rowMany m_charAt m_charWide m_trail m_isMatch m_matchGroups m_allFrom m_allBefore m_founds m_pieces m_writtenMany m_templateWide m_tooMuch) f_MO_13 d_MO_gatherNamed_76 h80.2.2 rfl ?_
          refine ab_iload d_MO_gatherNamed_79 rfl ?_
          refine zz_iconst d_MO_gatherNamed_81 ?_
          refine zz_iadd d_MO_gatherNamed_82 ?_
          refine zz_iald d_MO_gatherNamed_83 h82 (by omega) ?_
          have hq6 := tbT_in ((2 * u) + 1) (by omega) (by omega)
          refine zz_iconst d_MO_gatherNamed_84 ?_
          refine zz_iadd d_MO_gatherNamed_85 ?_
          refine ab_istore_n d_MO_gatherNamed_86 (Nat.le_of_ble_eq_true rfl) (Nat.le_of_ble_eq_true rfl) rfl ?_
          change ab_W _ _ _ G 87 [some (vR 80), some (vz w), some (vz nt), some (vz ((tbT ((2 * u) + 1)) + 1)), some (vz (2 * u))] [] _
          refine zz_iinc d_MO_gatherNamed_87 rfl (Nat.le_of_ble_eq_true rfl) (Nat.le_of_ble_eq_true rfl) rfl ?_
          change ab_W _ _ _ G 90 [some (vR 80), some (vz w), some (vz nt), some (vz ((tbT ((2 * u) + 1)) + 1)), some (vz ((2 * u) + 2))] [] _
          refine ab_goto (tgt := 10) d_MO_gatherNamed_90 (by decide) ?_
          exact ih (k := ((2 * u) + 2)) (u := (u + 1)) (nx := ((tbT ((2 * u) + 1)) + 1)) (m_gathered := m_gathered) (LO := LO) (HI := HI) (P := P) h80 h87 h88 h81 h82 (by omega) (by omega) jc (lfc_w jl (by omega)) (gnI_c (by omega) (by omega) jx (by omega) (by omega)) hfr hlen hsl (by omega) hk0
        · refine ab_aload_n d_MO_gatherNamed_61 rfl ?_
          refine ab_iload_n d_MO_gatherNamed_62 rfl ?_
          refine ab_aload_n d_MO_gatherNamed_63 rfl ?_
          refine ab_getf (fs := mof m_thrown m_taped m_length m_out m_wide m_gathered m_sets m_ranges m_nodes m_at m_flags m_fault m_place m_numbered m_depth m_value m_isNot m_least0 m_most0 m_slot m_work m_got m_rowMany m_charAt m_charWide m_trail m_isMatch m_matchGroups m_allFrom m_allBefore m_founds m_pieces m_writtenMany m_templateWide m_tooMuch) f_MO_13 d_MO_gatherNamed_64 h80.2.2 rfl ?_
          refine ab_iload d_MO_gatherNamed_67 rfl ?_
          refine zz_iald d_MO_gatherNamed_69 h82 (by omega) ?_
          have hq7 := tbT_in (2 * u) (by omega) (by omega)
          refine zz_iconst d_MO_gatherNamed_70 ?_
          refine zz_isub d_MO_gatherNamed_71 ?_
          refine ab_callV (d' := d - 1) (as := [vz nx, vz ((tbT (2 * u)) - 1)]) (st := []) (r := _) (z_MO_gather (o := o) (m_thrown := m_thrown) (m_taped := m_taped) (m_length := m_length) (m_out := m_out) (m_wide := m_wide) (m_gathered := m_gathered) (m_sets := m_sets) (m_ranges := m_ranges) (m_nodes := m_nodes) (m_at := m_at) (m_flags := m_flags) (m_fault := m_fault) (m_place := m_place) (m_numbered := m_numbered) (m_depth := m_depth) (m_value := m_value) (m_isNot := m_isNot) (m_least0 := m_least0) (m_most0 := m_most0) (m_slot := m_slot) (m_work := m_work) (m_got := m_got) (m_rowMany := m_rowMany) (m_charAt := m_charAt) (m_charWide := m_charWide) (m_trail := m_trail) (m_isMatch := m_isMatch) (m_matchGroups := m_matchGroups) (m_allFrom := m_allFrom) (m_allBefore := m_allBefore) (m_founds := m_founds) (m_pieces := m_pieces) (m_writtenMany := m_writtenMany) (m_templateWide := m_templateWide) (m_tooMuch := m_tooMuch) (LO := LO) (HI := HI) (a := nx) (b := ((tbT (2 * u)) - 1)) h80 h87 h88 (by omega) (by omega)) (fun oc G2 h => by rcases h with ⟨h, _⟩ <;> exact ⟨_, h⟩) (by omega) m_MO_gather ml_MO_240 im_MO_gather se_MO_gather c_MO h80.2.2 (Nat.le_of_ble_eq_true rfl) d_MO_gatherNamed_72 rfl ?_
          intro v G8 hq
          rcases hq with ⟨hv, hfk, hlk, hsk, hN80, hN87, hN88⟩
          cases hv
          have h81 := hfk.get h81 (by decide)
          have h82 := hfk.get h82 (by decide)
          have hfr := hfr.tr hfk (by decide)
          have hlen := hlk.trans hlen
          have hsl := hsk.trans hsl
          have h80 := hN80
          have h87 := hN87
          have h88 := hN88
          change ab_W _ _ _ G8 75 [some (vR 80), some (vz w), some (vz nt), some (vz nx), some (vz (2 * u))] [] _
          refine ab_aload_n d_MO_gatherNamed_75 rfl ?_
          refine ab_getf (fs := mof m_thrown m_taped m_length m_out m_wide (m_gathered + 1) m_sets m_ranges m_nodes m_at m_flags m_fault m_place m_numbered m_depth m_value m_isNot m_least0 m_most0 m_slot m_work m_got m_rowMany m_charAt m_charWide m_trail m_isMatch m_matchGroups m_allFrom m_allBefore m_founds m_pieces m_writtenMany m_templateWide m_tooMuch) f_MO_13 d_MO_gatherNamed_76 h80.2.2 rfl ?_
          refine ab_iload d_MO_gatherNamed_79 rfl ?_
          refine zz_iconst d_MO_gatherNamed_81 ?_
          refine zz_iadd d_MO_gatherNamed_82 ?_
          refine zz_iald d_MO_gatherNamed_83 h82 (by omega) ?_
          have hq9 := tbT_in ((2 * u) + 1) (by omega) (by omega)
          refine zz_iconst d_MO_gatherNamed_84 ?_
          refine zz_iadd d_MO_gatherNamed_85 ?_
          refine ab_istore_n d_MO_gatherNamed_86 (Nat.le_of_ble_eq_true rfl) (Nat.le_of_ble_eq_true rfl) rfl ?_
          change ab_W _ _ _ G8 87 [some (vR 80), some (vz w), some (vz nt), some (vz ((tbT ((2 * u) + 1)) + 1)), some (vz (2 * u))] [] _
          refine zz_iinc d_MO_gatherNamed_87 rfl (Nat.le_of_ble_eq_true rfl) (Nat.le_of_ble_eq_true rfl) rfl ?_
          change ab_W _ _ _ G8 90 [some (vR 80), some (vz w), some (vz nt), some (vz ((tbT ((2 * u) + 1)) + 1)), some (vz ((2 * u) + 2))] [] _
          refine ab_goto (tgt := 10) d_MO_gatherNamed_90 (by decide) ?_
          exact ih (k := ((2 * u) + 2)) (u := (u + 1)) (nx := ((tbT ((2 * u) + 1)) + 1)) (m_gathered := (m_gathered + 1)) (LO := (zu LO m_gathered nx)) (HI := (zu HI m_gathered ((tbT (2 * u)) - 1))) (P := (fun x => P x ∨ (nx ≤ x ∧ x ≤ ((tbT (2 * u)) - 1)))) h80 h87 h88 h81 h82 (by omega) (by omega) (clsI_g jc (by omega) (by omega)) (lfc_w (lfc_or jl (lfc_iv _ _)) (by omega)) (gnI_b (by omega) (by omega) jx (by omega)) hfr hlen hsl (by omega) hk0
      · refine ab_aload_n d_MO_gatherNamed_27 rfl ?_
        refine ab_aload_n d_MO_gatherNamed_28 rfl ?_
        refine ab_getf (fs := mof m_thrown m_taped m_length m_out m_wide m_gathered m_sets m_ranges m_nodes m_at m_flags m_fault m_place m_numbered m_depth m_value m_isNot m_least0 m_most0 m_slot m_work m_got m_rowMany m_charAt m_charWide m_trail m_isMatch m_matchGroups m_allFrom m_allBefore m_founds m_pieces m_writtenMany m_templateWide m_tooMuch) f_MO_13 d_MO_gatherNamed_29 h80.2.2 rfl ?_
        refine ab_iload d_MO_gatherNamed_32 rfl ?_
        refine zz_iald d_MO_gatherNamed_34 h82 (by omega) ?_
        have hq10 := tbT_in (2 * u) (by omega) (by omega)
        refine ab_aload_n d_MO_gatherNamed_35 rfl ?_
        refine ab_getf (fs := mof m_thrown m_taped m_length m_out m_wide m_gathered m_sets m_ranges m_nodes m_at m_flags m_fault m_place m_numbered m_depth m_value m_isNot m_least0 m_most0 m_slot m_work m_got m_rowMany m_charAt m_charWide m_trail m_isMatch m_matchGroups m_allFrom m_allBefore m_founds m_pieces m_writtenMany m_templateWide m_tooMuch) f_MO_13 d_MO_gatherNamed_36 h80.2.2 rfl ?_
        refine ab_iload d_MO_gatherNamed_39 rfl ?_
        refine zz_iconst d_MO_gatherNamed_41 ?_
        refine zz_iadd d_MO_gatherNamed_42 ?_
        refine zz_iald d_MO_gatherNamed_43 h82 (by omega) ?_
        have hq11 := tbT_in ((2 * u) + 1) (by omega) (by omega)
        refine ab_callV (d' := d - 1) (as := [vz (tbT (2 * u)), vz (tbT ((2 * u) + 1))]) (st := []) (r := _) (z_MO_gather (o := o) (m_thrown := m_thrown) (m_taped := m_taped) (m_length := m_length) (m_out := m_out) (m_wide := m_wide) (m_gathered := m_gathered) (m_sets := m_sets) (m_ranges := m_ranges) (m_nodes := m_nodes) (m_at := m_at) (m_flags := m_flags) (m_fault := m_fault) (m_place := m_place) (m_numbered := m_numbered) (m_depth := m_depth) (m_value := m_value) (m_isNot := m_isNot) (m_least0 := m_least0) (m_most0 := m_most0) (m_slot := m_slot) (m_work := m_work) (m_got := m_got) (m_rowMany := m_rowMany) (m_charAt := m_charAt) (m_charWide := m_charWide) (m_trail := m_trail) (m_isMatch := m_isMatch) (m_matchGroups := m_matchGroups) (m_allFrom := m_allFrom) (m_allBefore := m_allBefore) (m_founds := m_founds) (m_pieces := m_pieces) (m_writtenMany := m_writtenMany) (m_templateWide := m_templateWide) (m_tooMuch := m_tooMuch) (LO := LO) (HI := HI) (a := (tbT (2 * u))) (b := (tbT ((2 * u) + 1))) h80 h87 h88 (by omega) (by omega)) (fun oc G2 h => by rcases h with ⟨h, _⟩ <;> exact ⟨_, h⟩) (by omega) m_MO_gather ml_MO_240 im_MO_gather se_MO_gather c_MO h80.2.2 (Nat.le_of_ble_eq_true rfl) d_MO_gatherNamed_44 rfl ?_
        intro v G12 hq
        rcases hq with ⟨hv, hfk, hlk, hsk, hN80, hN87, hN88⟩
        cases hv
        have h81 := hfk.get h81 (by decide)
        have h82 := hfk.get h82 (by decide)
        have hfr := hfr.tr hfk (by decide)
        have hlen := hlk.trans hlen
        have hsl := hsk.trans hsl
        have h80 := hN80
        have h87 := hN87
        have h88 := hN88
        change ab_W _ _ _ G12 47 [some (vR 80), some (vz w), some (vz nt), some (vz nx), some (vz (2 * u))] [] _
        refine ab_goto (tgt := 75) d_MO_gatherNamed_47 (by decide) ?_
        refine ab_aload_n d_MO_gatherNamed_75 rfl ?_
        refine ab_getf (fs := mof m_thrown m_taped m_length m_out m_wide (m_gathered + 1) m_sets m_ranges m_nodes m_at m_flags m_fault m_place m_numbered m_depth m_value m_isNot m_least0 m_most0 m_slot m_work m_got m_rowMany m_charAt m_charWide m_trail m_isMatch m_matchGroups m_allFrom m_allBefore m_founds m_pieces m_writtenMany m_templateWide m_tooMuch) f_MO_13 d_MO_gatherNamed_76 h80.2.2 rfl ?_
        refine ab_iload d_MO_gatherNamed_79 rfl ?_
        refine zz_iconst d_MO_gatherNamed_81 ?_
        refine zz_iadd d_MO_gatherNamed_82 ?_
        refine zz_iald d_MO_gatherNamed_83 h82 (by omega) ?_
        have hq13 := tbT_in ((2 * u) + 1) (by omega) (by omega)
        refine zz_iconst d_MO_gatherNamed_84 ?_
        refine zz_iadd d_MO_gatherNamed_85 ?_
        refine ab_istore_n d_MO_gatherNamed_86 (Nat.le_of_ble_eq_true rfl) (Nat.le_of_ble_eq_true rfl) rfl ?_
        change ab_W _ _ _ G12 87 [some (vR 80), some (vz w), some (vz nt), some (vz ((tbT ((2 * u) + 1)) + 1)), some (vz (2 * u))] [] _
        refine zz_iinc d_MO_gatherNamed_87 rfl (Nat.le_of_ble_eq_true rfl) (Nat.le_of_ble_eq_true rfl) rfl ?_
        change ab_W _ _ _ G12 90 [some (vR 80), some (vz w), some (vz nt), some (vz ((tbT ((2 * u) + 1)) + 1)), some (vz ((2 * u) + 2))] [] _
        refine ab_goto (tgt := 10) d_MO_gatherNamed_90 (by decide) ?_
        exact ih (k := ((2 * u) + 2)) (u := (u + 1)) (nx := ((tbT ((2 * u) + 1)) + 1)) (m_gathered := (m_gathered + 1)) (LO := (zu LO m_gathered (tbT (2 * u)))) (HI := (zu HI m_gathered (tbT ((2 * u) + 1)))) (P := (fun x => P x ∨ ((tbT (2 * u)) ≤ x ∧ x ≤ (tbT ((2 * u) + 1))))) h80 h87 h88 h81 h82 (by omega) (by omega) (clsI_g jc (by omega) (by omega)) (lfc_w (lfc_or jl (lfc_iv _ _)) (by omega)) (gnI_a (by omega) (by omega) jx (by omega)) hfr hlen hsl (by omega) hk0
set_option maxRecDepth 100000 in
set_option maxHeartbeats 4000000 in
theorem z_MO_gatherNamed {X : ab_X} {d : Nat} {o : Nat → Nat} {G : ab_G} {m_thrown : Int} {m_taped : Int} {m_length : Int} {m_out : Int} {m_wide : Int} {m_gathered : Int} {m_sets : Int} {m_ranges : Int} {m_nodes : Int} {m_at : Int} {m_flags : Int} {m_fault : Int} {m_place : Int} {m_numbered : Int} {m_depth : Int} {m_value : Int} {m_isNot : Int} {m_least0 : Int} {m_most0 : Int} {m_slot : Int} {m_work : Int} {m_got : Int} {m_rowMany : Int} {m_charAt : Int} {m_charWide : Int} {m_trail : Int} {m_isMatch : Int} {m_matchGroups : Int} {m_allFrom : Int} {m_allBefore : Int} {m_founds : Int} {m_pieces : Int} {m_writtenMany : Int} {m_templateWide : Int} {m_tooMuch : Int} {LO : Int → Int} {HI : Int → Int} {MK : Int → Int} {P : Int → Prop} {x : Int} {w : Int} {nt : Int} {mm : Int} (h80 : cc o G 80 280 (ab_ob 12 (mof m_thrown m_taped m_length m_out m_wide m_gathered m_sets m_ranges m_nodes m_at m_flags m_fault m_place m_numbered m_depth m_value m_isNot m_least0 m_most0 m_slot m_work m_got m_rowMany m_charAt m_charWide m_trail m_isMatch m_matchGroups m_allFrom m_allBefore m_founds m_pieces m_writtenMany m_templateWide m_tooMuch))) (h87 : cc o G 87 287 (za 9000 LO)) (h88 : cc o G 88 288 (za 9000 HI)) (h81 : cc o G 81 281 (za 13 tbA)) (h82 : cc o G 82 282 (za 66 tbT)) (n18 : ab_n0 = 18) (cw : 0 ≤ w ∧ w < 12 ∧ 0 ≤ nt ∧ nt ≤ 1 ∧ 0 ≤ m_gathered ∧ m_gathered ≤ 8000) (jc : clsI LO HI m_gathered MK P) (jl : lfc P mm) (hd : 2 ≤ d) : ab_F X d y_MO_gatherNamed (.code y_MO_gatherNamed b_MO_gatherNamed 5 none) [vR 80, vz w, vz nt] G (fun oc G2 => ∃ g2 : Int, ∃ LO2 : Int → Int, ∃ HI2 : Int → Int, ∃ P2 : Int → Prop, oc = .returned none ∧ fx o o [280, 287, 288] G G2 ∧ G2.length = G.length ∧ ab_slots G2 = ab_slots G ∧ cc o G2 80 280 (ab_ob 12 (mof m_thrown m_taped m_length m_out m_wide g2 m_sets m_ranges m_nodes m_at m_flags m_fault m_place m_numbered m_depth m_value m_isNot m_least0 m_most0 m_slot m_work m_got m_rowMany m_charAt m_charWide m_trail m_isMatch m_matchGroups m_allFrom m_allBefore m_founds m_pieces m_writtenMany m_templateWide m_tooMuch)) ∧ cc o G2 87 287 (za 9000 LO2) ∧ cc o G2 88 288 (za 9000 HI2) ∧ (m_gathered ≤ g2 ∧ g2 ≤ m_gathered + 10) ∧ (w ≤ 2 → g2 ≤ m_gathered + 5) ∧ (clsI LO2 HI2 g2 MK P2) ∧ (lfc P2 (mm + g2 - m_gathered)) ∧ (∀ x : Int, P2 x ↔ P x ∨ kmN w nt x)) := by
  refine ab_F_of (by decide +kernel) (Nat.le_of_ble_eq_true rfl) ?_
  obtain ⟨Q, hQ⟩ : ∃ z : Outcome → ab_G → Prop, z = (fun oc G2 => ∃ g2 : Int, ∃ LO2 : Int → Int, ∃ HI2 : Int → Int, ∃ P2 : Int → Prop, oc = .returned none ∧ fx o o [280, 287, 288] G G2 ∧ G2.length = G.length ∧ ab_slots G2 = ab_slots G ∧ cc o G2 80 280 (ab_ob 12 (mof m_thrown m_taped m_length m_out m_wide g2 m_sets m_ranges m_nodes m_at m_flags m_fault m_place m_numbered m_depth m_value m_isNot m_least0 m_most0 m_slot m_work m_got m_rowMany m_charAt m_charWide m_trail m_isMatch m_matchGroups m_allFrom m_allBefore m_founds m_pieces m_writtenMany m_templateWide m_tooMuch)) ∧ cc o G2 87 287 (za 9000 LO2) ∧ cc o G2 88 288 (za 9000 HI2) ∧ (m_gathered ≤ g2 ∧ g2 ≤ m_gathered + 10) ∧ (w ≤ 2 → g2 ≤ m_gathered + 5) ∧ (clsI LO2 HI2 g2 MK P2) ∧ (lfc P2 (mm + g2 - m_gathered)) ∧ (∀ x : Int, P2 x ↔ P x ∨ kmN w nt x)) := ⟨_, rfl⟩
  rw [← hQ]
  change ab_W X (ab_pl y_MO_gatherNamed b_MO_gatherNamed 5 none) d G 0 [some (vR 80), some (vz w), some (vz nt), none, none] [] Q
  have hfr : fx o o [280, 287, 288] G G := fx.rf
  have hlen : G.length = G.length := rfl
  have hsl : ab_slots G = ab_slots G := rfl
  refine zz_iconst d_MO_gatherNamed_0 ?_
  refine ab_istore_n d_MO_gatherNamed_1 (Nat.le_of_ble_eq_true rfl) (Nat.le_of_ble_eq_true rfl) rfl ?_
  change ab_W _ _ _ G 2 [some (vR 80), some (vz w), some (vz nt), some (vz 0), none] [] _
  have htb_ := tbH_v w (by omega) (by omega)
  have htc_ : w ≤ 2 → tbH (w + 1) ≤ tbH w + 4 := htb_.2.2.2.2.2.2
  refine ab_aload_n d_MO_gatherNamed_2 rfl ?_
  refine ab_getf (fs := mof m_thrown m_taped m_length m_out m_wide m_gathered m_sets m_ranges m_nodes m_at m_flags m_fault m_place m_numbered m_depth m_value m_isNot m_least0 m_most0 m_slot m_work m_got m_rowMany m_charAt m_charWide m_trail m_isMatch m_matchGroups m_allFrom m_allBefore m_founds m_pieces m_writtenMany m_templateWide m_tooMuch) f_MO_7 d_MO_gatherNamed_3 h80.2.2 rfl ?_
  refine ab_iload_n d_MO_gatherNamed_6 rfl ?_
  refine zz_iald d_MO_gatherNamed_7 h81 (by omega) ?_
  have hq1 := tbA_in w (by omega) (by omega)
  refine ab_istore d_MO_gatherNamed_8 (Nat.le_of_ble_eq_true rfl) (Nat.le_of_ble_eq_true rfl) rfl ?_
  change ab_W _ _ _ G 10 [some (vR 80), some (vz w), some (vz nt), some (vz 0), some (vz (tbA w))] [] _
  refine y_MO_gatherNamed_10 (m_thrown := m_thrown) (m_taped := m_taped) (m_length := m_length) (m_out := m_out) (m_wide := m_wide) (m_sets := m_sets) (m_ranges := m_ranges) (m_nodes := m_nodes) (m_at := m_at) (m_flags := m_flags) (m_fault := m_fault) (m_place := m_place) (m_numbered := m_numbered) (m_depth := m_depth) (m_value := m_value) (m_isNot := m_isNot) (m_least0 := m_least0) (m_most0 := m_most0) (m_slot := m_slot) (m_work := m_work) (m_got := m_got) (m_rowMany := m_rowMany) (m_charAt := m_charAt) (m_charWide := m_charWide) (m_trail := m_trail) (m_isMatch := m_isMatch) (m_matchGroups := m_matchGroups) (m_allFrom := m_allFrom) (m_allBefore := m_allBefore) (m_founds := m_founds) (m_pieces := m_pieces) (m_writtenMany := m_writtenMany) (m_templateWide := m_templateWide) (m_tooMuch := m_tooMuch) (w := w) (nt := nt) (g0 := m_gathered) (m0 := mm) (P0 := P) (G0 := G) (k := (tbA w)) (u := (tbH w)) (nx := 0) (m_gathered := m_gathered) (LO := LO) (HI := HI) (P := P) (by omega) (by omega) (by omega) (Int.toNat (tbH (w + 1) - (tbH w)) + 1) h80 h87 h88 h81 h82 (by omega) (by omega) jc (lfc_w jl (by omega)) (gnI_0 (by omega)) fx.rf rfl rfl (by omega) (fun G2 g23 nx24 LO25 HI26 P27 hN80 hN87 hN88 hq8 hq9 hq10 hq11 hfk hlk hsk => ?_)
  · have h81 := hfk.get h81 (by decide)
    have h82 := hfk.get h82 (by decide)
    have hfr := hfr.tr hfk (by decide)
    have hlen := hlk.trans hlen
    have hsl := hsk.trans hsl
    have h80 := hN80
    have h87 := hN87
    have h88 := hN88
    change ab_W _ _ _ G2 93 [some (vR 80), some (vz w), some (vz nt), some (vz nx24), none] [] _
    refine ab_iload_n d_MO_gatherNamed_93 rfl ?_
    refine zz_if_eq (tgt := 104) d_MO_gatherNamed_94 (by decide) (by omega) (fun c12 => ?_) (fun c12 => ?_)
    · refine ab_vret rfl d_MO_gatherNamed_104 ?_
      rw [hQ]; exact ⟨_, _, _, P27, rfl, hfr, hlen, hsl, h80, h87, h88, (by omega), (by intro hw_; have := htc_ hw_; omega), (by exact hq9), (by exact lfc_w hq10 (by omega)), (by exact gnI_e0 hq11 rfl (by omega))⟩
    · refine ab_aload_n d_MO_gatherNamed_97 rfl ?_
      refine ab_iload_n d_MO_gatherNamed_98 rfl ?_
      refine zz_ldc 1114111 d_MO_gatherNamed_99 cn_MO_236 (by decide) ?_
      refine ab_callV (d' := d - 1) (as := [vz nx24, vz 1114111]) (st := []) (r := _) (z_MO_gather (o := o) (m_thrown := m_thrown) (m_taped := m_taped) (m_length := m_length) (m_out := m_out) (m_wide := m_wide) (m_gathered := g23) (m_sets := m_sets) (m_ranges := m_ranges) (m_nodes := m_nodes) (m_at := m_at) (m_flags := m_flags) (m_fault := m_fault) (m_place := m_place) (m_numbered := m_numbered) (m_depth := m_depth) (m_value := m_value) (m_isNot := m_isNot) (m_least0 := m_least0) (m_most0 := m_most0) (m_slot := m_slot) (m_work := m_work) (m_got := m_got) (m_rowMany := m_rowMany) (m_charAt := m_charAt) (m_charWide := m_charWide) (m_trail := m_trail) (m_isMatch := m_isMatch) (m_matchGroups := m_matchGroups) (m_allFrom := m_allFrom) (m_allBefore := m_allBefore) (m_founds := m_founds) (m_pieces := m_pieces) (m_writtenMany := m_writtenMany) (m_templateWide := m_templateWide) (m_tooMuch := m_tooMuch) (LO := LO25) (HI := HI26) (a := nx24) (b := 1114111) h80 h87 h88 (by omega) (by omega)) (fun oc G2 h => by rcases h with ⟨h, _⟩ <;> exact ⟨_, h⟩) (by omega) m_MO_gather ml_MO_240 im_MO_gather se_MO_gather c_MO h80.2.2 (Nat.le_of_ble_eq_true rfl) d_MO_gatherNamed_101 rfl ?_
      intro v G13 hq
      rcases hq with ⟨hv, hfk, hlk, hsk, hN80, hN87, hN88⟩
      cases hv
      have h81 := hfk.get h81 (by decide)
      have h82 := hfk.get h82 (by decide)
      have hfr := hfr.tr hfk (by decide)
      have hlen := hlk.trans hlen
      have hsl := hsk.trans hsl
      have h80 := hN80
      have h87 := hN87
      have h88 := hN88
      change ab_W _ _ _ G13 104 [some (vR 80), some (vz w), some (vz nt), some (vz nx24), none] [] _
      refine ab_vret rfl d_MO_gatherNamed_104 ?_
      rw [hQ]; exact ⟨_, _, _, (fun x => P27 x ∨ (nx24 ≤ x ∧ x ≤ 1114111)), rfl, hfr, hlen, hsl, h80, h87, h88, (by omega), (by intro hw_; have := htc_ hw_; omega), (by exact clsI_g hq9 (by omega) (by omega)), (by exact lfc_w (lfc_or hq10 (lfc_iv _ _)) (by omega)), (by exact gnI_e1 hq11 rfl (by omega) (by omega))⟩
