set_option maxRecDepth 100000 in
set_option maxHeartbeats 4000000 in
theorem z_MK_mark {X : ab_X} {d : Nat} {o : Nat → Nat} {G : ab_G} {q : Nat} {s : Nat} {n : Int} {a : Nat} {sp : Nat} {wk : Nat} {mk : Nat} {stk : Nat} {w : Int} {df : Int} {dp : Int} {fo : Int} {fy : Int} {hw : Int} {stp : Int} {M : Int → Int} {nm : Nat} {x : Int} {p : Int} (ha : cc o G a 44 (ab_ob 2 [vR sp, vR wk, vR mk, vz w, vz df, vR stk, vz dp, vz fo, vz fy, vz hw, vR q, vR s, vj stp])) (hmk : cc o G mk 46 (za nm M)) (cw : 1 ≤ w ∧ w ≤ 26) (cm : (n + 1) * w ≤ ↑nm ∧ ↑nm ≤ (52026 : Int)) (cd : 0 ≤ df ∧ df ≤ n + 1) (cx : 0 ≤ x ∧ x < 32 * w ∧ 0 ≤ p ∧ p ≤ n ∧ n ≤ 2000) (hd : 2 ≤ d) : ab_F X d y_MK_mark (.code y_MK_mark b_MK_mark 6 (some (.boolean))) [vR a, vz x, vz p] G (fun oc G2 => (∃ df2 : Int, ∃ M2 : Int → Int, oc = .returned (some (vz 1)) ∧ fx o o [44, 46] G G2 ∧ G2.length = G.length ∧ ab_slots G2 = ab_slots G ∧ cc o G2 a 44 (ab_ob 2 [vR sp, vR wk, vR mk, vz w, vz df2, vR stk, vz dp, vz fo, vz fy, vz hw, vR q, vR s, vj (stp + 1)]) ∧ cc o G2 mk 46 (za nm M2) ∧ (df ≤ df2 ∧ p < df2 ∧ df2 ≤ n + 1) ∧ (¬ eff M w df x p) ∧ (mkE M w df M2 df2 x p) ∧ (ucn M2 w df2 n + 1 = ucn M w df n)) ∨ (∃ df2 : Int, ∃ M2 : Int → Int, oc = .returned (some (vz 0)) ∧ fx o o [44, 46] G G2 ∧ G2.length = G.length ∧ ab_slots G2 = ab_slots G ∧ cc o G2 a 44 (ab_ob 2 [vR sp, vR wk, vR mk, vz w, vz df2, vR stk, vz dp, vz fo, vz fy, vz hw, vR q, vR s, vj (stp + 1)]) ∧ cc o G2 mk 46 (za nm M2) ∧ (df ≤ df2 ∧ p < df2 ∧ df2 ≤ n + 1) ∧ (eff M w df x p) ∧ (mkE M w df M2 df2 x p) ∧ (ucn M2 w df2 n = ucn M w df n))) := by
  refine ab_F_of (by decide +kernel) (Nat.le_of_ble_eq_true rfl) ?_
  obtain ⟨Q, hQ⟩ : ∃ z : Outcome → ab_G → Prop, z = (fun oc G2 => (∃ df2 : Int, ∃ M2 : Int → Int, oc = .returned (some (vz 1)) ∧ fx o o [44, 46] G G2 ∧ G2.length = G.length ∧ ab_slots G2 = ab_slots G ∧ cc o G2 a 44 (ab_ob 2 [vR sp, vR wk, vR mk, vz w, vz df2, vR stk, vz dp, vz fo, vz fy, vz hw, vR q, vR s, vj (stp + 1)]) ∧ cc o G2 mk 46 (za nm M2) ∧ (df ≤ df2 ∧ p < df2 ∧ df2 ≤ n + 1) ∧ (¬ eff M w df x p) ∧ (mkE M w df M2 df2 x p) ∧ (ucn M2 w df2 n + 1 = ucn M w df n)) ∨ (∃ df2 : Int, ∃ M2 : Int → Int, oc = .returned (some (vz 0)) ∧ fx o o [44, 46] G G2 ∧ G2.length = G.length ∧ ab_slots G2 = ab_slots G ∧ cc o G2 a 44 (ab_ob 2 [vR sp, vR wk, vR mk, vz w, vz df2, vR stk, vz dp, vz fo, vz fy, vz hw, vR q, vR s, vj (stp + 1)]) ∧ cc o G2 mk 46 (za nm M2) ∧ (df ≤ df2 ∧ p < df2 ∧ df2 ≤ n + 1) ∧ (eff M w df x p) ∧ (mkE M w df M2 df2 x p) ∧ (ucn M2 w df2 n = ucn M w df n))) := ⟨_, rfl⟩
  rw [← hQ]
  change ab_W X (ab_pl y_MK_mark b_MK_mark 6 (some (.boolean))) d G 0 [some (vR a), some (vz x), some (vz p), none, none, none] [] Q
  have hfr : fx o o [44, 46] G G := fx.rf
  have hlen : G.length = G.length := rfl
  have hsl : ab_slots G = ab_slots G := rfl
  refine ab_aload_n d_MK_mark_0 rfl ?_
  refine ab_dup d_MK_mark_1 rfl ?_
  refine ab_getf (fs := [vR sp, vR wk, vR mk, vz w, vz df, vR stk, vz dp, vz fo, vz fy, vz hw, vR q, vR s, vj stp]) f_MK_143 d_MK_mark_2 ha.2.2 rfl ?_
  refine zz_lconst d_MK_mark_5 ?_
  change ab_W _ _ _ G 6 [some (vR a), some (vz x), some (vz p), none, none, none] [vj 1, vj stp, vR a] _
  refine zz_ladd d_MK_mark_6 ?_
  refine ab_putf (fs := [vR sp, vR wk, vR mk, vz w, vz df, vR stk, vz dp, vz fo, vz fy, vz hw, vR q, vR s, vj stp]) f_MK_143 (Or.inl rfl) d_MK_mark_7 ha.2.2 (Nat.le_of_ble_eq_true rfl) (fun _ => ⟨rfl, rfl⟩) (ha.2.1 (by decide)) ?_
  obtain ⟨G1, eG1⟩ : ∃ z : ab_G, z = List.set G a (ab_ob 2 [vR sp, vR wk, vR mk, vz w, vz df, vR stk, vz dp, vz fo, vz fy, vz hw, vR q, vR s, vj (stp + 1)]) := ⟨_, rfl⟩
  have hmk := hmk.keep ha eG1 (by decide)
  have hlen := (z_len eG1).trans hlen
  have hsl := (z_sl ha eG1 rfl).trans hsl
  have hfr := hfr.wr ha eG1 (by decide)
  have ha := ha.kept eG1
  change ab_W _ _ _ (List.set G a (ab_ob 2 [vR sp, vR wk, vR mk, vz w, vz df, vR stk, vz dp, vz fo, vz fy, vz hw, vR q, vR s, vj (stp + 1)])) 10 [some (vR a), some (vz x), some (vz p), none, none, none] [] _
  rw [← eG1]
  refine ab_iload_n d_MK_mark_10 rfl ?_
  refine ab_aload_n d_MK_mark_11 rfl ?_
  refine ab_getf (fs := [vR sp, vR wk, vR mk, vz w, vz df, vR stk, vz dp, vz fo, vz fy, vz hw, vR q, vR s, vj (stp + 1)]) f_MK_52 d_MK_mark_12 ha.2.2 rfl ?_
  refine zz_icmp_lt (tgt := 50) d_MK_mark_15 (by decide) (by omega) (by omega) (fun c2 => ?_) (fun c2 => ?_)
  · refine ab_iload_n d_MK_mark_50 rfl ?_
    refine ab_aload_n d_MK_mark_51 rfl ?_
    refine ab_getf (fs := [vR sp, vR wk, vR mk, vz w, vz df, vR stk, vz dp, vz fo, vz fy, vz hw, vR q, vR s, vj (stp + 1)]) f_MK_49 d_MK_mark_52 ha.2.2 rfl ?_
    refine zz_imul d_MK_mark_55 ?_
    obtain ⟨v3, hv3⟩ : ∃ z : Int, z = p * w := ⟨_, rfl⟩
    rw [← hv3]
    have hv3b := z_mulb (a := p) (b := w) (A := 2001) (B := 26) (by omega) (by omega)
    rw [← hv3] at hv3b
    change ab_W _ _ _ G1 56 [some (vR a), some (vz x), some (vz p), none, none, none] [vz v3] _
    have hpn : (p + 1) * w ≤ (n + 1) * w := Int.mul_le_mul_of_nonneg_right (by omega) (by omega)
    have hpw : (p + 1) * w = p * w + w := by rw [Int.add_mul, Int.one_mul]
    refine ab_iload_n d_MK_mark_56 rfl ?_
    refine zz_iconst d_MK_mark_57 ?_
    refine zz_ishr 5 32 d_MK_mark_58 (by decide) (by decide) (by decide) (by decide) (by omega) ?_
    refine zz_iadd d_MK_mark_59 ?_
    refine ab_istore_n d_MK_mark_60 (Nat.le_of_ble_eq_true rfl) (Nat.le_of_ble_eq_true rfl) rfl ?_
    change ab_W _ _ _ G1 61 [some (vR a), some (vz x), some (vz p), some (vz (v3 + (x / 32))), none, none] [] _
    refine zz_iconst d_MK_mark_61 ?_
    refine ab_iload_n d_MK_mark_62 rfl ?_
    refine zz_bipush d_MK_mark_63 (by decide) ?_
    refine zz_iand 5 32 d_MK_mark_65 (by decide) (by decide) (by decide) (by decide) ?_
    refine zz_shl1 d_MK_mark_66 (by omega) ?_
    refine ab_istore d_MK_mark_67 (Nat.le_of_ble_eq_true rfl) (Nat.le_of_ble_eq_true rfl) rfl ?_
    change ab_W _ _ _ G1 69 [some (vR a), some (vz x), some (vz p), some (vz (v3 + (x / 32))), some (vz (tw (x % 32))), none] [] _
    refine ab_aload_n d_MK_mark_69 rfl ?_
    refine ab_getf (fs := [vR sp, vR wk, vR mk, vz w, vz df, vR stk, vz dp, vz fo, vz fy, vz hw, vR q, vR s, vj (stp + 1)]) f_MK_18 d_MK_mark_70 ha.2.2 rfl ?_
    refine ab_iload_n d_MK_mark_73 rfl ?_
    refine zz_iald d_MK_mark_74 hmk (by omega) ?_
    refine ab_iload d_MK_mark_75 rfl ?_
    refine zz_iandtw d_MK_mark_77 (by omega) (fun hbt => ?_) (fun hbt => ?_)
    · refine zz_if_ne (tgt := 85) d_MK_mark_78 (by decide) (tw_in _) (fun c => ?_) (fun c => absurd c (tw_nz (by omega)))
      refine zz_iconst d_MK_mark_85 ?_
      refine ab_istore d_MK_mark_86 (Nat.le_of_ble_eq_true rfl) (Nat.le_of_ble_eq_true rfl) rfl ?_
      change ab_W _ _ _ G1 88 [some (vR a), some (vz x), some (vz p), some (vz (v3 + (x / 32))), some (vz (tw (x % 32))), some (vz 0)] [] _
      refine ab_aload_n d_MK_mark_88 rfl ?_
      refine ab_getf (fs := [vR sp, vR wk, vR mk, vz w, vz df, vR stk, vz dp, vz fo, vz fy, vz hw, vR q, vR s, vj (stp + 1)]) f_MK_18 d_MK_mark_89 ha.2.2 rfl ?_
      refine ab_iload_n d_MK_mark_92 rfl ?_
      refine ab_dup2 d_MK_mark_93 rfl rfl ?_
      refine zz_iald d_MK_mark_94 hmk (by omega) ?_
      refine ab_iload d_MK_mark_95 rfl ?_
      refine zz_iortw d_MK_mark_97 ?_
      refine zz_iast d_MK_mark_98 hmk (by omega) (hmk.2.1 (by decide)) ?_
      obtain ⟨G4, eG4⟩ : ∃ z : ab_G, z = List.set G1 mk (za nm (zu M (v3 + (x / 32)) (stb (M (v3 + (x / 32))) (x % 32)))) := ⟨_, rfl⟩
      have ha := ha.keep hmk eG4 (by decide)
      have hlen := (z_len eG4).trans hlen
      have hsl := (z_sl hmk eG4 rfl).trans hsl
      have hfr := hfr.wr hmk eG4 (by decide)
      have hmk := hmk.kept eG4
      change ab_W _ _ _ (List.set G1 mk (za nm (zu M (v3 + (x / 32)) (stb (M (v3 + (x / 32))) (x % 32))))) 99 [some (vR a), some (vz x), some (vz p), some (vz (v3 + (x / 32))), some (vz (tw (x % 32))), some (vz 0)] [] _
      rw [← eG4]
      refine ab_iload d_MK_mark_99 rfl ?_
      refine zz_bret rfl (by decide) d_MK_mark_101 ?_
      rw [hQ]; exact (Or.inr ⟨_, _, rfl, hfr, hlen, hsl, ha, hmk, (by omega), (by subst hv3; exact ⟨by omega, hbt⟩), (by subst hv3; exact fun s' p' h0 h1 => mark_a (by omega) ⟨h0, h1⟩ (by omega)), (by exact ucn_0 (M := M) (w := w) (df := df) (n := n) (x := x) (p := p) cw (by subst hv3; exact ⟨by omega, hbt⟩) (by subst hv3; exact fun s' p' h0 h1 => mark_a (by omega) ⟨h0, h1⟩ (by omega)))⟩)
    · refine zz_if_ne (tgt := 85) d_MK_mark_78 (by decide) (by decide) (fun c5 => absurd c5 (by decide)) (fun c5 => ?_)
      refine zz_iconst d_MK_mark_81 ?_
      refine ab_goto (tgt := 86) d_MK_mark_82 (by decide) ?_
      refine ab_istore d_MK_mark_86 (Nat.le_of_ble_eq_true rfl) (Nat.le_of_ble_eq_true rfl) rfl ?_
      change ab_W _ _ _ G1 88 [some (vR a), some (vz x), some (vz p), some (vz (v3 + (x / 32))), some (vz (tw (x % 32))), some (vz 1)] [] _
      refine ab_aload_n d_MK_mark_88 rfl ?_
      refine ab_getf (fs := [vR sp, vR wk, vR mk, vz w, vz df, vR stk, vz dp, vz fo, vz fy, vz hw, vR q, vR s, vj (stp + 1)]) f_MK_18 d_MK_mark_89 ha.2.2 rfl ?_
      refine ab_iload_n d_MK_mark_92 rfl ?_
      refine ab_dup2 d_MK_mark_93 rfl rfl ?_
      refine zz_iald d_MK_mark_94 hmk (by omega) ?_
      refine ab_iload d_MK_mark_95 rfl ?_
      refine zz_iortw d_MK_mark_97 ?_
      refine zz_iast d_MK_mark_98 hmk (by omega) (hmk.2.1 (by decide)) ?_
      obtain ⟨G6, eG6⟩ : ∃ z : ab_G, z = List.set G1 mk (za nm (zu M (v3 + (x / 32)) (stb (M (v3 + (x / 32))) (x % 32)))) := ⟨_, rfl⟩
      have ha := ha.keep hmk eG6 (by decide)
      have hlen := (z_len eG6).trans hlen
      have hsl := (z_sl hmk eG6 rfl).trans hsl
      have hfr := hfr.wr hmk eG6 (by decide)
      have hmk := hmk.kept eG6
      change ab_W _ _ _ (List.set G1 mk (za nm (zu M (v3 + (x / 32)) (stb (M (v3 + (x / 32))) (x % 32))))) 99 [some (vR a), some (vz x), some (vz p), some (vz (v3 + (x / 32))), some (vz (tw (x % 32))), some (vz 1)] [] _
      rw [← eG6]
      refine ab_iload d_MK_mark_99 rfl ?_
      refine zz_bret rfl (by decide) d_MK_mark_101 ?_
      rw [hQ]; exact (Or.inl ⟨_, _, rfl, hfr, hlen, hsl, ha, hmk, (by omega), (by subst hv3; exact fun h => hbt h.2), (by subst hv3; exact fun s' p' h0 h1 => mark_a (by omega) ⟨h0, h1⟩ (by omega)), (by exact ucn_1 (M := M) (w := w) (df := df) (n := n) (x := x) (p := p) cw (by omega) (by omega) (by subst hv3; exact fun h => hbt h.2) (by subst hv3; exact fun s' p' h0 h1 => mark_a (by omega) ⟨h0, h1⟩ (by omega)))⟩)
  · refine ab_aload_n d_MK_mark_18 rfl ?_
    refine ab_getf (fs := [vR sp, vR wk, vR mk, vz w, vz df, vR stk, vz dp, vz fo, vz fy, vz hw, vR q, vR s, vj (stp + 1)]) f_MK_18 d_MK_mark_19 ha.2.2 rfl ?_
    refine ab_aload_n d_MK_mark_22 rfl ?_
    refine ab_getf (fs := [vR sp, vR wk, vR mk, vz w, vz df, vR stk, vz dp, vz fo, vz fy, vz hw, vR q, vR s, vj (stp + 1)]) f_MK_52 d_MK_mark_23 ha.2.2 rfl ?_
    refine ab_aload_n d_MK_mark_26 rfl ?_
    refine ab_getf (fs := [vR sp, vR wk, vR mk, vz w, vz df, vR stk, vz dp, vz fo, vz fy, vz hw, vR q, vR s, vj (stp + 1)]) f_MK_49 d_MK_mark_27 ha.2.2 rfl ?_
    refine zz_imul d_MK_mark_30 ?_
    obtain ⟨v7, hv7⟩ : ∃ z : Int, z = df * w := ⟨_, rfl⟩
    rw [← hv7]
    have hv7b := z_mulb (a := df) (b := w) (A := 2001) (B := 26) (by omega) (by omega)
    rw [← hv7] at hv7b
    change ab_W _ _ _ G1 31 [some (vR a), some (vz x), some (vz p), none, none, none] [vz v7, vR mk] _
    have hdf : df * w ≤ (p + 1) * w := Int.mul_le_mul_of_nonneg_right (by omega) (by omega)
    refine ab_iload_n d_MK_mark_31 rfl ?_
    refine zz_iconst d_MK_mark_32 ?_
    refine zz_iadd d_MK_mark_33 ?_
    refine ab_aload_n d_MK_mark_34 rfl ?_
    refine ab_getf (fs := [vR sp, vR wk, vR mk, vz w, vz df, vR stk, vz dp, vz fo, vz fy, vz hw, vR q, vR s, vj (stp + 1)]) f_MK_49 d_MK_mark_35 ha.2.2 rfl ?_
    refine zz_imul d_MK_mark_38 ?_
    obtain ⟨v8, hv8⟩ : ∃ z : Int, z = (p + 1) * w := ⟨_, rfl⟩
    rw [← hv8]
    have hv8b := z_mulb (a := (p + 1)) (b := w) (A := 2001) (B := 26) (by omega) (by omega)
    rw [← hv8] at hv8b
    change ab_W _ _ _ G1 39 [some (vR a), some (vz x), some (vz p), none, none, none] [vz v8, vz v7, vR mk] _
    have hpn : (p + 1) * w ≤ (n + 1) * w := Int.mul_le_mul_of_nonneg_right (by omega) (by omega)
    refine zz_iconst d_MK_mark_39 ?_
    refine ab_callS (d' := d - 1) (as := [vR mk, vz v7, vz v8, vz 0]) (st := []) (z_AR_fillr (o := o) (a := mk) (l := 46) (n := nm) (f := M) (v := 0) (x := v7) (y := v8) hmk (by have h18 : ab_n0 = 18 := rfl; omega) (by omega)) (fun oc G2 h => by rcases h with ⟨h, _⟩ <;> exact ⟨_, h⟩) (by omega) m_AR_fillr ml_MK_77 st_AR_fillr (Nat.le_of_ble_eq_true rfl) d_MK_mark_40 rfl ?_
    intro v G9 hq
    rcases hq with ⟨hv, hfk, hlk, hsk, hNmk⟩
    cases hv
    have ha := hfk.get ha (by decide)
    have hfr := hfr.tr hfk (by decide)
    have hlen := hlk.trans hlen
    have hsl := hsk.trans hsl
    have hmk := hNmk
    change ab_W _ _ _ G9 43 [some (vR a), some (vz x), some (vz p), none, none, none] [] _
    have hfl : (0 : Int) ≤ 0 := by decide
    refine ab_aload_n d_MK_mark_43 rfl ?_
    refine ab_iload_n d_MK_mark_44 rfl ?_
    refine zz_iconst d_MK_mark_45 ?_
    refine zz_iadd d_MK_mark_46 ?_
    refine ab_putf (fs := [vR sp, vR wk, vR mk, vz w, vz df, vR stk, vz dp, vz fo, vz fy, vz hw, vR q, vR s, vj (stp + 1)]) f_MK_52 (Or.inl rfl) d_MK_mark_47 ha.2.2 (Nat.le_of_ble_eq_true rfl) (fun _ => ⟨rfl, rfl⟩) (ha.2.1 (by decide)) ?_
    obtain ⟨G10, eG10⟩ : ∃ z : ab_G, z = List.set G9 a (ab_ob 2 [vR sp, vR wk, vR mk, vz w, vz (p + 1), vR stk, vz dp, vz fo, vz fy, vz hw, vR q, vR s, vj (stp + 1)]) := ⟨_, rfl⟩
    have hmk := hmk.keep ha eG10 (by decide)
    have hlen := (z_len eG10).trans hlen
    have hsl := (z_sl ha eG10 rfl).trans hsl
    have hfr := hfr.wr ha eG10 (by decide)
    have ha := ha.kept eG10
    change ab_W _ _ _ (List.set G9 a (ab_ob 2 [vR sp, vR wk, vR mk, vz w, vz (p + 1), vR stk, vz dp, vz fo, vz fy, vz hw, vR q, vR s, vj (stp + 1)])) 50 [some (vR a), some (vz x), some (vz p), none, none, none] [] _
    rw [← eG10]
    refine ab_iload_n d_MK_mark_50 rfl ?_
    refine ab_aload_n d_MK_mark_51 rfl ?_
    refine ab_getf (fs := [vR sp, vR wk, vR mk, vz w, vz (p + 1), vR stk, vz dp, vz fo, vz fy, vz hw, vR q, vR s, vj (stp + 1)]) f_MK_49 d_MK_mark_52 ha.2.2 rfl ?_
    refine zz_imul d_MK_mark_55 ?_
    obtain ⟨v11, hv11⟩ : ∃ z : Int, z = p * w := ⟨_, rfl⟩
    rw [← hv11]
    have hv11b := z_mulb (a := p) (b := w) (A := 2001) (B := 26) (by omega) (by omega)
    rw [← hv11] at hv11b
    change ab_W _ _ _ G10 56 [some (vR a), some (vz x), some (vz p), none, none, none] [vz v11] _
    have hpn : (p + 1) * w ≤ (n + 1) * w := Int.mul_le_mul_of_nonneg_right (by omega) (by omega)
    have hpw : (p + 1) * w = p * w + w := by rw [Int.add_mul, Int.one_mul]
    have hdp2 : df * w ≤ p * w := Int.mul_le_mul_of_nonneg_right (by omega) (by omega)
    refine ab_iload_n d_MK_mark_56 rfl ?_
    refine zz_iconst d_MK_mark_57 ?_
    refine zz_ishr 5 32 d_MK_mark_58 (by decide) (by decide) (by decide) (by decide) (by omega) ?_
    refine zz_iadd d_MK_mark_59 ?_
    refine ab_istore_n d_MK_mark_60 (Nat.le_of_ble_eq_true rfl) (Nat.le_of_ble_eq_true rfl) rfl ?_
    change ab_W _ _ _ G10 61 [some (vR a), some (vz x), some (vz p), some (vz (v11 + (x / 32))), none, none] [] _
    refine zz_iconst d_MK_mark_61 ?_
    refine ab_iload_n d_MK_mark_62 rfl ?_
    refine zz_bipush d_MK_mark_63 (by decide) ?_
    refine zz_iand 5 32 d_MK_mark_65 (by decide) (by decide) (by decide) (by decide) ?_
    refine zz_shl1 d_MK_mark_66 (by omega) ?_
    refine ab_istore d_MK_mark_67 (Nat.le_of_ble_eq_true rfl) (Nat.le_of_ble_eq_true rfl) rfl ?_
    change ab_W _ _ _ G10 69 [some (vR a), some (vz x), some (vz p), some (vz (v11 + (x / 32))), some (vz (tw (x % 32))), none] [] _
    refine ab_aload_n d_MK_mark_69 rfl ?_
    refine ab_getf (fs := [vR sp, vR wk, vR mk, vz w, vz (p + 1), vR stk, vz dp, vz fo, vz fy, vz hw, vR q, vR s, vj (stp + 1)]) f_MK_18 d_MK_mark_70 ha.2.2 rfl ?_
    refine ab_iload_n d_MK_mark_73 rfl ?_
    refine zz_iald d_MK_mark_74 hmk (by omega) ?_
    refine ab_iload d_MK_mark_75 rfl ?_
    refine zz_iandtw d_MK_mark_77 (by omega) (fun hbt => ?_) (fun hbt => ?_)
    · refine zz_if_ne (tgt := 85) d_MK_mark_78 (by decide) (tw_in _) (fun c => ?_) (fun c => absurd c (tw_nz (by omega)))
      refine zz_iconst d_MK_mark_85 ?_
      refine ab_istore d_MK_mark_86 (Nat.le_of_ble_eq_true rfl) (Nat.le_of_ble_eq_true rfl) rfl ?_
      change ab_W _ _ _ G10 88 [some (vR a), some (vz x), some (vz p), some (vz (v11 + (x / 32))), some (vz (tw (x % 32))), some (vz 0)] [] _
      refine ab_aload_n d_MK_mark_88 rfl ?_
      refine ab_getf (fs := [vR sp, vR wk, vR mk, vz w, vz (p + 1), vR stk, vz dp, vz fo, vz fy, vz hw, vR q, vR s, vj (stp + 1)]) f_MK_18 d_MK_mark_89 ha.2.2 rfl ?_
      refine ab_iload_n d_MK_mark_92 rfl ?_
      refine ab_dup2 d_MK_mark_93 rfl rfl ?_
      refine zz_iald d_MK_mark_94 hmk (by omega) ?_
      refine ab_iload d_MK_mark_95 rfl ?_
      refine zz_iortw d_MK_mark_97 ?_
      refine zz_iast d_MK_mark_98 hmk (by omega) (hmk.2.1 (by decide)) ?_
      obtain ⟨G12, eG12⟩ : ∃ z : ab_G, z = List.set G10 mk (za nm (zu (zfill M v7 v8 0) (v11 + (x / 32)) (stb ((zfill M v7 v8 0) (v11 + (x / 32))) (x % 32)))) := ⟨_, rfl⟩
      have ha := ha.keep hmk eG12 (by decide)
      have hlen := (z_len eG12).trans hlen
      have hsl := (z_sl hmk eG12 rfl).trans hsl
      have hfr := hfr.wr hmk eG12 (by decide)
      have hmk := hmk.kept eG12
      change ab_W _ _ _ (List.set G10 mk (za nm (zu (zfill M v7 v8 0) (v11 + (x / 32)) (stb ((zfill M v7 v8 0) (v11 + (x / 32))) (x % 32))))) 99 [some (vR a), some (vz x), some (vz p), some (vz (v11 + (x / 32))), some (vz (tw (x % 32))), some (vz 0)] [] _
      rw [← eG12]
      refine ab_iload d_MK_mark_99 rfl ?_
      refine zz_bret rfl (by decide) d_MK_mark_101 ?_
      rw [hQ]; exact (Or.inr ⟨_, _, rfl, hfr, hlen, hsl, ha, hmk, (by omega), (by exact absurd hbt (by rw [zfill_in (by constructor <;> omega)]; exact bt_0 _)), (by subst hv7; subst hv8; subst hv11; exact fun s' p' h0 h1 => Iff.trans (mark_a (by omega) ⟨h0, h1⟩ (by omega)) (or_congr (mark_b ⟨h0, h1⟩ (by omega)) Iff.rfl)), (by exact ucn_0 (M := M) (w := w) (df := df) (n := n) (x := x) (p := p) cw (by exact absurd hbt (by rw [zfill_in (by constructor <;> omega)]; exact bt_0 _)) (by subst hv7; subst hv8; subst hv11; exact fun s' p' h0 h1 => Iff.trans (mark_a (by omega) ⟨h0, h1⟩ (by omega)) (or_congr (mark_b ⟨h0, h1⟩ (by omega)) Iff.rfl)))⟩)
    · refine zz_if_ne (tgt := 85) d_MK_mark_78 (by decide) (by decide) (fun c13 => absurd c13 (by decide)) (fun c13 => ?_)
      refine zz_iconst d_MK_mark_81 ?_
      refine ab_goto (tgt := 86) d_MK_mark_82 (by decide) ?_
      refine ab_istore d_MK_mark_86 (Nat.le_of_ble_eq_true rfl) (Nat.le_of_ble_eq_true rfl) rfl ?_
      change ab_W _ _ _ G10 88 [some (vR a), some (vz x), some (vz p), some (vz (v11 + (x / 32))), some (vz (tw (x % 32))), some (vz 1)] [] _
      refine ab_aload_n d_MK_mark_88 rfl ?_
      refine ab_getf (fs := [vR sp, vR wk, vR mk, vz w, vz (p + 1), vR stk, vz dp, vz fo, vz fy, vz hw, vR q, vR s, vj (stp + 1)]) f_MK_18 d_MK_mark_89 ha.2.2 rfl ?_
      refine ab_iload_n d_MK_mark_92 rfl ?_
      refine ab_dup2 d_MK_mark_93 rfl rfl ?_
      refine zz_iald d_MK_mark_94 hmk (by omega) ?_
      refine ab_iload d_MK_mark_95 rfl ?_
      refine zz_iortw d_MK_mark_97 ?_
      refine zz_iast d_MK_mark_98 hmk (by omega) (hmk.2.1 (by decide)) ?_
      obtain ⟨G14, eG14⟩ : ∃ z : ab_G, z = List.set G10 mk (za nm (zu (zfill M v7 v8 0) (v11 + (x / 32)) (stb ((zfill M v7 v8 0) (v11 + (x / 32))) (x % 32)))) := ⟨_, rfl⟩
      have ha := ha.keep hmk eG14 (by decide)
      have hlen := (z_len eG14).trans hlen
      have hsl := (z_sl hmk eG14 rfl).trans hsl
      have hfr := hfr.wr hmk eG14 (by decide)
      have hmk := hmk.kept eG14
      change ab_W _ _ _ (List.set G10 mk (za nm (zu (zfill M v7 v8 0) (v11 + (x / 32)) (stb ((zfill M v7 v8 0) (v11 + (x / 32))) (x % 32))))) 99 [some (vR a), some (vz x), some (vz p), some (vz (v11 + (x / 32))), some (vz (tw (x % 32))), some (vz 1)] [] _
      rw [← eG14]
      refine ab_iload d_MK_mark_99 rfl ?_
      refine zz_bret rfl (by decide) d_MK_mark_101 ?_
      rw [hQ]; exact (Or.inl ⟨_, _, rfl, hfr, hlen, hsl, ha, hmk, (by omega), (by exact fun h => absurd h.1 (by omega)), (by subst hv7; subst hv8; subst hv11; exact fun s' p' h0 h1 => Iff.trans (mark_a (by omega) ⟨h0, h1⟩ (by omega)) (or_congr (mark_b ⟨h0, h1⟩ (by omega)) Iff.rfl)), (by exact ucn_1 (M := M) (w := w) (df := df) (n := n) (x := x) (p := p) cw (by omega) (by omega) (by exact fun h => absurd h.1 (by omega)) (by subst hv7; subst hv8; subst hv11; exact fun s' p' h0 h1 => Iff.trans (mark_a (by omega) ⟨h0, h1⟩ (by omega)) (or_congr (mark_b ⟨h0, h1⟩ (by omega)) Iff.rfl)))⟩)
set_option maxRecDepth 100000 in
set_option maxHeartbeats 4000000 in
theorem z_MK_push {X : ab_X} {d : Nat} {o : Nat → Nat} {G : ab_G} {q : Nat} {s : Nat} {a : Nat} {sp : Nat} {wk : Nat} {mk : Nat} {stk : Nat} {w : Int} {df : Int} {dp : Int} {fo : Int} {fy : Int} {hw : Int} {stp : Int} {SK : Int → Int} {ns : Nat} {v : Int} (ha : cc o G a 44 (ab_ob 2 [vR sp, vR wk, vR mk, vz w, vz df, vR stk, vz dp, vz fo, vz fy, vz hw, vR q, vR s, vj stp])) (hstk : cc o G stk 47 (za ns SK)) (cdp : 0 ≤ dp ∧ dp ≤ ↑ns) (hst : stn ns) (hs2 : 64 ≤ ns ∧ ns ≤ 1616809) (rc : G.length + 5 ≤ ab_n0 + room_1.cells + stC ns) (rs : ab_slots G + 1916393 ≤ room_1.slots + stT ns) (hd : 3 ≤ d) : ab_F X d y_MK_push (.code y_MK_push b_MK_push 2 none) [vR a, vz v] G (fun oc G2 => (∃ o2 : Nat → Nat, ∃ sk2 : Nat, ∃ ns2 : Nat, ∃ SK2 : Int → Int, oc = .returned none ∧ fx o o2 [44, 47] G G2 ∧ cc o2 G2 a 44 (ab_ob 2 [vR sp, vR wk, vR mk, vz w, vz df, vR sk2, vz (dp + 1), vz fo, vz fy, vz hw, vR q, vR s, vj stp]) ∧ cc o2 G2 sk2 47 (za ns2 SK2) ∧ (stn ns2) ∧ (∀ k : Int, 0 ≤ k → k < dp → SK2 k = SK k) ∧ (SK2 dp = v) ∧ (dp + 1 ≤ ↑ns2 ∧ 64 ≤ ns2 ∧ ns2 ≤ 1616809) ∧ (G2.length + stC ns = G.length + stC ns2) ∧ (ab_slots G2 + stT ns = ab_slots G + stT ns2)) ∨ (∃ o2 : Nat → Nat, oc = .returned none ∧ fx o o2 [44, 47] G G2 ∧ cc o2 G2 a 44 (ab_ob 2 [vR sp, vR wk, vR mk, vz w, vz df, vR stk, vz dp, vz fo, vz fy, vz hw, vR q, vR s, vj stp]) ∧ cc o2 G2 stk 47 (za ns SK) ∧ (dp = ↑ns ∧ ns = 1616809) ∧ (G2.length = G.length) ∧ (ab_slots G2 = ab_slots G))) := by
  refine ab_F_of (by decide +kernel) (Nat.le_of_ble_eq_true rfl) ?_
  obtain ⟨Q, hQ⟩ : ∃ z : Outcome → ab_G → Prop, z = (fun oc G2 => (∃ o2 : Nat → Nat, ∃ sk2 : Nat, ∃ ns2 : Nat, ∃ SK2 : Int → Int, oc = .returned none ∧ fx o o2 [44, 47] G G2 ∧ cc o2 G2 a 44 (ab_ob 2 [vR sp, vR wk, vR mk, vz w, vz df, vR sk2, vz (dp + 1), vz fo, vz fy, vz hw, vR q, vR s, vj stp]) ∧ cc o2 G2 sk2 47 (za ns2 SK2) ∧ (stn ns2) ∧ (∀ k : Int, 0 ≤ k → k < dp → SK2 k = SK k) ∧ (SK2 dp = v) ∧ (dp + 1 ≤ ↑ns2 ∧ 64 ≤ ns2 ∧ ns2 ≤ 1616809) ∧ (G2.length + stC ns = G.length + stC ns2) ∧ (ab_slots G2 + stT ns = ab_slots G + stT ns2)) ∨ (∃ o2 : Nat → Nat, oc = .returned none ∧ fx o o2 [44, 47] G G2 ∧ cc o2 G2 a 44 (ab_ob 2 [vR sp, vR wk, vR mk, vz w, vz df, vR stk, vz dp, vz fo, vz fy, vz hw, vR q, vR s, vj stp]) ∧ cc o2 G2 stk 47 (za ns SK) ∧ (dp = ↑ns ∧ ns = 1616809) ∧ (G2.length = G.length) ∧ (ab_slots G2 = ab_slots G))) := ⟨_, rfl⟩
  rw [← hQ]
  change ab_W X (ab_pl y_MK_push b_MK_push 2 none) d G 0 [some (vR a), some (vz v)] [] Q
  have hfr : fx o o [44, 47] G G := fx.rf
  refine ab_aload_n d_MK_push_0 rfl ?_
  refine ab_getf (fs := [vR sp, vR wk, vR mk, vz w, vz df, vR stk, vz dp, vz fo, vz fy, vz hw, vR q, vR s, vj stp]) f_MK_86 d_MK_push_1 ha.2.2 rfl ?_
  refine ab_aload_n d_MK_push_4 rfl ?_
  refine ab_getf (fs := [vR sp, vR wk, vR mk, vz w, vz df, vR stk, vz dp, vz fo, vz fy, vz hw, vR q, vR s, vj stp]) f_MK_21 d_MK_push_5 ha.2.2 rfl ?_
  refine zz_alen d_MK_push_8 hstk ?_
  refine zz_icmp_lt (tgt := 46) d_MK_push_9 (by decide) (by omega) (by omega) (fun c1 => ?_) (fun c1 => ?_)
  · refine ab_aload_n d_MK_push_46 rfl ?_
    refine ab_getf (fs := [vR sp, vR wk, vR mk, vz w, vz df, vR stk, vz dp, vz fo, vz fy, vz hw, vR q, vR s, vj stp]) f_MK_86 d_MK_push_47 ha.2.2 rfl ?_
    refine ab_aload_n d_MK_push_50 rfl ?_
    refine ab_getf (fs := [vR sp, vR wk, vR mk, vz w, vz df, vR stk, vz dp, vz fo, vz fy, vz hw, vR q, vR s, vj stp]) f_MK_21 d_MK_push_51 ha.2.2 rfl ?_
    refine zz_alen d_MK_push_54 hstk ?_
    refine zz_icmp_ge (tgt := 78) d_MK_push_55 (by decide) (by omega) (by omega) (fun c2 => absurd c2 (by omega)) (fun c2 => ?_)
    refine ab_aload_n d_MK_push_58 rfl ?_
    refine ab_getf (fs := [vR sp, vR wk, vR mk, vz w, vz df, vR stk, vz dp, vz fo, vz fy, vz hw, vR q, vR s, vj stp]) f_MK_21 d_MK_push_59 ha.2.2 rfl ?_
    refine ab_aload_n d_MK_push_62 rfl ?_
    refine ab_getf (fs := [vR sp, vR wk, vR mk, vz w, vz df, vR stk, vz dp, vz fo, vz fy, vz hw, vR q, vR s, vj stp]) f_MK_86 d_MK_push_63 ha.2.2 rfl ?_
    refine ab_iload_n d_MK_push_66 rfl ?_
    refine zz_iast d_MK_push_67 hstk (by omega) (hstk.2.1 (by decide)) ?_
    obtain ⟨G3, eG3⟩ : ∃ z : ab_G, z = List.set G stk (za ns (zu SK dp v)) := ⟨_, rfl⟩
    have ha := ha.keep hstk eG3 (by decide)
    have hq4 := z_len eG3
    have hq5 := z_sl hstk eG3 rfl
    have hfr := hfr.wr hstk eG3 (by decide)
    have hstk := hstk.kept eG3
    change ab_W _ _ _ (List.set G stk (za ns (zu SK dp v))) 68 [some (vR a), some (vz v)] [] _
    rw [← eG3]
    refine ab_aload_n d_MK_push_68 rfl ?_
    refine ab_dup d_MK_push_69 rfl ?_
    refine ab_getf (fs := [vR sp, vR wk, vR mk, vz w, vz df, vR stk, vz dp, vz fo, vz fy, vz hw, vR q, vR s, vj stp]) f_MK_86 d_MK_push_70 ha.2.2 rfl ?_
    refine zz_iconst d_MK_push_73 ?_
    refine zz_iadd d_MK_push_74 ?_
    refine ab_putf (fs := [vR sp, vR wk, vR mk, vz w, vz df, vR stk, vz dp, vz fo, vz fy, vz hw, vR q, vR s, vj stp]) f_MK_86 (Or.inl rfl) d_MK_push_75 ha.2.2 (Nat.le_of_ble_eq_true rfl) (fun _ => ⟨rfl, rfl⟩) (ha.2.1 (by decide)) ?_
    obtain ⟨G6, eG6⟩ : ∃ z : ab_G, z = List.set G3 a (ab_ob 2 [vR sp, vR wk, vR mk, vz w, vz df, vR stk, vz (dp + 1), vz fo, vz fy, vz hw, vR q, vR s, vj stp]) := ⟨_, rfl⟩
    have hstk := hstk.keep ha eG6 (by decide)
    have hq7 := z_len eG6
    have hq8 := z_sl ha eG6 rfl
    have hfr := hfr.wr ha eG6 (by decide)
    have ha := ha.kept eG6
    change ab_W _ _ _ (List.set G3 a (ab_ob 2 [vR sp, vR wk, vR mk, vz w, vz df, vR stk, vz (dp + 1), vz fo, vz fy, vz hw, vR q, vR s, vj stp])) 78 [some (vR a), some (vz v)] [] _
    rw [← eG6]
    refine ab_vret rfl d_MK_push_78 ?_
    rw [hQ]; exact (Or.inl ⟨_, _, _, _, rfl, hfr, ha, hstk, (by exact hst), (by intro k h0 h1; rw [zu_ne (by omega)]), (by exact zu_self _ _ _), (by omega), (by omega), (by omega)⟩)
  · refine ab_aload_n d_MK_push_12 rfl ?_
    refine ab_getf (fs := [vR sp, vR wk, vR mk, vz w, vz df, vR stk, vz dp, vz fo, vz fy, vz hw, vR q, vR s, vj stp]) f_MK_21 d_MK_push_13 ha.2.2 rfl ?_
    refine zz_alen d_MK_push_16 hstk ?_
    refine zz_ldc 1616809 d_MK_push_17 cn_MK_138 (by decide) ?_
    refine zz_icmp_ge (tgt := 46) d_MK_push_19 (by decide) (by omega) (by decide) (fun c9 => ?_) (fun c9 => ?_)
    · refine ab_aload_n d_MK_push_46 rfl ?_
      refine ab_getf (fs := [vR sp, vR wk, vR mk, vz w, vz df, vR stk, vz dp, vz fo, vz fy, vz hw, vR q, vR s, vj stp]) f_MK_86 d_MK_push_47 ha.2.2 rfl ?_
      refine ab_aload_n d_MK_push_50 rfl ?_
      refine ab_getf (fs := [vR sp, vR wk, vR mk, vz w, vz df, vR stk, vz dp, vz fo, vz fy, vz hw, vR q, vR s, vj stp]) f_MK_21 d_MK_push_51 ha.2.2 rfl ?_
      refine zz_alen d_MK_push_54 hstk ?_
      refine zz_icmp_ge (tgt := 78) d_MK_push_55 (by decide) (by omega) (by omega) (fun c10 => ?_) (fun c10 => absurd c10 (by omega))
      refine ab_vret rfl d_MK_push_78 ?_
      rw [hQ]; exact (Or.inr ⟨_, rfl, hfr, ha, hstk, (by omega), (by omega), (by omega)⟩)
    · refine ab_aload_n d_MK_push_22 rfl ?_
      refine ab_aload_n d_MK_push_23 rfl ?_
      refine ab_getf (fs := [vR sp, vR wk, vR mk, vz w, vz df, vR stk, vz dp, vz fo, vz fy, vz hw, vR q, vR s, vj stp]) f_MK_21 d_MK_push_24 ha.2.2 rfl ?_
      refine zz_ldc 1616809 d_MK_push_27 cn_MK_138 (by decide) ?_
      refine zz_bipush d_MK_push_29 (by decide) ?_
      refine ab_aload_n d_MK_push_31 rfl ?_
      refine ab_getf (fs := [vR sp, vR wk, vR mk, vz w, vz df, vR stk, vz dp, vz fo, vz fy, vz hw, vR q, vR s, vj stp]) f_MK_21 d_MK_push_32 ha.2.2 rfl ?_
      refine zz_alen d_MK_push_35 hstk ?_
      refine zz_imul d_MK_push_36 ?_
      refine zz_mmin2 mj_MK_61 d_MK_push_37 (by decide) (by omega) (Nat.le_of_ble_eq_true rfl) (by omega) (fun c11 => ?_) (fun c11 => ?_)
      · obtain ⟨t1, t2, t3, t4, t5⟩ := st_l hst (by omega) (by omega)
        refine ab_callS (d' := d - 1) (as := [vR stk, vz 1616809]) (st := [vR a]) (c_AR_copyOf (o := o) (a := stk) (l := 47) (k := 47) (n := ns) (w := 1616809) (m := 1616809) (f := SK) hstk (by omega) (by omega) (by omega) (by have h18 : ab_n0 = 18 := rfl; omega) (by omega)) (fun oc G2 h => by rcases h with ⟨_, _, _, h, _⟩ <;> exact ⟨_, h⟩) (by omega) m_AR_copyOf ml_MK_139 st_AR_copyOf (Nat.le_of_ble_eq_true rfl) d_MK_push_40 rfl ?_
        intro v G12 hq
        rcases hq with ⟨o13, b14, g15, hv, hfk, hNb14, hq16, hq17, hq18, hq19⟩
        cases hv
        have ne_b14_a : nq b14 a := by have hlt := ha.lt; unfold nq; omega
        have ne_b14_stk : nq b14 stk := by have hlt := hstk.lt; unfold nq; omega
        have ha := hfk.get ha (by decide)
        have hstk := hfk.get hstk (by decide)
        have hfr := hfr.tr hfk (by decide)
        have hq20 := hfk.1
        have hb14 := hNb14
        change ab_W _ _ _ G12 43 [some (vR a), some (vz v)] [vR b14, vR a] _
        refine ab_putf (fs := [vR sp, vR wk, vR mk, vz w, vz df, vR stk, vz dp, vz fo, vz fy, vz hw, vR q, vR s, vj stp]) f_MK_21 (Or.inl rfl) d_MK_push_43 ha.2.2 (Nat.le_of_ble_eq_true rfl) (fun _ => ⟨rfl, rfl⟩) (ha.2.1 (by decide)) ?_
        obtain ⟨G21, eG21⟩ : ∃ z : ab_G, z = List.set G12 a (ab_ob 2 [vR sp, vR wk, vR mk, vz w, vz df, vR b14, vz dp, vz fo, vz fy, vz hw, vR q, vR s, vj stp]) := ⟨_, rfl⟩
        have hstk := hstk.keep ha eG21 (by decide)
        have hb14 := hb14.keep ha eG21 (by decide)
        have hq22 := z_len eG21
        have hq23 := z_sl ha eG21 rfl
        have hfr := hfr.wr ha eG21 (by decide)
        have ha := ha.kept eG21
        change ab_W _ _ _ (List.set G12 a (ab_ob 2 [vR sp, vR wk, vR mk, vz w, vz df, vR b14, vz dp, vz fo, vz fy, vz hw, vR q, vR s, vj stp])) 46 [some (vR a), some (vz v)] [] _
        rw [← eG21]
        refine ab_aload_n d_MK_push_46 rfl ?_
        refine ab_getf (fs := [vR sp, vR wk, vR mk, vz w, vz df, vR b14, vz dp, vz fo, vz fy, vz hw, vR q, vR s, vj stp]) f_MK_86 d_MK_push_47 ha.2.2 rfl ?_
        refine ab_aload_n d_MK_push_50 rfl ?_
        refine ab_getf (fs := [vR sp, vR wk, vR mk, vz w, vz df, vR b14, vz dp, vz fo, vz fy, vz hw, vR q, vR s, vj stp]) f_MK_21 d_MK_push_51 ha.2.2 rfl ?_
        refine zz_alen d_MK_push_54 hb14 ?_
        change ab_W _ _ _ G21 55 [some (vR a), some (vz v)] [vz 1616809, vz dp] _
        refine zz_icmp_ge (tgt := 78) d_MK_push_55 (by decide) (by omega) (by decide) (fun c24 => absurd c24 (by omega)) (fun c24 => ?_)
        refine ab_aload_n d_MK_push_58 rfl ?_
        refine ab_getf (fs := [vR sp, vR wk, vR mk, vz w, vz df, vR b14, vz dp, vz fo, vz fy, vz hw, vR q, vR s, vj stp]) f_MK_21 d_MK_push_59 ha.2.2 rfl ?_
        refine ab_aload_n d_MK_push_62 rfl ?_
        refine ab_getf (fs := [vR sp, vR wk, vR mk, vz w, vz df, vR b14, vz dp, vz fo, vz fy, vz hw, vR q, vR s, vj stp]) f_MK_86 d_MK_push_63 ha.2.2 rfl ?_
        refine ab_iload_n d_MK_push_66 rfl ?_
        refine zz_iast d_MK_push_67 hb14 (by omega) (hb14.2.1 (by decide)) ?_
        obtain ⟨G25, eG25⟩ : ∃ z : ab_G, z = List.set G21 b14 (za 1616809 (zu g15 dp v)) := ⟨_, rfl⟩
        have ha := ha.keep hb14 eG25 (by decide)
        have hstk := hstk.keep' eG25 ne_b14_stk
        have hq26 := z_len eG25
        have hq27 := z_sl hb14 eG25 rfl
        have hfr := hfr.wn (show G.length ≤ b14 by have := hfr.1; omega) eG25
        have hb14 := hb14.kept eG25
        change ab_W _ _ _ (List.set G21 b14 (za 1616809 (zu g15 dp v))) 68 [some (vR a), some (vz v)] [] _
        rw [← eG25]
        refine ab_aload_n d_MK_push_68 rfl ?_
        refine ab_dup d_MK_push_69 rfl ?_
        refine ab_getf (fs := [vR sp, vR wk, vR mk, vz w, vz df, vR b14, vz dp, vz fo, vz fy, vz hw, vR q, vR s, vj stp]) f_MK_86 d_MK_push_70 ha.2.2 rfl ?_
        refine zz_iconst d_MK_push_73 ?_
        refine zz_iadd d_MK_push_74 ?_
        refine ab_putf (fs := [vR sp, vR wk, vR mk, vz w, vz df, vR b14, vz dp, vz fo, vz fy, vz hw, vR q, vR s, vj stp]) f_MK_86 (Or.inl rfl) d_MK_push_75 ha.2.2 (Nat.le_of_ble_eq_true rfl) (fun _ => ⟨rfl, rfl⟩) (ha.2.1 (by decide)) ?_
        obtain ⟨G28, eG28⟩ : ∃ z : ab_G, z = List.set G25 a (ab_ob 2 [vR sp, vR wk, vR mk, vz w, vz df, vR b14, vz (dp + 1), vz fo, vz fy, vz hw, vR q, vR s, vj stp]) := ⟨_, rfl⟩
        have hstk := hstk.keep ha eG28 (by decide)
        have hb14 := hb14.keep ha eG28 (by decide)
        have hq29 := z_len eG28
        have hq30 := z_sl ha eG28 rfl
        have hfr := hfr.wr ha eG28 (by decide)
        have ha := ha.kept eG28
        change ab_W _ _ _ (List.set G25 a (ab_ob 2 [vR sp, vR wk, vR mk, vz w, vz df, vR b14, vz (dp + 1), vz fo, vz fy, vz hw, vR q, vR s, vj stp])) 78 [some (vR a), some (vz v)] [] _
        rw [← eG28]
        refine ab_vret rfl d_MK_push_78 ?_
        rw [hQ]; exact (Or.inl ⟨_, _, _, _, rfl, hfr, ha, hb14, (by exact t1), (by intro k h0 h1; rw [zu_ne (by omega)]; exact hq19 k h0 (by omega) (by omega)), (by exact zu_self _ _ _), (by omega), (by omega), (by omega)⟩)
      · obtain ⟨w31, hw31⟩ : ∃ z : Nat, (z : Int) = (8 * (↑ns : Int)) := ⟨Int.toNat (8 * (↑ns : Int)), by omega⟩
        obtain ⟨t1, t2, t3, t4, t5⟩ := st_8 hst hw31 (by omega)
        refine ab_callS (d' := d - 1) (as := [vR stk, vz (8 * (↑ns : Int))]) (st := [vR a]) (c_AR_copyOf (o := o) (a := stk) (l := 47) (k := 47) (n := ns) (w := w31) (m := (8 * (↑ns : Int))) (f := SK) hstk (by omega) (by omega) (by omega) (by have h18 : ab_n0 = 18 := rfl; omega) (by omega)) (fun oc G2 h => by rcases h with ⟨_, _, _, h, _⟩ <;> exact ⟨_, h⟩) (by omega) m_AR_copyOf ml_MK_139 st_AR_copyOf (Nat.le_of_ble_eq_true rfl) d_MK_push_40 rfl ?_
        intro v G32 hq
        rcases hq with ⟨o33, b34, g35, hv, hfk, hNb34, hq36, hq37, hq38, hq39⟩
        cases hv
        have ne_b34_a : nq b34 a := by have hlt := ha.lt; unfold nq; omega
        have ne_b34_stk : nq b34 stk := by have hlt := hstk.lt; unfold nq; omega
        have ha := hfk.get ha (by decide)
        have hstk := hfk.get hstk (by decide)
        have hfr := hfr.tr hfk (by decide)
        have hq40 := hfk.1
        have hb34 := hNb34
        change ab_W _ _ _ G32 43 [some (vR a), some (vz v)] [vR b34, vR a] _
        refine ab_putf (fs := [vR sp, vR wk, vR mk, vz w, vz df, vR stk, vz dp, vz fo, vz fy, vz hw, vR q, vR s, vj stp]) f_MK_21 (Or.inl rfl) d_MK_push_43 ha.2.2 (Nat.le_of_ble_eq_true rfl) (fun _ => ⟨rfl, rfl⟩) (ha.2.1 (by decide)) ?_
        obtain ⟨G41, eG41⟩ : ∃ z : ab_G, z = List.set G32 a (ab_ob 2 [vR sp, vR wk, vR mk, vz w, vz df, vR b34, vz dp, vz fo, vz fy, vz hw, vR q, vR s, vj stp]) := ⟨_, rfl⟩
        have hstk := hstk.keep ha eG41 (by decide)
        have hb34 := hb34.keep ha eG41 (by decide)
        have hq42 := z_len eG41
        have hq43 := z_sl ha eG41 rfl
        have hfr := hfr.wr ha eG41 (by decide)
        have ha := ha.kept eG41
        change ab_W _ _ _ (List.set G32 a (ab_ob 2 [vR sp, vR wk, vR mk, vz w, vz df, vR b34, vz dp, vz fo, vz fy, vz hw, vR q, vR s, vj stp])) 46 [some (vR a), some (vz v)] [] _
        rw [← eG41]
        refine ab_aload_n d_MK_push_46 rfl ?_
        refine ab_getf (fs := [vR sp, vR wk, vR mk, vz w, vz df, vR b34, vz dp, vz fo, vz fy, vz hw, vR q, vR s, vj stp]) f_MK_86 d_MK_push_47 ha.2.2 rfl ?_
        refine ab_aload_n d_MK_push_50 rfl ?_
        refine ab_getf (fs := [vR sp, vR wk, vR mk, vz w, vz df, vR b34, vz dp, vz fo, vz fy, vz hw, vR q, vR s, vj stp]) f_MK_21 d_MK_push_51 ha.2.2 rfl ?_
        refine zz_alen d_MK_push_54 hb34 ?_
        refine zz_icmp_ge (tgt := 78) d_MK_push_55 (by decide) (by omega) (by omega) (fun c44 => absurd c44 (by omega)) (fun c44 => ?_)
        refine ab_aload_n d_MK_push_58 rfl ?_
        refine ab_getf (fs := [vR sp, vR wk, vR mk, vz w, vz df, vR b34, vz dp, vz fo, vz fy, vz hw, vR q, vR s, vj stp]) f_MK_21 d_MK_push_59 ha.2.2 rfl ?_
        refine ab_aload_n d_MK_push_62 rfl ?_
        refine ab_getf (fs := [vR sp, vR wk, vR mk, vz w, vz df, vR b34, vz dp, vz fo, vz fy, vz hw, vR q, vR s, vj stp]) f_MK_86 d_MK_push_63 ha.2.2 rfl ?_
        refine ab_iload_n d_MK_push_66 rfl ?_
        refine zz_iast d_MK_push_67 hb34 (by omega) (hb34.2.1 (by decide)) ?_
        obtain ⟨G45, eG45⟩ : ∃ z : ab_G, z = List.set G41 b34 (za w31 (zu g35 dp v)) := ⟨_, rfl⟩
        have ha := ha.keep hb34 eG45 (by decide)
        have hstk := hstk.keep' eG45 ne_b34_stk
        have hq46 := z_len eG45
        have hq47 := z_sl hb34 eG45 rfl
        have hfr := hfr.wn (show G.length ≤ b34 by have := hfr.1; omega) eG45
        have hb34 := hb34.kept eG45
        change ab_W _ _ _ (List.set G41 b34 (za w31 (zu g35 dp v))) 68 [some (vR a), some (vz v)] [] _
        rw [← eG45]
        refine ab_aload_n d_MK_push_68 rfl ?_
        refine ab_dup d_MK_push_69 rfl ?_
        refine ab_getf (fs := [vR sp, vR wk, vR mk, vz w, vz df, vR b34, vz dp, vz fo, vz fy, vz hw, vR q, vR s, vj stp]) f_MK_86 d_MK_push_70 ha.2.2 rfl ?_
        refine zz_iconst d_MK_push_73 ?_
        refine zz_iadd d_MK_push_74 ?_
        refine ab_putf (fs := [vR sp, vR wk, vR mk, vz w, vz df, vR b34, vz dp, vz fo, vz fy, vz hw, vR q, vR s, vj stp]) f_MK_86 (Or.inl rfl) d_MK_push_75 ha.2.2 (Nat.le_of_ble_eq_true rfl) (fun _ => ⟨rfl, rfl⟩) (ha.2.1 (by decide)) ?_
        obtain ⟨G48, eG48⟩ : ∃ z : ab_G, z = List.set G45 a (ab_ob 2 [vR sp, vR wk, vR mk, vz w, vz df, vR b34, vz (dp + 1), vz fo, vz fy, vz hw, vR q, vR s, vj stp]) := ⟨_, rfl⟩
        have hstk := hstk.keep ha eG48 (by decide)
        have hb34 := hb34.keep ha eG48 (by decide)
        have hq49 := z_len eG48
        have hq50 := z_sl ha eG48 rfl
        have hfr := hfr.wr ha eG48 (by decide)
        have ha := ha.kept eG48
        change ab_W _ _ _ (List.set G45 a (ab_ob 2 [vR sp, vR wk, vR mk, vz w, vz df, vR b34, vz (dp + 1), vz fo, vz fy, vz hw, vR q, vR s, vj stp])) 78 [some (vR a), some (vz v)] [] _
        rw [← eG48]
        refine ab_vret rfl d_MK_push_78 ?_
        rw [hQ]; exact (Or.inl ⟨_, _, _, _, rfl, hfr, ha, hb34, (by exact t1), (by intro k h0 h1; rw [zu_ne (by omega)]; exact hq39 k h0 (by omega) (by omega)), (by exact zu_self _ _ _), (by omega), (by omega), (by omega)⟩)
set_option maxRecDepth 100000 in
set_option maxHeartbeats 4000000 in
theorem z_MK_arrive {X : ab_X} {d : Nat} {o : Nat → Nat} {G : ab_G} {q : Nat} {lq : Nat} {ki : Nat} {ne : Nat} {ot : Nat} {cnt : Int} {fi : Int} {la : Int} {ra : Nat} {ru : Int} {gr : Int} {wi : Int} {sz : Int} {fl : Int} {ve : Int} {mi : Int} {na : Nat} {nl : Nat} {s : Nat} {by_ : Nat} {co : Nat} {re : Nat} {ho : Nat} {n : Int} {m : Nat} {mc : Nat} {a : Nat} {sp : Nat} {wk : Nat} {mk : Nat} {stk : Nat} {w : Int} {df : Int} {dp : Int} {fo : Int} {fy : Int} {hw : Int} {stp : Int} {SP : Int → Int} {WK : Int → Int} {p : Int} (ha : cc o G a 44 (ab_ob 2 [vR sp, vR wk, vR mk, vz w, vz df, vR stk, vz dp, vz fo, vz fy, vz hw, vR q, vR s, vj stp])) (hsp : cc o G sp 31 (za 20 SP)) (hwk : cc o G wk 45 (za 20 WK)) (hq : cc o G q lq (ab_ob 5 [vR ki, vR ne, vR ot, vz cnt, vz fi, vz la, vR ra, vz ru, vz gr, vz wi, vz sz, vz fl, vz ve, vz mi, vR na, vR nl])) (hs : cc o G s 26 (ab_ob 9 [vR by_, vR co, vR re, vR ho, vz n])) (csu : 0 ≤ n ∧ n ≤ ↑m ∧ 32 ≤ m ∧ m ≤ 2000 ∧ mc = m + 1) (cf : 0 ≤ fo ∧ fo ≤ 1 ∧ 0 ≤ fy ∧ fy ≤ 1 ∧ 0 ≤ hw ∧ hw ≤ 2) (cwi : 2 ≤ wi ∧ wi ≤ 20) (jwk : rgs WK wi (-1) n) (jsp : rgs SP 20 (-1) 2000) (cp : 0 ≤ p ∧ p ≤ n) (clq : 100 ≤ lq) (hd : 1 ≤ d) : ab_F X d y_MK_arrive (.code y_MK_arrive b_MK_arrive 2 none) [vR a, vz p] G (fun oc G2 => (oc = .returned none ∧ G2 = G ∧ ((hw = 2 ∧ p < n) ∨ (fo = 1 ∧ p ≤ SP 1))) ∨ (oc = .returned none ∧ fx o o [44, 31] G G2 ∧ G2.length = G.length ∧ ab_slots G2 = ab_slots G ∧ cc o G2 a 44 (ab_ob 2 [vR sp, vR wk, vR mk, vz w, vz df, vR stk, vz dp, vz 1, vz fy, vz hw, vR q, vR s, vj stp]) ∧ cc o G2 sp 31 (za 20 (zu (zcpy WK SP 0 0 wi) 1 p)) ∧ ((¬ hw = 2 ∨ n ≤ p) ∧ (fo = 0 ∨ SP 1 < p)))) := by
  refine ab_F_of (by decide +kernel) (Nat.le_of_ble_eq_true rfl) ?_
  obtain ⟨Q, hQ⟩ : ∃ z : Outcome → ab_G → Prop, z = (fun oc G2 => (oc = .returned none ∧ G2 = G ∧ ((hw = 2 ∧ p < n) ∨ (fo = 1 ∧ p ≤ SP 1))) ∨ (oc = .returned none ∧ fx o o [44, 31] G G2 ∧ G2.length = G.length ∧ ab_slots G2 = ab_slots G ∧ cc o G2 a 44 (ab_ob 2 [vR sp, vR wk, vR mk, vz w, vz df, vR stk, vz dp, vz 1, vz fy, vz hw, vR q, vR s, vj stp]) ∧ cc o G2 sp 31 (za 20 (zu (zcpy WK SP 0 0 wi) 1 p)) ∧ ((¬ hw = 2 ∨ n ≤ p) ∧ (fo = 0 ∨ SP 1 < p)))) := ⟨_, rfl⟩
  rw [← hQ]
  change ab_W X (ab_pl y_MK_arrive b_MK_arrive 2 none) d G 0 [some (vR a), some (vz p)] [] Q
  have hfr : fx o o [44, 31] G G := fx.rf
  have hlen : G.length = G.length := rfl
  have hsl : ab_slots G = ab_slots G := rfl
  refine ab_aload_n d_MK_arrive_0 rfl ?_
  refine ab_getf (fs := [vR sp, vR wk, vR mk, vz w, vz df, vR stk, vz dp, vz fo, vz fy, vz hw, vR q, vR s, vj stp]) f_MK_32 d_MK_arrive_1 ha.2.2 rfl ?_
  refine zz_iconst d_MK_arrive_4 ?_
  refine zz_icmp_ne (tgt := 19) d_MK_arrive_5 (by decide) (by omega) (by decide) (fun c1 => ?_) (fun c1 => ?_)
  · refine ab_aload_n d_MK_arrive_19 rfl ?_
    refine ab_getf (fs := [vR sp, vR wk, vR mk, vz w, vz df, vR stk, vz dp, vz fo, vz fy, vz hw, vR q, vR s, vj stp]) f_MK_70 d_MK_arrive_20 ha.2.2 rfl ?_
    refine zz_if_eq (tgt := 37) d_MK_arrive_23 (by decide) (by omega) (fun c2 => ?_) (fun c2 => ?_)
    · refine ab_aload_n d_MK_arrive_37 rfl ?_
      refine ab_getf (fs := [vR sp, vR wk, vR mk, vz w, vz df, vR stk, vz dp, vz fo, vz fy, vz hw, vR q, vR s, vj stp]) f_MK_15 d_MK_arrive_38 ha.2.2 rfl ?_
      refine zz_iconst d_MK_arrive_41 ?_
      refine ab_aload_n d_MK_arrive_42 rfl ?_
      refine ab_getf (fs := [vR sp, vR wk, vR mk, vz w, vz df, vR stk, vz dp, vz fo, vz fy, vz hw, vR q, vR s, vj stp]) f_MK_9 d_MK_arrive_43 ha.2.2 rfl ?_
      refine zz_iconst d_MK_arrive_46 ?_
      refine ab_aload_n d_MK_arrive_47 rfl ?_
      refine ab_getf (fs := [vR sp, vR wk, vR mk, vz w, vz df, vR stk, vz dp, vz fo, vz fy, vz hw, vR q, vR s, vj stp]) f_MK_24 d_MK_arrive_48 ha.2.2 rfl ?_
      refine ab_getf (fs := [vR ki, vR ne, vR ot, vz cnt, vz fi, vz la, vR ra, vz ru, vz gr, vz wi, vz sz, vz fl, vz ve, vz mi, vR na, vR nl]) f_MK_83 d_MK_arrive_51 hq.2.2 rfl ?_
      refine zz_copy mj_MK_132 d_MK_arrive_54 hwk hsp (hsp.2.1 (by decide)) (by omega) (Nat.le_of_ble_eq_true rfl) (by omega) ?_
      obtain ⟨G3, eG3⟩ : ∃ z : ab_G, z = List.set G sp (za 20 (zcpy WK SP 0 0 wi)) := ⟨_, rfl⟩
      have ha := ha.keep hsp eG3 (by decide)
      have hwk := hwk.keep hsp eG3 (by decide)
      have hq := hq.keep hsp eG3 (by omega)
      have hs := hs.keep hsp eG3 (by decide)
      have hlen := (z_len eG3).trans hlen
      have hsl := (z_sl hsp eG3 rfl).trans hsl
      have hfr := hfr.wr hsp eG3 (by decide)
      have hsp := hsp.kept eG3
      change ab_W _ _ _ (List.set G sp (za 20 (zcpy WK SP 0 0 wi))) 57 [some (vR a), some (vz p)] [] _
      rw [← eG3]
      refine ab_aload_n d_MK_arrive_57 rfl ?_
      refine ab_getf (fs := [vR sp, vR wk, vR mk, vz w, vz df, vR stk, vz dp, vz fo, vz fy, vz hw, vR q, vR s, vj stp]) f_MK_9 d_MK_arrive_58 ha.2.2 rfl ?_
      refine zz_iconst d_MK_arrive_61 ?_
      refine ab_iload_n d_MK_arrive_62 rfl ?_
      refine zz_iast d_MK_arrive_63 hsp (by omega) (hsp.2.1 (by decide)) ?_
      obtain ⟨G4, eG4⟩ : ∃ z : ab_G, z = List.set G3 sp (za 20 (zu (zcpy WK SP 0 0 wi) 1 p)) := ⟨_, rfl⟩
      have ha := ha.keep hsp eG4 (by decide)
      have hwk := hwk.keep hsp eG4 (by decide)
      have hq := hq.keep hsp eG4 (by omega)
      have hs := hs.keep hsp eG4 (by decide)
      have hlen := (z_len eG4).trans hlen
      have hsl := (z_sl hsp eG4 rfl).trans hsl
      have hfr := hfr.wr hsp eG4 (by decide)
      have hsp := hsp.kept eG4
      change ab_W _ _ _ (List.set G3 sp (za 20 (zu (zcpy WK SP 0 0 wi) 1 p))) 64 [some (vR a), some (vz p)] [] _
      rw [← eG4]
      refine ab_aload_n d_MK_arrive_64 rfl ?_
      refine zz_iconst d_MK_arrive_65 ?_
      refine ab_putf (fs := [vR sp, vR wk, vR mk, vz w, vz df, vR stk, vz dp, vz fo, vz fy, vz hw, vR q, vR s, vj stp]) f_MK_70 (Or.inl rfl) d_MK_arrive_66 ha.2.2 (Nat.le_of_ble_eq_true rfl) (ab_fbz (by decide)) (ha.2.1 (by decide)) ?_
      obtain ⟨G5, eG5⟩ : ∃ z : ab_G, z = List.set G4 a (ab_ob 2 [vR sp, vR wk, vR mk, vz w, vz df, vR stk, vz dp, vz 1, vz fy, vz hw, vR q, vR s, vj stp]) := ⟨_, rfl⟩
      have hsp := hsp.keep ha eG5 (by decide)
      have hwk := hwk.keep ha eG5 (by decide)
      have hq := hq.keep ha eG5 (by omega)
      have hs := hs.keep ha eG5 (by decide)
      have hlen := (z_len eG5).trans hlen
      have hsl := (z_sl ha eG5 rfl).trans hsl
      have hfr := hfr.wr ha eG5 (by decide)
      have ha := ha.kept eG5
      change ab_W _ _ _ (List.set G4 a (ab_ob 2 [vR sp, vR wk, vR mk, vz w, vz df, vR stk, vz dp, vz 1, vz fy, vz hw, vR q, vR s, vj stp])) 69 [some (vR a), some (vz p)] [] _
      rw [← eG5]
      refine ab_vret rfl d_MK_arrive_69 ?_
      rw [hQ]; exact (Or.inr ⟨rfl, hfr, hlen, hsl, ha, hsp, (by omega)⟩)
    · refine ab_iload_n d_MK_arrive_26 rfl ?_
      refine ab_aload_n d_MK_arrive_27 rfl ?_
      refine ab_getf (fs := [vR sp, vR wk, vR mk, vz w, vz df, vR stk, vz dp, vz fo, vz fy, vz hw, vR q, vR s, vj stp]) f_MK_9 d_MK_arrive_28 ha.2.2 rfl ?_
      refine zz_iconst d_MK_arrive_31 ?_
      refine zz_iald d_MK_arrive_32 hsp (by omega) ?_
      have hq6 := jsp 1 (by omega) (by omega)
      refine zz_icmp_gt (tgt := 37) d_MK_arrive_33 (by decide) (by omega) (by omega) (fun c7 => ?_) (fun c7 => ?_)
      · refine ab_aload_n d_MK_arrive_37 rfl ?_
        refine ab_getf (fs := [vR sp, vR wk, vR mk, vz w, vz df, vR stk, vz dp, vz fo, vz fy, vz hw, vR q, vR s, vj stp]) f_MK_15 d_MK_arrive_38 ha.2.2 rfl ?_
        refine zz_iconst d_MK_arrive_41 ?_
        refine ab_aload_n d_MK_arrive_42 rfl ?_
        refine ab_getf (fs := [vR sp, vR wk, vR mk, vz w, vz df, vR stk, vz dp, vz fo, vz fy, vz hw, vR q, vR s, vj stp]) f_MK_9 d_MK_arrive_43 ha.2.2 rfl ?_
        refine zz_iconst d_MK_arrive_46 ?_
        refine ab_aload_n d_MK_arrive_47 rfl ?_
        refine ab_getf (fs := [vR sp, vR wk, vR mk, vz w, vz df, vR stk, vz dp, vz fo, vz fy, vz hw, vR q, vR s, vj stp]) f_MK_24 d_MK_arrive_48 ha.2.2 rfl ?_
        refine ab_getf (fs := [vR ki, vR ne, vR ot, vz cnt, vz fi, vz la, vR ra, vz ru, vz gr, vz wi, vz sz, vz fl, vz ve, vz mi, vR na, vR nl]) f_MK_83 d_MK_arrive_51 hq.2.2 rfl ?_
        refine zz_copy mj_MK_132 d_MK_arrive_54 hwk hsp (hsp.2.1 (by decide)) (by omega) (Nat.le_of_ble_eq_true rfl) (by omega) ?_
        obtain ⟨G8, eG8⟩ : ∃ z : ab_G, z = List.set G sp (za 20 (zcpy WK SP 0 0 wi)) := ⟨_, rfl⟩
        have ha := ha.keep hsp eG8 (by decide)
        have hwk := hwk.keep hsp eG8 (by decide)
        have hq := hq.keep hsp eG8 (by omega)
        have hs := hs.keep hsp eG8 (by decide)
        have hlen := (z_len eG8).trans hlen
        have hsl := (z_sl hsp eG8 rfl).trans hsl
        have hfr := hfr.wr hsp eG8 (by decide)
        have hsp := hsp.kept eG8
        change ab_W _ _ _ (List.set G sp (za 20 (zcpy WK SP 0 0 wi))) 57 [some (vR a), some (vz p)] [] _
        rw [← eG8]
        refine ab_aload_n d_MK_arrive_57 rfl ?_
        refine ab_getf (fs := [vR sp, vR wk, vR mk, vz w, vz df, vR stk, vz dp, vz fo, vz fy, vz hw, vR q, vR s, vj stp]) f_MK_9 d_MK_arrive_58 ha.2.2 rfl ?_
        refine zz_iconst d_MK_arrive_61 ?_
        refine ab_iload_n d_MK_arrive_62 rfl ?_
        refine zz_iast d_MK_arrive_63 hsp (by omega) (hsp.2.1 (by decide)) ?_
        obtain ⟨G9, eG9⟩ : ∃ z : ab_G, z = List.set G8 sp (za 20 (zu (zcpy WK SP 0 0 wi) 1 p)) := ⟨_, rfl⟩
        have ha := ha.keep hsp eG9 (by decide)
        have hwk := hwk.keep hsp eG9 (by decide)
        have hq := hq.keep hsp eG9 (by omega)
        have hs := hs.keep hsp eG9 (by decide)
        have hlen := (z_len eG9).trans hlen
        have hsl := (z_sl hsp eG9 rfl).trans hsl
        have hfr := hfr.wr hsp eG9 (by decide)
        have hsp := hsp.kept eG9
        change ab_W _ _ _ (List.set G8 sp (za 20 (zu (zcpy WK SP 0 0 wi) 1 p))) 64 [some (vR a), some (vz p)] [] _
        rw [← eG9]
        refine ab_aload_n d_MK_arrive_64 rfl ?_
        refine zz_iconst d_MK_arrive_65 ?_
        refine ab_putf (fs := [vR sp, vR wk, vR mk, vz w, vz df, vR stk, vz dp, vz fo, vz fy, vz hw, vR q, vR s, vj stp]) f_MK_70 (Or.inl rfl) d_MK_arrive_66 ha.2.2 (Nat.le_of_ble_eq_true rfl) (ab_fbz (by decide)) (ha.2.1 (by decide)) ?_
        obtain ⟨G10, eG10⟩ : ∃ z : ab_G, z = List.set G9 a (ab_ob 2 [vR sp, vR wk, vR mk, vz w, vz df, vR stk, vz dp, vz 1, vz fy, vz hw, vR q, vR s, vj stp]) := ⟨_, rfl⟩
        have hsp := hsp.keep ha eG10 (by decide)
        have hwk := hwk.keep ha eG10 (by decide)
        have hq := hq.keep ha eG10 (by omega)
        have hs := hs.keep ha eG10 (by decide)
        have hlen := (z_len eG10).trans hlen
        have hsl := (z_sl ha eG10 rfl).trans hsl
        have hfr := hfr.wr ha eG10 (by decide)
        have ha := ha.kept eG10
        change ab_W _ _ _ (List.set G9 a (ab_ob 2 [vR sp, vR wk, vR mk, vz w, vz df, vR stk, vz dp, vz 1, vz fy, vz hw, vR q, vR s, vj stp])) 69 [some (vR a), some (vz p)] [] _
        rw [← eG10]
        refine ab_vret rfl d_MK_arrive_69 ?_
        rw [hQ]; exact (Or.inr ⟨rfl, hfr, hlen, hsl, ha, hsp, (by omega)⟩)
      · refine ab_vret rfl d_MK_arrive_36 ?_
        rw [hQ]; exact (Or.inl ⟨rfl, rfl, (by omega)⟩)
  · refine ab_iload_n d_MK_arrive_8 rfl ?_
    refine ab_aload_n d_MK_arrive_9 rfl ?_
    refine ab_getf (fs := [vR sp, vR wk, vR mk, vz w, vz df, vR stk, vz dp, vz fo, vz fy, vz hw, vR q, vR s, vj stp]) f_MK_28 d_MK_arrive_10 ha.2.2 rfl ?_
    refine ab_getf (fs := [vR by_, vR co, vR re, vR ho, vz n]) f_MK_55 d_MK_arrive_13 hs.2.2 rfl ?_
    refine zz_icmp_lt (tgt := 36) d_MK_arrive_16 (by decide) (by omega) (by omega) (fun c11 => ?_) (fun c11 => ?_)
    · refine ab_vret rfl d_MK_arrive_36 ?_
      rw [hQ]; exact (Or.inl ⟨rfl, rfl, (by omega)⟩)
    · refine ab_aload_n d_MK_arrive_19 rfl ?_
      refine ab_getf (fs := [vR sp, vR wk, vR mk, vz w, vz df, vR stk, vz dp, vz fo, vz fy, vz hw, vR q, vR s, vj stp]) f_MK_70 d_MK_arrive_20 ha.2.2 rfl ?_
      refine zz_if_eq (tgt := 37) d_MK_arrive_23 (by decide) (by omega) (fun c12 => ?_) (fun c12 => ?_)
      · refine ab_aload_n d_MK_arrive_37 rfl ?_
        refine ab_getf (fs := [vR sp, vR wk, vR mk, vz w, vz df, vR stk, vz dp, vz fo, vz fy, vz hw, vR q, vR s, vj stp]) f_MK_15 d_MK_arrive_38 ha.2.2 rfl ?_
        refine zz_iconst d_MK_arrive_41 ?_
        refine ab_aload_n d_MK_arrive_42 rfl ?_
        refine ab_getf (fs := [vR sp, vR wk, vR mk, vz w, vz df, vR stk, vz dp, vz fo, vz fy, vz hw, vR q, vR s, vj stp]) f_MK_9 d_MK_arrive_43 ha.2.2 rfl ?_
        refine zz_iconst d_MK_arrive_46 ?_
        refine ab_aload_n d_MK_arrive_47 rfl ?_
        refine ab_getf (fs := [vR sp, vR wk, vR mk, vz w, vz df, vR stk, vz dp, vz fo, vz fy, vz hw, vR q, vR s, vj stp]) f_MK_24 d_MK_arrive_48 ha.2.2 rfl ?_
        refine ab_getf (fs := [vR ki, vR ne, vR ot, vz cnt, vz fi, vz la, vR ra, vz ru, vz gr, vz wi, vz sz, vz fl, vz ve, vz mi, vR na, vR nl]) f_MK_83 d_MK_arrive_51 hq.2.2 rfl ?_
        refine zz_copy mj_MK_132 d_MK_arrive_54 hwk hsp (hsp.2.1 (by decide)) (by omega) (Nat.le_of_ble_eq_true rfl) (by omega) ?_
        obtain ⟨G13, eG13⟩ : ∃ z : ab_G, z = List.set G sp (za 20 (zcpy WK SP 0 0 wi)) := ⟨_, rfl⟩
        have ha := ha.keep hsp eG13 (by decide)
        have hwk := hwk.keep hsp eG13 (by decide)
        have hq := hq.keep hsp eG13 (by omega)
        have hs := hs.keep hsp eG13 (by decide)
        have hlen := (z_len eG13).trans hlen
        have hsl := (z_sl hsp eG13 rfl).trans hsl
        have hfr := hfr.wr hsp eG13 (by decide)
        have hsp := hsp.kept eG13
        change ab_W _ _ _ (List.set G sp (za 20 (zcpy WK SP 0 0 wi))) 57 [some (vR a), some (vz p)] [] _
        rw [← eG13]
        refine ab_aload_n d_MK_arrive_57 rfl ?_
        refine ab_getf (fs := [vR sp, vR wk, vR mk, vz w, vz df, vR stk, vz dp, vz fo, vz fy, vz hw, vR q, vR s, vj stp]) f_MK_9 d_MK_arrive_58 ha.2.2 rfl ?_
        refine zz_iconst d_MK_arrive_61 ?_
        refine ab_iload_n d_MK_arrive_62 rfl ?_
        refine zz_iast d_MK_arrive_63 hsp (by omega) (hsp.2.1 (by decide)) ?_
        obtain ⟨G14, eG14⟩ : ∃ z : ab_G, z = List.set G13 sp (za 20 (zu (zcpy WK SP 0 0 wi) 1 p)) := ⟨_, rfl⟩
        have ha := ha.keep hsp eG14 (by decide)
        have hwk := hwk.keep hsp eG14 (by decide)
        have hq := hq.keep hsp eG14 (by omega)
        have hs := hs.keep hsp eG14 (by decide)
        have hlen := (z_len eG14).trans hlen
        have hsl := (z_sl hsp eG14 rfl).trans hsl
        have hfr := hfr.wr hsp eG14 (by decide)
        have hsp := hsp.kept eG14
        change ab_W _ _ _ (List.set G13 sp (za 20 (zu (zcpy WK SP 0 0 wi) 1 p))) 64 [some (vR a), some (vz p)] [] _
        rw [← eG14]
        refine ab_aload_n d_MK_arrive_64 rfl ?_
        refine zz_iconst d_MK_arrive_65 ?_
        refine ab_putf (fs := [vR sp, vR wk, vR mk, vz w, vz df, vR stk, vz dp, vz fo, vz fy, vz hw, vR q, vR s, vj stp]) f_MK_70 (Or.inl rfl) d_MK_arrive_66 ha.2.2 (Nat.le_of_ble_eq_true rfl) (ab_fbz (by decide)) (ha.2.1 (by decide)) ?_
        obtain ⟨G15, eG15⟩ : ∃ z : ab_G, z = List.set G14 a (ab_ob 2 [vR sp, vR wk, vR mk, vz w, vz df, vR stk, vz dp, vz 1, vz fy, vz hw, vR q, vR s, vj stp]) := ⟨_, rfl⟩
        have hsp := hsp.keep ha eG15 (by decide)
        have hwk := hwk.keep ha eG15 (by decide)
        have hq := hq.keep ha eG15 (by omega)
        have hs := hs.keep ha eG15 (by decide)
        have hlen := (z_len eG15).trans hlen
        have hsl := (z_sl ha eG15 rfl).trans hsl
        have hfr := hfr.wr ha eG15 (by decide)
        have ha := ha.kept eG15
        change ab_W _ _ _ (List.set G14 a (ab_ob 2 [vR sp, vR wk, vR mk, vz w, vz df, vR stk, vz dp, vz 1, vz fy, vz hw, vR q, vR s, vj stp])) 69 [some (vR a), some (vz p)] [] _
        rw [← eG15]
        refine ab_vret rfl d_MK_arrive_69 ?_
        rw [hQ]; exact (Or.inr ⟨rfl, hfr, hlen, hsl, ha, hsp, (by omega)⟩)
      · refine ab_iload_n d_MK_arrive_26 rfl ?_
        refine ab_aload_n d_MK_arrive_27 rfl ?_
        refine ab_getf (fs := [vR sp, vR wk, vR mk, vz w, vz df, vR stk, vz dp, vz fo, vz fy, vz hw, vR q, vR s, vj stp]) f_MK_9 d_MK_arrive_28 ha.2.2 rfl ?_
        refine zz_iconst d_MK_arrive_31 ?_
        refine zz_iald d_MK_arrive_32 hsp (by omega) ?_
        have hq16 := jsp 1 (by omega) (by omega)
        refine zz_icmp_gt (tgt := 37) d_MK_arrive_33 (by decide) (by omega) (by omega) (fun c17 => ?_) (fun c17 => ?_)
        · refine ab_aload_n d_MK_arrive_37 rfl ?_
          refine ab_getf (fs := [vR sp, vR wk, vR mk, vz w, vz df, vR stk, vz dp, vz fo, vz fy, vz hw, vR q, vR s, vj stp]) f_MK_15 d_MK_arrive_38 ha.2.2 rfl ?_
          refine zz_iconst d_MK_arrive_41 ?_
          refine ab_aload_n d_MK_arrive_42 rfl ?_
          refine ab_getf (fs := [vR sp, vR wk, vR mk, vz w, vz df, vR stk, vz dp, vz fo, vz fy, vz hw, vR q, vR s, vj stp]) f_MK_9 d_MK_arrive_43 ha.2.2 rfl ?_
          refine zz_iconst d_MK_arrive_46 ?_
          refine ab_aload_n d_MK_arrive_47 rfl ?_
          refine ab_getf (fs := [vR sp, vR wk, vR mk, vz w, vz df, vR stk, vz dp, vz fo, vz fy, vz hw, vR q, vR s, vj stp]) f_MK_24 d_MK_arrive_48 ha.2.2 rfl ?_
          refine ab_getf (fs := [vR ki, vR ne, vR ot, vz cnt, vz fi, vz la, vR ra, vz ru, vz gr, vz wi, vz sz, vz fl, vz ve, vz mi, vR na, vR nl]) f_MK_83 d_MK_arrive_51 hq.2.2 rfl ?_
          refine zz_copy mj_MK_132 d_MK_arrive_54 hwk hsp (hsp.2.1 (by decide)) (by omega) (Nat.le_of_ble_eq_true rfl) (by omega) ?_
          obtain ⟨G18, eG18⟩ : ∃ z : ab_G, z = List.set G sp (za 20 (zcpy WK SP 0 0 wi)) := ⟨_, rfl⟩
          have ha := ha.keep hsp eG18 (by decide)
          have hwk := hwk.keep hsp eG18 (by decide)
          have hq := hq.keep hsp eG18 (by omega)
          have hs := hs.keep hsp eG18 (by decide)
          have hlen := (z_len eG18).trans hlen
          have hsl := (z_sl hsp eG18 rfl).trans hsl
          have hfr := hfr.wr hsp eG18 (by decide)
          have hsp := hsp.kept eG18
          change ab_W _ _ _ (List.set G sp (za 20 (zcpy WK SP 0 0 wi))) 57 [some (vR a), some (vz p)] [] _
          rw [← eG18]
          refine ab_aload_n d_MK_arrive_57 rfl ?_
          refine ab_getf (fs := [vR sp, vR wk, vR mk, vz w, vz df, vR stk, vz dp, vz fo, vz fy, vz hw, vR q, vR s, vj stp]) f_MK_9 d_MK_arrive_58 ha.2.2 rfl ?_
          refine zz_iconst d_MK_arrive_61 ?_
          refine ab_iload_n d_MK_arrive_62 rfl ?_
          refine zz_iast d_MK_arrive_63 hsp (by omega) (hsp.2.1 (by decide)) ?_
          obtain ⟨G19, eG19⟩ : ∃ z : ab_G, z = List.set G18 sp (za 20 (zu (zcpy WK SP 0 0 wi) 1 p)) := ⟨_, rfl⟩
          have ha := ha.keep hsp eG19 (by decide)
          have hwk := hwk.keep hsp eG19 (by decide)
          have hq := hq.keep hsp eG19 (by omega)
          have hs := hs.keep hsp eG19 (by decide)
          have hlen := (z_len eG19).trans hlen
          have hsl := (z_sl hsp eG19 rfl).trans hsl
          have hfr := hfr.wr hsp eG19 (by decide)
          have hsp := hsp.kept eG19
          change ab_W _ _ _ (List.set G18 sp (za 20 (zu (zcpy WK SP 0 0 wi) 1 p))) 64 [some (vR a), some (vz p)] [] _
          rw [← eG19]
          refine ab_aload_n d_MK_arrive_64 rfl ?_
          refine zz_iconst d_MK_arrive_65 ?_
          refine ab_putf (fs := [vR sp, vR wk, vR mk, vz w, vz df, vR stk, vz dp, vz fo, vz fy, vz hw, vR q, vR s, vj stp]) f_MK_70 (Or.inl rfl) d_MK_arrive_66 ha.2.2 (Nat.le_of_ble_eq_true rfl) (ab_fbz (by decide)) (ha.2.1 (by decide)) ?_
          obtain ⟨G20, eG20⟩ : ∃ z : ab_G, z = List.set G19 a (ab_ob 2 [vR sp, vR wk, vR mk, vz w, vz df, vR stk, vz dp, vz 1, vz fy, vz hw, vR q, vR s, vj stp]) := ⟨_, rfl⟩
          have hsp := hsp.keep ha eG20 (by decide)
          have hwk := hwk.keep ha eG20 (by decide)
          have hq := hq.keep ha eG20 (by omega)
          have hs := hs.keep ha eG20 (by decide)
          have hlen := (z_len eG20).trans hlen
          have hsl := (z_sl ha eG20 rfl).trans hsl
          have hfr := hfr.wr ha eG20 (by decide)
          have ha := ha.kept eG20
          change ab_W _ _ _ (List.set G19 a (ab_ob 2 [vR sp, vR wk, vR mk, vz w, vz df, vR stk, vz dp, vz 1, vz fy, vz hw, vR q, vR s, vj stp])) 69 [some (vR a), some (vz p)] [] _
          rw [← eG20]
          refine ab_vret rfl d_MK_arrive_69 ?_
          rw [hQ]; exact (Or.inr ⟨rfl, hfr, hlen, hsl, ha, hsp, (by omega)⟩)
        · refine ab_vret rfl d_MK_arrive_36 ?_
          rw [hQ]; exact (Or.inl ⟨rfl, rfl, (by omega)⟩)
set_option maxRecDepth 100000 in
set_option maxHeartbeats 4000000 in
theorem y_MK_walk_27 {X : ab_X} {d : Nat} {Q : Outcome → ab_G → Prop} {o0 : Nat → Nat} {G0 : ab_G} {q : Nat} {lq : Nat} {ki : Nat} {ne : Nat} {ot : Nat} {cnt : Int} {fi : Int} {la : Int} {ra : Nat} {ru : Int} {gr : Int} {wi : Int} {sz : Int} {fl : Int} {ve : Int} {mi : Int} {na : Nat} {nl : Nat} {K : Int → Int} {N : Int → Int} {O : Int → Int} {RR : Int → Int} {nr : Nat} {s : Nat} {by_ : Nat} {co : Nat} {re : Nat} {ho : Nat} {n : Int} {f : Int → Int} {C : Int → Int} {Rs : Int → Int} {H : Int → Int} {m : Nat} {mc : Nat} {a : Nat} {sp : Nat} {wk : Nat} {mk : Nat} {w : Int} {fy : Int} {hw : Int} {nm : Nat} {mo : Int} {ns0 : Nat} {st0 : Int} {dp0 : Int} {U0 : Int} {st9 : Int} {fr9 : Int} {S9 : Option (Int × Gr)} {U9 : Int} (cq : 100 ≤ lq ∧ 0 ≤ cnt ∧ cnt ≤ 808 ∧ ↑nr ≤ (100000 : Int)) (hp : prok K N O RR cnt ↑nr wi) (hr : ∀ k : Int, 0 ≤ k → k < ↑nr → 0 ≤ RR k ∧ RR k ≤ 1114111) (csu : 0 ≤ n ∧ n ≤ ↑m ∧ 32 ≤ m ∧ m ≤ 2000 ∧ mc = m + 1) (hsu : suok f C Rs H n) (cw : 1 ≤ w ∧ w ≤ 26 ∧ cnt ≤ 32 * w) (cm : (n + 1) * w ≤ ↑nm ∧ ↑nm ≤ (52026 : Int)) (cwi : 2 ≤ wi ∧ wi ≤ 20) (cmo : 0 ≤ mo ∧ mo ≤ 1616808) (rc0 : G0.length + 5 ≤ ab_n0 + room_1.cells + stC ns0) (rs0 : ab_slots G0 + 1916393 ≤ room_1.slots + stT ns0) (hd : 4 ≤ d) : ∀ (mz : Nat) {G : ab_G} {o : Nat → Nat} {stk : Nat} {df : Int} {dp : Int} {fo : Int} {stp : Int} {SP : Int → Int} {WK : Int → Int} {M : Int → Int} {SK : Int → Int} {ns : Nat} {x : Int} {p : Int} {tu : Int}, (cc o G a 44 (ab_ob 2 [vR sp, vR wk, vR mk, vz w, vz df, vR stk, vz dp, vz fo, vz fy, vz hw, vR q, vR s, vj stp])) → (cc o G sp 31 (za 20 SP)) → (cc o G wk 45 (za 20 WK)) → (cc o G mk 46 (za nm M)) → (cc o G stk 47 (za ns SK)) → (cc o G q lq (ab_ob 5 [vR ki, vR ne, vR ot, vz cnt, vz fi, vz la, vR ra, vz ru, vz gr, vz wi, vz sz, vz fl, vz ve, vz mi, vR na, vR nl])) → (cc o G ki (lq + 1) (za 808 K)) → (cc o G ne (lq + 2) (za 808 N)) → (cc o G ot (lq + 3) (za 808 O)) → (cc o G ra (lq + 4) (za nr RR)) → (cc o G s 26 (ab_ob 9 [vR by_, vR co, vR re, vR ho, vz n])) → (cc o G co 28 (za mc C)) → (cc o G re 29 (za mc Rs)) → (cc o G ho 30 (za mc H)) → (0 ≤ x ∧ x < cnt ∧ 0 ≤ p ∧ p ≤ n) → (0 ≤ tu ∧ tu ≤ mo) → (0 ≤ df ∧ df ≤ n + 1) → (0 ≤ dp ∧ dp ≤ ↑ns) → (stn ns) → (64 ≤ ns ∧ ns ≤ 1616809) → (0 ≤ fo ∧ fo ≤ 1 ∧ 0 ≤ fy ∧ fy ≤ 1 ∧ 0 ≤ hw ∧ hw ≤ 2) → (rgs WK wi (-1) n) → (rgs SP 20 (-1) 2000) → (skos SK dp cnt n wi) → (0 ≤ WK 0) → (spo fo SP wi n) → (G.length + stC ns0 = G0.length + stC ns) → (ab_slots G + stT ns0 = ab_slots G0 + stT ns) → (wkC K N O RR f n hw fy wi st9 fr9 M w df SK dp WK fo SP x p S9) → (tu + ucc M w df cnt n ≤ mo ∧ dp + ucc M w df cnt n ≤ U9 ∧ U9 ≤ mo) → (st0 ≤ stp ∧ stp + dp + 2 * ucn M w df n ≤ st0 + dp0 + 2 * U0) → (fx o0 o [44, 45, 46, 47, 31] G0 G) → (Int.toNat (mo - tu) < mz) → (∀ (G2 : ab_G) (o2 : Nat → Nat) (df2 : Int) (dp2 : Int) (fo2 : Int) (st2 : Int) (sk2 : Nat) (ns2 : Nat) (WK2 : Int → Int) (M2 : Int → Int) (SK2 : Int → Int) (SP2 : Int → Int), (cc o2 G2 a 44 (ab_ob 2 [vR sp, vR wk, vR mk, vz w, vz df2, vR sk2, vz dp2, vz fo2, vz fy, vz hw, vR q, vR s, vj st2])) → (cc o2 G2 sp 31 (za 20 SP2)) → (cc o2 G2 wk 45 (za 20 WK2)) → (cc o2 G2 mk 46 (za nm M2)) → (cc o2 G2 sk2 47 (za ns2 SK2)) → (0 ≤ df2 ∧ df2 ≤ n + 1) → (0 ≤ dp2 ∧ dp2 ≤ ↑ns2) → (stn ns2) → (64 ≤ ns2 ∧ ns2 ≤ 1616809) → (0 ≤ fo2 ∧ fo2 ≤ 1) → (rgs WK2 wi (-1) n) → (rgs SP2 20 (-1) 2000) → (skos SK2 dp2 cnt n wi) → (0 ≤ WK2 0) → (spo fo2 SP2 wi n) → (G2.length + stC ns0 = G0.length + stC ns2) → (ab_slots G2 + stT ns0 = ab_slots G0 + stT ns2) → (tyC K N O RR f n hw fy wi st9 fr9 M2 w df2 SK2 dp2 WK2 fo2 SP2 S9) → (dp2 + ucc M2 w df2 cnt n ≤ U9) → (st0 ≤ st2 ∧ st2 + dp2 + 2 * ucn M2 w df2 n ≤ st0 + dp0 + 1 + 2 * U0) → (fx o0 o2 [44, 45, 46, 47, 31] G0 G2) → Q (.returned none) G2) → ab_W X (ab_pl y_MK_walk b_MK_walk 10 none) d G 27 [some (vR a), none, none, some (vz x), some (vz p), some (vz mo), some (vz tu), none, none, none] [] Q := by
  intro mz
  induction mz with
  | zero => intro G o stk df dp fo stp SP WK M SK ns x p tu ha hsp hwk hmk hstk hq hki hne hot hra hs hco hre hho cx ct cd cdp hst hs2 cf jwk jsp jsk c0k jspo hgl hgs js ju hst9 hfr hm hk0; exact absurd hm (Nat.not_lt_zero _)
  | succ mz ih =>
    intro G o stk df dp fo stp SP WK M SK ns x p tu ha hsp hwk hmk hstk hq hki hne hot hra hs hco hre hho cx ct cd cdp hst hs2 cf jwk jsp jsk c0k jspo hgl hgs js ju hst9 hfr hm hk0
    refine ab_iload d_MK_walk_27 rfl ?_
    refine ab_iload d_MK_walk_29 rfl ?_
    refine zz_icmp_ge (tgt := 210) d_MK_walk_31 (by decide) (by omega) (by omega) (fun c1 => ?_) (fun c1 => ?_)
    · refine ab_vret rfl d_MK_walk_210 ?_
      exact hk0 _ _ _ _ _ _ _ _ _ _ _ _ ha hsp hwk hmk hstk (by omega) (by omega) (by exact hst) (by omega) (by omega) (by first | exact jwk | exact rgs_w jwk (by omega)) (by first | exact jsp | exact rgs_w jsp (by omega)) (by exact jsk) (by omega) (by exact jspo) (by omega) (by omega) (by exact wkC.out (cnt := cnt) js (by omega) (by omega) (by omega) (by omega)) (by omega) (by omega) hfr
    · refine ab_aload_n d_MK_walk_34 rfl ?_
      refine ab_iload_n d_MK_walk_35 rfl ?_
      refine ab_iload d_MK_walk_36 rfl ?_
      refine ab_callV (d' := d - 1) (as := [vz x, vz p]) (st := []) (r := _) (z_MK_mark (o := o) (q := q) (s := s) (a := a) (sp := sp) (wk := wk) (mk := mk) (stk := stk) (w := w) (df := df) (dp := dp) (fo := fo) (fy := fy) (hw := hw) (stp := stp) (M := M) (nm := nm) (x := x) (p := p) ha hmk (by omega) (by omega) (by omega) (by omega) (by omega)) (fun oc G2 h => by rcases h with ⟨_, _, h, _⟩ | ⟨_, _, h, _⟩ <;> exact ⟨_, h⟩) (by omega) m_MK_mark ml_MK_105 im_MK_mark se_MK_mark c_MK ha.2.2 (Nat.le_of_ble_eq_true rfl) d_MK_walk_38 rfl ?_
      intro v G2 hq
      rcases hq with ⟨df23, M24, hv, hfk, hlk, hsk, hNa, hNmk, hq5, hq6, hq7, hq8⟩ | ⟨df29, M210, hv, hfk, hlk, hsk, hNa, hNmk, hq11, hq12, hq13, hq14⟩
      · cases hv
        have hsp := hfk.get hsp (by decide)
        have hwk := hfk.get hwk (by decide)
        have hstk := hfk.get hstk (by decide)
        have hq := hfk.get hq (by simp only [List.mem_cons, List.not_mem_nil, or_false]; omega)
        have hki := hfk.get hki (by simp only [List.mem_cons, List.not_mem_nil, or_false]; omega)
        have hne := hfk.get hne (by simp only [List.mem_cons, List.not_mem_nil, or_false]; omega)
        have hot := hfk.get hot (by simp only [List.mem_cons, List.not_mem_nil, or_false]; omega)
        have hra := hfk.get hra (by simp only [List.mem_cons, List.not_mem_nil, or_false]; omega)
        have hs := hfk.get hs (by decide)
        have hco := hfk.get hco (by decide)
        have hre := hfk.get hre (by decide)
        have hho := hfk.get hho (by decide)
        have hfr := hfr.tr hfk (by decide)
        have hq15 := hlk
        have hq16 := hsk
        have ha := hNa
        have hmk := hNmk
        change ab_W _ _ _ G2 41 [some (vR a), none, none, some (vz x), some (vz p), some (vz mo), some (vz tu), none, none, none] [vz 1] _
        have hub_ := (ucc_b (M := M24) (w := w) (df := df23) (cnt := cnt) (n := n) (by omega) (by omega)).1
        have hu1_ := ucc_1 (cnt := cnt) (n := n) (by omega) (by omega) (by omega) hq6 hq7
        refine zz_if_eq (tgt := 210) d_MK_walk_41 (by decide) (by decide) (fun c19 => absurd c19 (by decide)) (fun c19 => ?_)
        refine ab_aload_n d_MK_walk_44 rfl ?_
        refine ab_getf (fs := [vR sp, vR wk, vR mk, vz w, vz df23, vR stk, vz dp, vz fo, vz fy, vz hw, vR q, vR s, vj (stp + 1)]) f_MK_24 d_MK_walk_45 ha.2.2 rfl ?_
        refine ab_getf (fs := [vR ki, vR ne, vR ot, vz cnt, vz fi, vz la, vR ra, vz ru, vz gr, vz wi, vz sz, vz fl, vz ve, vz mi, vR na, vR nl]) f_MK_109 d_MK_walk_48 hq.2.2 rfl ?_
        refine ab_iload_n d_MK_walk_51 rfl ?_
        refine zz_iald d_MK_walk_52 hki (by omega) ?_
        have hq20 := hp.k x (by omega) (by omega)
        refine ab_istore d_MK_walk_53 (Nat.le_of_ble_eq_true rfl) (Nat.le_of_ble_eq_true rfl) rfl ?_
        change ab_W _ _ _ G2 55 [some (vR a), none, none, some (vz x), some (vz p), some (vz mo), some (vz tu), some (vz (K x)), none, none] [] _
        refine ab_aload_n d_MK_walk_55 rfl ?_
        refine ab_getf (fs := [vR sp, vR wk, vR mk, vz w, vz df23, vR stk, vz dp, vz fo, vz fy, vz hw, vR q, vR s, vj (stp + 1)]) f_MK_24 d_MK_walk_56 ha.2.2 rfl ?_
        refine ab_getf (fs := [vR ki, vR ne, vR ot, vz cnt, vz fi, vz la, vR ra, vz ru, vz gr, vz wi, vz sz, vz fl, vz ve, vz mi, vR na, vR nl]) f_MK_112 d_MK_walk_59 hq.2.2 rfl ?_
        refine ab_iload_n d_MK_walk_62 rfl ?_
        refine zz_iald d_MK_walk_63 hot (by omega) ?_
        refine ab_istore d_MK_walk_64 (Nat.le_of_ble_eq_true rfl) (Nat.le_of_ble_eq_true rfl) rfl ?_
        change ab_W _ _ _ G2 66 [some (vR a), none, none, some (vz x), some (vz p), some (vz mo), some (vz tu), some (vz (K x)), some (vz (O x)), none] [] _
        refine ab_iload d_MK_walk_66 rfl ?_
        refine zz_iconst d_MK_walk_68 ?_
        refine zz_icmp_gt (tgt := 104) d_MK_walk_69 (by decide) (by omega) (by decide) (fun c21 => ?_) (fun c21 => ?_)
        · refine ab_iload d_MK_walk_104 rfl ?_
          refine zz_bipush d_MK_walk_106 (by decide) ?_
          refine zz_icmp_ne (tgt := 126) d_MK_walk_108 (by decide) (by omega) (by decide) (fun c22 => ?_) (fun c22 => ?_)
          · refine ab_iload d_MK_walk_126 rfl ?_
            refine zz_bipush d_MK_walk_128 (by decide) ?_
            refine zz_icmp_ne (tgt := 158) d_MK_walk_130 (by decide) (by omega) (by decide) (fun c23 => ?_) (fun c23 => ?_)
            · refine ab_iload d_MK_walk_158 rfl ?_
              refine zz_bipush d_MK_walk_160 (by decide) ?_
              refine zz_icmp_ne (tgt := 172) d_MK_walk_162 (by decide) (by omega) (by decide) (fun c24 => ?_) (fun c24 => ?_)
              · refine ab_iload d_MK_walk_172 rfl ?_
                refine zz_bipush d_MK_walk_174 (by decide) ?_
                refine zz_icmp_eq (tgt := 193) d_MK_walk_176 (by decide) (by omega) (by decide) (fun c25 => ?_) (fun c25 => ?_)
                · refine ab_vret rfl d_MK_walk_193 ?_
                  exact hk0 _ _ _ _ _ _ _ _ _ _ _ _ ha hsp hwk hmk hstk (by omega) (by omega) (by exact hst) (by omega) (by omega) (by first | exact jwk | exact rgs_w jwk (by omega)) (by first | exact jsp | exact rgs_w jsp (by omega)) (by exact jsk) (by omega) (by exact jspo) (by omega) (by omega) (by exact wkC.stop js hq7 (by omega)) (by omega) (by omega) hfr
                · have jne := hp.ne x (by omega) (by omega)
                  have jo := hp.o3 x (by omega) (by omega) (by omega)
                  refine ab_aload_n d_MK_walk_179 rfl ?_
                  refine ab_getf (fs := [vR sp, vR wk, vR mk, vz w, vz df23, vR stk, vz dp, vz fo, vz fy, vz hw, vR q, vR s, vj (stp + 1)]) f_MK_28 d_MK_walk_180 ha.2.2 rfl ?_
                  refine ab_iload d_MK_walk_183 rfl ?_
                  refine ab_iload d_MK_walk_185 rfl ?_
                  refine ab_callV (d' := d - 1) (as := [vz (O x), vz p]) (st := []) (r := _) (z_SU_holds (o := o) (s := s) (by_ := by_) (co := co) (re := re) (ho := ho) (n := n) (H := H) (mc := mc) (p := p) (a := (O x)) hs hho (by omega) (by omega) (by omega) hsu) (fun oc G2 h => by rcases h with ⟨h, _⟩ | ⟨h, _⟩ <;> exact ⟨_, h⟩) (by omega) m_SU_holds ml_MK_126 im_SU_holds se_SU_holds c_SU hs.2.2 (Nat.le_of_ble_eq_true rfl) d_MK_walk_187 rfl ?_
                  intro v G26 hq
                  rcases hq with ⟨hv, hGe, hq27⟩ | ⟨hv, hGe, hq28⟩
                  · cases hv
                    rw [hGe]
                    change ab_W _ _ _ G2 190 [some (vR a), none, none, some (vz x), some (vz p), some (vz mo), some (vz tu), some (vz (K x)), some (vz (O x)), none] [vz 1] _
                    refine zz_if_ne (tgt := 194) d_MK_walk_190 (by decide) (by decide) (fun c29 => ?_) (fun c29 => absurd c29 (by decide))
                    refine ab_aload_n d_MK_walk_194 rfl ?_
                    refine ab_getf (fs := [vR sp, vR wk, vR mk, vz w, vz df23, vR stk, vz dp, vz fo, vz fy, vz hw, vR q, vR s, vj (stp + 1)]) f_MK_24 d_MK_walk_195 ha.2.2 rfl ?_
                    refine ab_getf (fs := [vR ki, vR ne, vR ot, vz cnt, vz fi, vz la, vR ra, vz ru, vz gr, vz wi, vz sz, vz fl, vz ve, vz mi, vR na, vR nl]) f_MK_129 d_MK_walk_198 hq.2.2 rfl ?_
                    refine ab_iload_n d_MK_walk_201 rfl ?_
                    refine zz_iald d_MK_walk_202 hne (by omega) ?_
                    have hq30 := hp.n x (by omega) (by omega)
                    refine ab_istore_n d_MK_walk_203 (Nat.le_of_ble_eq_true rfl) (Nat.le_of_ble_eq_true rfl) rfl ?_
                    change ab_W _ _ _ G2 204 [some (vR a), none, none, some (vz (N x)), some (vz p), some (vz mo), some (vz tu), some (vz (K x)), some (vz (O x)), none] [] _
                    refine zz_iinc d_MK_walk_204 rfl (Nat.le_of_ble_eq_true rfl) (Nat.le_of_ble_eq_true rfl) rfl ?_
                    change ab_W _ _ _ G2 207 [some (vR a), none, none, some (vz (N x)), some (vz p), some (vz mo), some (vz (tu + 1)), some (vz (K x)), some (vz (O x)), none] [] _
                    refine ab_goto (tgt := 27) d_MK_walk_207 (by decide) ?_
                    refine ab_less (L' := [some (vR a), none, none, some (vz (N x)), some (vz p), some (vz mo), some (vz (tu + 1)), none, none, none]) (fun i v h => by rcases i with _ | _ | _ | _ | _ | _ | _ | _ | _ | _ | i <;> first | exact h | (simp at h)) ?_
                    exact ih (stk := stk) (df := df23) (dp := dp) (fo := fo) (stp := (stp + 1)) (SP := SP) (WK := WK) (M := M24) (SK := SK) (ns := ns) (x := (N x)) (p := p) (tu := (tu + 1)) ha hsp hwk hmk hstk hq hki hne hot hra hs hco hre hho (by omega) (by omega) (by omega) (by omega) hst (by omega) (by omega) jwk jsp jsk (by omega) jspo (by omega) (by omega) (wkC.ask js hq7 (by omega) hq27) (by omega) (by omega) hfr (by omega) hk0
                  · cases hv
                    rw [hGe]
                    change ab_W _ _ _ G2 190 [some (vR a), none, none, some (vz x), some (vz p), some (vz mo), some (vz tu), some (vz (K x)), some (vz (O x)), none] [vz 0] _
                    refine zz_if_ne (tgt := 194) d_MK_walk_190 (by decide) (by decide) (fun c31 => absurd c31 (by decide)) (fun c31 => ?_)
                    refine ab_vret rfl d_MK_walk_193 ?_
                    exact hk0 _ _ _ _ _ _ _ _ _ _ _ _ ha hsp hwk hmk hstk (by omega) (by omega) (by exact hst) (by omega) (by omega) (by first | exact jwk | exact rgs_w jwk (by omega)) (by first | exact jsp | exact rgs_w jsp (by omega)) (by exact jsk) (by omega) (by exact jspo) (by omega) (by omega) (by exact wkC.ask0 js hq7 (by omega) hq28) (by omega) (by omega) hfr
              · refine ab_aload_n d_MK_walk_165 rfl ?_
                refine ab_iload d_MK_walk_166 rfl ?_
                refine ab_callV (d' := d - 1) (as := [vz p]) (st := []) (r := _) (z_MK_arrive (o := o) (q := q) (lq := lq) (ki := ki) (ne := ne) (ot := ot) (cnt := cnt) (fi := fi) (la := la) (ra := ra) (ru := ru) (gr := gr) (wi := wi) (sz := sz) (fl := fl) (ve := ve) (mi := mi) (na := na) (nl := nl) (s := s) (by_ := by_) (co := co) (re := re) (ho := ho) (n := n) (a := a) (sp := sp) (wk := wk) (mk := mk) (stk := stk) (w := w) (df := df23) (dp := dp) (fo := fo) (fy := fy) (hw := hw) (stp := (stp + 1)) (SP := SP) (WK := WK) (p := p) ha hsp hwk hq hs (by omega) (by omega) (by omega) jwk jsp (by omega) (by omega) (by omega)) (fun oc G2 h => by rcases h with ⟨h, _⟩ | ⟨h, _⟩ <;> exact ⟨_, h⟩) (by omega) m_MK_arrive ml_MK_123 im_MK_arrive se_MK_arrive c_MK ha.2.2 (Nat.le_of_ble_eq_true rfl) d_MK_walk_168 rfl ?_
                intro v G32 hq
                rcases hq with ⟨hv, hGe, hq33⟩ | ⟨hv, hfk, hlk, hsk, hNa, hNsp, hq34⟩
                · cases hv
                  rw [hGe]
                  change ab_W _ _ _ G2 171 [some (vR a), none, none, some (vz x), some (vz p), some (vz mo), some (vz tu), some (vz (K x)), some (vz (O x)), none] [] _
                  refine ab_vret rfl d_MK_walk_171 ?_
                  exact hk0 _ _ _ _ _ _ _ _ _ _ _ _ ha hsp hwk hmk hstk (by omega) (by omega) (by exact hst) (by omega) (by omega) (by first | exact jwk | exact rgs_w jwk (by omega)) (by first | exact jsp | exact rgs_w jsp (by omega)) (by exact jsk) (by omega) (by exact jspo) (by omega) (by omega) (by exact wkC.arr0 js hq7 (by omega) hsu hq33) (by omega) (by omega) hfr
                · cases hv
                  have hwk := hfk.get hwk (by decide)
                  have hmk := hfk.get hmk (by decide)
                  have hstk := hfk.get hstk (by decide)
                  have hq := hfk.get hq (by simp only [List.mem_cons, List.not_mem_nil, or_false]; omega)
                  have hki := hfk.get hki (by simp only [List.mem_cons, List.not_mem_nil, or_false]; omega)
                  have hne := hfk.get hne (by simp only [List.mem_cons, List.not_mem_nil, or_false]; omega)
                  have hot := hfk.get hot (by simp only [List.mem_cons, List.not_mem_nil, or_false]; omega)
                  have hra := hfk.get hra (by simp only [List.mem_cons, List.not_mem_nil, or_false]; omega)
                  have hs := hfk.get hs (by decide)
                  have hco := hfk.get hco (by decide)
                  have hre := hfk.get hre (by decide)
                  have hho := hfk.get hho (by decide)
                  have hfr := hfr.tr hfk (by decide)
                  have hq35 := hlk
                  have hq36 := hsk
                  have ha := hNa
                  have hsp := hNsp
                  change ab_W _ _ _ G32 171 [some (vR a), none, none, some (vz x), some (vz p), some (vz mo), some (vz tu), some (vz (K x)), some (vz (O x)), none] [] _
                  refine ab_vret rfl d_MK_walk_171 ?_
                  exact hk0 _ _ _ _ _ _ _ _ _ _ _ _ ha hsp hwk hmk hstk (by omega) (by omega) (by exact hst) (by omega) (by omega) (by first | exact jwk | exact rgs_w jwk (by omega)) (by first | exact (rgs_zu (rgs_cpy jwk jsp (by omega)) (by omega)) | exact rgs_w (rgs_zu (rgs_cpy jwk jsp (by omega)) (by omega)) (by omega)) (by exact jsk) (by omega) (by exact spo_arr jwk c0k (by omega) (by omega)) (by omega) (by omega) (by exact wkC.arr1 js hq7 (by omega) hsu hq34 (by omega)) (by omega) (by omega) hfr
            · have jo := hp.o7 x (by omega) (by omega) (by omega)
              have hwv := jwk (O x) (by omega) (by omega)
              refine ab_aload_n d_MK_walk_133 rfl ?_
              refine ab_aload_n d_MK_walk_134 rfl ?_
              refine ab_getf (fs := [vR sp, vR wk, vR mk, vz w, vz df23, vR stk, vz dp, vz fo, vz fy, vz hw, vR q, vR s, vj (stp + 1)]) f_MK_15 d_MK_walk_135 ha.2.2 rfl ?_
              refine ab_iload d_MK_walk_138 rfl ?_
              refine ab_callS (d' := d - 1) (as := [vR wk, vz (O x)]) (st := [vR a]) (z_PW_undoOf (o := o) (a := wk) (l := 45) (m := 20) (f := WK) (s := (O x)) hwk (by omega) (by omega)) (fun oc G2 h => by rcases h with ⟨h, _⟩ <;> exact ⟨_, h⟩) (by omega) m_PW_undoOf ml_MK_119 st_PW_undoOf (Nat.le_of_ble_eq_true rfl) d_MK_walk_140 rfl ?_
              intro v G37 hq
              rcases hq with ⟨hv, hGe⟩
              cases hv
              rw [hGe]
              change ab_W _ _ _ G2 143 [some (vR a), none, none, some (vz x), some (vz p), some (vz mo), some (vz tu), some (vz (K x)), some (vz (O x)), none] [vz (-1 - ((O x) * 4096 + (WK (O x) + 1))), vR a] _
              refine ab_callV (d' := d - 1) (as := [vz (-1 - ((O x) * 4096 + (WK (O x) + 1)))]) (st := []) (r := _) (z_MK_push (o := o) (q := q) (s := s) (a := a) (sp := sp) (wk := wk) (mk := mk) (stk := stk) (w := w) (df := df23) (dp := dp) (fo := fo) (fy := fy) (hw := hw) (stp := (stp + 1)) (SK := SK) (ns := ns) (v := (-1 - ((O x) * 4096 + (WK (O x) + 1)))) ha hstk (by omega) hst (by omega) (by omega) (by omega) (by omega)) (fun oc G2 h => by rcases h with ⟨_, _, _, _, h, _⟩ | ⟨_, h, _⟩ <;> exact ⟨_, h⟩) (by omega) m_MK_push ml_MK_92 im_MK_push se_MK_push c_MK ha.2.2 (Nat.le_of_ble_eq_true rfl) d_MK_walk_143 rfl ?_
              intro v G38 hq
              rcases hq with ⟨o39, sk240, ns241, SK242, hv, hfk, hNa, hNsk240, hq43, hq44, hq45, hq46, hq47, hq48⟩ | ⟨o49, hv, hfk, hNa, hNstk, hq50, hq51, hq52⟩
              · cases hv
                have hsp := hfk.get hsp (by decide)
                have hwk := hfk.get hwk (by decide)
                have hmk := hfk.get hmk (by decide)
                have hq := hfk.get hq (by simp only [List.mem_cons, List.not_mem_nil, or_false]; omega)
                have hki := hfk.get hki (by simp only [List.mem_cons, List.not_mem_nil, or_false]; omega)
                have hne := hfk.get hne (by simp only [List.mem_cons, List.not_mem_nil, or_false]; omega)
                have hot := hfk.get hot (by simp only [List.mem_cons, List.not_mem_nil, or_false]; omega)
                have hra := hfk.get hra (by simp only [List.mem_cons, List.not_mem_nil, or_false]; omega)
                have hs := hfk.get hs (by decide)
                have hco := hfk.get hco (by decide)
                have hre := hfk.get hre (by decide)
                have hho := hfk.get hho (by decide)
                have hfr := hfr.tr hfk (by decide)
                have hq53 := hfk.1
                have ha := hNa
                have hsk240 := hNsk240
                change ab_W _ _ _ G38 146 [some (vR a), none, none, some (vz x), some (vz p), some (vz mo), some (vz tu), some (vz (K x)), some (vz (O x)), none] [] _
                refine ab_aload_n d_MK_walk_146 rfl ?_
                refine ab_getf (fs := [vR sp, vR wk, vR mk, vz w, vz df23, vR sk240, vz (dp + 1), vz fo, vz fy, vz hw, vR q, vR s, vj (stp + 1)]) f_MK_15 d_MK_walk_147 ha.2.2 rfl ?_
                refine ab_iload d_MK_walk_150 rfl ?_
                refine ab_iload d_MK_walk_152 rfl ?_
                refine zz_iast d_MK_walk_154 hwk (by omega) (hwk.2.1 (by decide)) ?_
                obtain ⟨G55, eG55⟩ : ∃ z : ab_G, z = List.set G38 wk (za 20 (zu WK (O x) p)) := ⟨_, rfl⟩
                have ha := ha.keep hwk eG55 (by decide)
                have hsp := hsp.keep hwk eG55 (by decide)
                have hmk := hmk.keep hwk eG55 (by decide)
                have hq := hq.keep hwk eG55 (by omega)
                have hki := hki.keep hwk eG55 (by omega)
                have hne := hne.keep hwk eG55 (by omega)
                have hot := hot.keep hwk eG55 (by omega)
                have hra := hra.keep hwk eG55 (by omega)
                have hs := hs.keep hwk eG55 (by decide)
                have hco := hco.keep hwk eG55 (by decide)
                have hre := hre.keep hwk eG55 (by decide)
                have hho := hho.keep hwk eG55 (by decide)
                have hsk240 := hsk240.keep hwk eG55 (by decide)
                have hq56 := z_len eG55
                have hq57 := z_sl hwk eG55 rfl
                have hfr := hfr.wr hwk eG55 (by decide)
                have hwk := hwk.kept eG55
                change ab_W _ _ _ (List.set G38 wk (za 20 (zu WK (O x) p))) 155 [some (vR a), none, none, some (vz x), some (vz p), some (vz mo), some (vz tu), some (vz (K x)), some (vz (O x)), none] [] _
                rw [← eG55]
                refine ab_goto (tgt := 194) d_MK_walk_155 (by decide) ?_
                refine ab_aload_n d_MK_walk_194 rfl ?_
                refine ab_getf (fs := [vR sp, vR wk, vR mk, vz w, vz df23, vR sk240, vz (dp + 1), vz fo, vz fy, vz hw, vR q, vR s, vj (stp + 1)]) f_MK_24 d_MK_walk_195 ha.2.2 rfl ?_
                refine ab_getf (fs := [vR ki, vR ne, vR ot, vz cnt, vz fi, vz la, vR ra, vz ru, vz gr, vz wi, vz sz, vz fl, vz ve, vz mi, vR na, vR nl]) f_MK_129 d_MK_walk_198 hq.2.2 rfl ?_
                refine ab_iload_n d_MK_walk_201 rfl ?_
                refine zz_iald d_MK_walk_202 hne (by omega) ?_
                have hq58 := hp.n x (by omega) (by omega)
                refine ab_istore_n d_MK_walk_203 (Nat.le_of_ble_eq_true rfl) (Nat.le_of_ble_eq_true rfl) rfl ?_
                change ab_W _ _ _ G55 204 [some (vR a), none, none, some (vz (N x)), some (vz p), some (vz mo), some (vz tu), some (vz (K x)), some (vz (O x)), none] [] _
                refine zz_iinc d_MK_walk_204 rfl (Nat.le_of_ble_eq_true rfl) (Nat.le_of_ble_eq_true rfl) rfl ?_
                change ab_W _ _ _ G55 207 [some (vR a), none, none, some (vz (N x)), some (vz p), some (vz mo), some (vz (tu + 1)), some (vz (K x)), some (vz (O x)), none] [] _
                refine ab_goto (tgt := 27) d_MK_walk_207 (by decide) ?_
                refine ab_less (L' := [some (vR a), none, none, some (vz (N x)), some (vz p), some (vz mo), some (vz (tu + 1)), none, none, none]) (fun i v h => by rcases i with _ | _ | _ | _ | _ | _ | _ | _ | _ | _ | i <;> first | exact h | (simp at h)) ?_
                exact ih (stk := sk240) (df := df23) (dp := (dp + 1)) (fo := fo) (stp := (stp + 1)) (SP := SP) (WK := (zu WK (O x) p)) (M := M24) (SK := SK242) (ns := ns241) (x := (N x)) (p := p) (tu := (tu + 1)) ha hsp hwk hmk hsk240 hq hki hne hot hra hs hco hre hho (by omega) (by omega) (by omega) (by omega) hq43 (by omega) (by omega) (rgs_zu jwk (by omega)) jsp (skos_s jsk hq44 hq45 (by first | exact sko_s (by omega) | exact sko_u (by omega))) (by rw [zu_ne (by omega)]; omega) jspo (by omega) (by omega) (wkC.save js hq7 (by omega) hq44 hq45 (by omega) (by omega)) (by omega) (by omega) hfr (by omega) hk0
              · cases hv
                have hsp := hfk.get hsp (by decide)
                have hwk := hfk.get hwk (by decide)
                have hmk := hfk.get hmk (by decide)
                have hq := hfk.get hq (by simp only [List.mem_cons, List.not_mem_nil, or_false]; omega)
                have hki := hfk.get hki (by simp only [List.mem_cons, List.not_mem_nil, or_false]; omega)
                have hne := hfk.get hne (by simp only [List.mem_cons, List.not_mem_nil, or_false]; omega)
                have hot := hfk.get hot (by simp only [List.mem_cons, List.not_mem_nil, or_false]; omega)
                have hra := hfk.get hra (by simp only [List.mem_cons, List.not_mem_nil, or_false]; omega)
                have hs := hfk.get hs (by decide)
                have hco := hfk.get hco (by decide)
                have hre := hfk.get hre (by decide)
                have hho := hfk.get hho (by decide)
                have hfr := hfr.tr hfk (by decide)
                have hq54 := hfk.1
                have ha := hNa
                have hstk := hNstk
                change ab_W _ _ _ G38 146 [some (vR a), none, none, some (vz x), some (vz p), some (vz mo), some (vz tu), some (vz (K x)), some (vz (O x)), none] [] _
                exfalso; omega
          · have jo := hp.o6 x (by omega) (by omega) (by omega)
            refine ab_aload_n d_MK_walk_111 rfl ?_
            refine ab_iload d_MK_walk_112 rfl ?_
            refine zz_bipush d_MK_walk_114 (by decide) ?_
            refine zz_ishl 10 1024 d_MK_walk_116 (by decide) (by decide) (by decide) ?_
            refine ab_iload d_MK_walk_117 rfl ?_
            refine zz_iorlow (a := p) 10 1024 d_MK_walk_119 (by decide) (by decide) (by omega) ?_
            refine ab_callV (d' := d - 1) (as := [vz ((p * 1024) + (O x))]) (st := []) (r := _) (z_MK_push (o := o) (q := q) (s := s) (a := a) (sp := sp) (wk := wk) (mk := mk) (stk := stk) (w := w) (df := df23) (dp := dp) (fo := fo) (fy := fy) (hw := hw) (stp := (stp + 1)) (SK := SK) (ns := ns) (v := ((p * 1024) + (O x))) ha hstk (by omega) hst (by omega) (by omega) (by omega) (by omega)) (fun oc G2 h => by rcases h with ⟨_, _, _, _, h, _⟩ | ⟨_, h, _⟩ <;> exact ⟨_, h⟩) (by omega) m_MK_push ml_MK_92 im_MK_push se_MK_push c_MK ha.2.2 (Nat.le_of_ble_eq_true rfl) d_MK_walk_120 rfl ?_
            intro v G59 hq
            rcases hq with ⟨o60, sk261, ns262, SK263, hv, hfk, hNa, hNsk261, hq64, hq65, hq66, hq67, hq68, hq69⟩ | ⟨o70, hv, hfk, hNa, hNstk, hq71, hq72, hq73⟩
            · cases hv
              have hsp := hfk.get hsp (by decide)
              have hwk := hfk.get hwk (by decide)
              have hmk := hfk.get hmk (by decide)
              have hq := hfk.get hq (by simp only [List.mem_cons, List.not_mem_nil, or_false]; omega)
              have hki := hfk.get hki (by simp only [List.mem_cons, List.not_mem_nil, or_false]; omega)
              have hne := hfk.get hne (by simp only [List.mem_cons, List.not_mem_nil, or_false]; omega)
              have hot := hfk.get hot (by simp only [List.mem_cons, List.not_mem_nil, or_false]; omega)
              have hra := hfk.get hra (by simp only [List.mem_cons, List.not_mem_nil, or_false]; omega)
              have hs := hfk.get hs (by decide)
              have hco := hfk.get hco (by decide)
              have hre := hfk.get hre (by decide)
              have hho := hfk.get hho (by decide)
              have hfr := hfr.tr hfk (by decide)
              have hq74 := hfk.1
              have ha := hNa
              have hsk261 := hNsk261
              change ab_W _ _ _ G59 123 [some (vR a), none, none, some (vz x), some (vz p), some (vz mo), some (vz tu), some (vz (K x)), some (vz (O x)), none] [] _
              refine ab_goto (tgt := 194) d_MK_walk_123 (by decide) ?_
              refine ab_aload_n d_MK_walk_194 rfl ?_
              refine ab_getf (fs := [vR sp, vR wk, vR mk, vz w, vz df23, vR sk261, vz (dp + 1), vz fo, vz fy, vz hw, vR q, vR s, vj (stp + 1)]) f_MK_24 d_MK_walk_195 ha.2.2 rfl ?_
              refine ab_getf (fs := [vR ki, vR ne, vR ot, vz cnt, vz fi, vz la, vR ra, vz ru, vz gr, vz wi, vz sz, vz fl, vz ve, vz mi, vR na, vR nl]) f_MK_129 d_MK_walk_198 hq.2.2 rfl ?_
              refine ab_iload_n d_MK_walk_201 rfl ?_
              refine zz_iald d_MK_walk_202 hne (by omega) ?_
              have hq76 := hp.n x (by omega) (by omega)
              refine ab_istore_n d_MK_walk_203 (Nat.le_of_ble_eq_true rfl) (Nat.le_of_ble_eq_true rfl) rfl ?_
              change ab_W _ _ _ G59 204 [some (vR a), none, none, some (vz (N x)), some (vz p), some (vz mo), some (vz tu), some (vz (K x)), some (vz (O x)), none] [] _
              refine zz_iinc d_MK_walk_204 rfl (Nat.le_of_ble_eq_true rfl) (Nat.le_of_ble_eq_true rfl) rfl ?_
              change ab_W _ _ _ G59 207 [some (vR a), none, none, some (vz (N x)), some (vz p), some (vz mo), some (vz (tu + 1)), some (vz (K x)), some (vz (O x)), none] [] _
              refine ab_goto (tgt := 27) d_MK_walk_207 (by decide) ?_
              refine ab_less (L' := [some (vR a), none, none, some (vz (N x)), some (vz p), some (vz mo), some (vz (tu + 1)), none, none, none]) (fun i v h => by rcases i with _ | _ | _ | _ | _ | _ | _ | _ | _ | _ | i <;> first | exact h | (simp at h)) ?_
              exact ih (stk := sk261) (df := df23) (dp := (dp + 1)) (fo := fo) (stp := (stp + 1)) (SP := SP) (WK := WK) (M := M24) (SK := SK263) (ns := ns262) (x := (N x)) (p := p) (tu := (tu + 1)) ha hsp hwk hmk hsk261 hq hki hne hot hra hs hco hre hho (by omega) (by omega) (by omega) (by omega) hq64 (by omega) (by omega) jwk jsp (skos_s jsk hq65 hq66 (by first | exact sko_s (by omega) | exact sko_u (by omega))) (by omega) jspo (by omega) (by omega) (wkC.split js hq7 (by omega) hq65 hq66 (by omega)) (by omega) (by omega) hfr (by omega) hk0
            · cases hv
              have hsp := hfk.get hsp (by decide)
              have hwk := hfk.get hwk (by decide)
              have hmk := hfk.get hmk (by decide)
              have hq := hfk.get hq (by simp only [List.mem_cons, List.not_mem_nil, or_false]; omega)
              have hki := hfk.get hki (by simp only [List.mem_cons, List.not_mem_nil, or_false]; omega)
              have hne := hfk.get hne (by simp only [List.mem_cons, List.not_mem_nil, or_false]; omega)
              have hot := hfk.get hot (by simp only [List.mem_cons, List.not_mem_nil, or_false]; omega)
              have hra := hfk.get hra (by simp only [List.mem_cons, List.not_mem_nil, or_false]; omega)
              have hs := hfk.get hs (by decide)
              have hco := hfk.get hco (by decide)
              have hre := hfk.get hre (by decide)
              have hho := hfk.get hho (by decide)
              have hfr := hfr.tr hfk (by decide)
              have hq75 := hfk.1
              have ha := hNa
              have hstk := hNstk
              change ab_W _ _ _ G59 123 [some (vR a), none, none, some (vz x), some (vz p), some (vz mo), some (vz tu), some (vz (K x)), some (vz (O x)), none] [] _
              exfalso; omega
        · refine ab_aload_n d_MK_walk_72 rfl ?_
          refine ab_getf (fs := [vR sp, vR wk, vR mk, vz w, vz df23, vR stk, vz dp, vz fo, vz fy, vz hw, vR q, vR s, vj (stp + 1)]) f_MK_24 d_MK_walk_73 ha.2.2 rfl ?_
          refine ab_iload_n d_MK_walk_76 rfl ?_
          refine ab_aload_n d_MK_walk_77 rfl ?_
          refine ab_getf (fs := [vR sp, vR wk, vR mk, vz w, vz df23, vR stk, vz dp, vz fo, vz fy, vz hw, vR q, vR s, vj (stp + 1)]) f_MK_28 d_MK_walk_78 ha.2.2 rfl ?_
          refine ab_iload d_MK_walk_81 rfl ?_
          refine ab_callV (d' := d - 1) (as := [vz x, vR s, vz p]) (st := []) (r := _) (z_PR_bytesTaken (o := o) (q := q) (lq := lq) (ki := ki) (ne := ne) (ot := ot) (cnt := cnt) (fi := fi) (la := la) (ra := ra) (ru := ru) (gr := gr) (wi := wi) (sz := sz) (fl := fl) (ve := ve) (mi := mi) (na := na) (nl := nl) (K := K) (O := O) (RR := RR) (nr := nr) (s := s) (by_ := by_) (co := co) (re := re) (ho := ho) (n := n) (C := C) (Rs := Rs) (mc := mc) (x := x) (p := p) hq hki hot hra hs hco hre (by omega) (by omega) hp hr (by omega) hsu (by omega)) (fun oc G2 h => by rcases h with ⟨_, h, _⟩ <;> exact ⟨_, h⟩) (by omega) m_PR_bytesTaken ml_MK_115 im_PR_bytesTaken se_PR_bytesTaken c_PR hq.2.2 (Nat.le_of_ble_eq_true rfl) d_MK_walk_83 rfl ?_
          intro v G77 hq
          rcases hq with ⟨v78, hv, hfk, hlk, hsk, hq79, hq80⟩
          cases hv
          have ha := hfk.get ha (by decide)
          have hsp := hfk.get hsp (by decide)
          have hwk := hfk.get hwk (by decide)
          have hmk := hfk.get hmk (by decide)
          have hstk := hfk.get hstk (by decide)
          have hq := hfk.get hq (by simp)
          have hki := hfk.get hki (by simp)
          have hne := hfk.get hne (by simp)
          have hot := hfk.get hot (by simp)
          have hra := hfk.get hra (by simp)
          have hs := hfk.get hs (by decide)
          have hco := hfk.get hco (by decide)
          have hre := hfk.get hre (by decide)
          have hho := hfk.get hho (by decide)
          have hfr := hfr.tr hfk (by decide)
          have hq81 := hlk
          have hq82 := hsk
          change ab_W _ _ _ G77 86 [some (vR a), none, none, some (vz x), some (vz p), some (vz mo), some (vz tu), some (vz (K x)), some (vz (O x)), none] [vz v78] _
          refine ab_istore d_MK_walk_86 (Nat.le_of_ble_eq_true rfl) (Nat.le_of_ble_eq_true rfl) rfl ?_
          change ab_W _ _ _ G77 88 [some (vR a), none, none, some (vz x), some (vz p), some (vz mo), some (vz tu), some (vz (K x)), some (vz (O x)), some (vz v78)] [] _
          refine ab_iload d_MK_walk_88 rfl ?_
          refine zz_if_ne (tgt := 94) d_MK_walk_90 (by decide) (by omega) (fun c83 => ?_) (fun c83 => ?_)
          · refine ab_iload d_MK_walk_94 rfl ?_
            refine ab_iload d_MK_walk_96 rfl ?_
            refine zz_iadd d_MK_walk_98 ?_
            refine ab_istore d_MK_walk_99 (Nat.le_of_ble_eq_true rfl) (Nat.le_of_ble_eq_true rfl) rfl ?_
            change ab_W _ _ _ G77 101 [some (vR a), none, none, some (vz x), some (vz (p + v78)), some (vz mo), some (vz tu), some (vz (K x)), some (vz (O x)), some (vz v78)] [] _
            refine ab_goto (tgt := 194) d_MK_walk_101 (by decide) ?_
            refine ab_aload_n d_MK_walk_194 rfl ?_
            refine ab_getf (fs := [vR sp, vR wk, vR mk, vz w, vz df23, vR stk, vz dp, vz fo, vz fy, vz hw, vR q, vR s, vj (stp + 1)]) f_MK_24 d_MK_walk_195 ha.2.2 rfl ?_
            refine ab_getf (fs := [vR ki, vR ne, vR ot, vz cnt, vz fi, vz la, vR ra, vz ru, vz gr, vz wi, vz sz, vz fl, vz ve, vz mi, vR na, vR nl]) f_MK_129 d_MK_walk_198 hq.2.2 rfl ?_
            refine ab_iload_n d_MK_walk_201 rfl ?_
            refine zz_iald d_MK_walk_202 hne (by omega) ?_
            have hq84 := hp.n x (by omega) (by omega)
            refine ab_istore_n d_MK_walk_203 (Nat.le_of_ble_eq_true rfl) (Nat.le_of_ble_eq_true rfl) rfl ?_
            change ab_W _ _ _ G77 204 [some (vR a), none, none, some (vz (N x)), some (vz (p + v78)), some (vz mo), some (vz tu), some (vz (K x)), some (vz (O x)), some (vz v78)] [] _
            refine zz_iinc d_MK_walk_204 rfl (Nat.le_of_ble_eq_true rfl) (Nat.le_of_ble_eq_true rfl) rfl ?_
            change ab_W _ _ _ G77 207 [some (vR a), none, none, some (vz (N x)), some (vz (p + v78)), some (vz mo), some (vz (tu + 1)), some (vz (K x)), some (vz (O x)), some (vz v78)] [] _
            refine ab_goto (tgt := 27) d_MK_walk_207 (by decide) ?_
            refine ab_less (L' := [some (vR a), none, none, some (vz (N x)), some (vz (p + v78)), some (vz mo), some (vz (tu + 1)), none, none, none]) (fun i v h => by rcases i with _ | _ | _ | _ | _ | _ | _ | _ | _ | _ | i <;> first | exact h | (simp at h)) ?_
            exact ih (stk := stk) (df := df23) (dp := dp) (fo := fo) (stp := (stp + 1)) (SP := SP) (WK := WK) (M := M24) (SK := SK) (ns := ns) (x := (N x)) (p := (p + v78)) (tu := (tu + 1)) ha hsp hwk hmk hstk hq hki hne hot hra hs hco hre hho (by omega) (by omega) (by omega) (by omega) hst (by omega) (by omega) jwk jsp jsk (by omega) jspo (by omega) (by omega) (wkC.take js hq7 hsu (by omega) (by omega) hq79 (by omega)) (by omega) (by omega) hfr (by omega) hk0
          · refine ab_vret rfl d_MK_walk_93 ?_
            exact hk0 _ _ _ _ _ _ _ _ _ _ _ _ ha hsp hwk hmk hstk (by omega) (by omega) (by exact hst) (by omega) (by omega) (by first | exact jwk | exact rgs_w jwk (by omega)) (by first | exact jsp | exact rgs_w jsp (by omega)) (by exact jsk) (by omega) (by exact jspo) (by omega) (by omega) (by exact wkC.take0 js hq7 hsu (by omega) (by omega) hq79 (by omega)) (by omega) (by omega) hfr
      · cases hv
        have hsp := hfk.get hsp (by decide)
        have hwk := hfk.get hwk (by decide)
        have hstk := hfk.get hstk (by decide)
        have hq := hfk.get hq (by simp only [List.mem_cons, List.not_mem_nil, or_false]; omega)
        have hki := hfk.get hki (by simp only [List.mem_cons, List.not_mem_nil, or_false]; omega)
        have hne := hfk.get hne (by simp only [List.mem_cons, List.not_mem_nil, or_false]; omega)
        have hot := hfk.get hot (by simp only [List.mem_cons, List.not_mem_nil, or_false]; omega)
        have hra := hfk.get hra (by simp only [List.mem_cons, List.not_mem_nil, or_false]; omega)
        have hs := hfk.get hs (by decide)
        have hco := hfk.get hco (by decide)
        have hre := hfk.get hre (by decide)
        have hho := hfk.get hho (by decide)
        have hfr := hfr.tr hfk (by decide)
        have hq17 := hlk
        have hq18 := hsk
        have ha := hNa
        have hmk := hNmk
        change ab_W _ _ _ G2 41 [some (vR a), none, none, some (vz x), some (vz p), some (vz mo), some (vz tu), none, none, none] [vz 0] _
        have hub_ := (ucc_b (M := M210) (w := w) (df := df29) (cnt := cnt) (n := n) (by omega) (by omega)).1
        have hu1_ := ucc_0 (cnt := cnt) (n := n) (by omega) hq12 hq13
        refine zz_if_eq (tgt := 210) d_MK_walk_41 (by decide) (by decide) (fun c85 => ?_) (fun c85 => absurd c85 (by decide))
        refine ab_vret rfl d_MK_walk_210 ?_
        exact hk0 _ _ _ _ _ _ _ _ _ _ _ _ ha hsp hwk hmk hstk (by omega) (by omega) (by exact hst) (by omega) (by omega) (by first | exact jwk | exact rgs_w jwk (by omega)) (by first | exact jsp | exact rgs_w jsp (by omega)) (by exact jsk) (by omega) (by exact jspo) (by omega) (by omega) (by exact wkC.dead js hq12 (by omega) hq13) (by omega) (by omega) hfr
set_option maxRecDepth 100000 in
set_option maxHeartbeats 4000000 in
theorem z_MK_walk {X : ab_X} {d : Nat} {o : Nat → Nat} {G : ab_G} {q : Nat} {lq : Nat} {ki : Nat} {ne : Nat} {ot : Nat} {cnt : Int} {fi : Int} {la : Int} {ra : Nat} {ru : Int} {gr : Int} {wi : Int} {sz : Int} {fl : Int} {ve : Int} {mi : Int} {na : Nat} {nl : Nat} {K : Int → Int} {N : Int → Int} {O : Int → Int} {RR : Int → Int} {nr : Nat} {s : Nat} {by_ : Nat} {co : Nat} {re : Nat} {ho : Nat} {n : Int} {f : Int → Int} {C : Int → Int} {Rs : Int → Int} {H : Int → Int} {m : Nat} {mc : Nat} {a : Nat} {sp : Nat} {wk : Nat} {mk : Nat} {stk : Nat} {w : Int} {df : Int} {dp : Int} {fo : Int} {fy : Int} {hw : Int} {stp : Int} {SP : Int → Int} {WK : Int → Int} {M : Int → Int} {SK : Int → Int} {nm : Nat} {ns : Nat} {x : Int} {p : Int} {st9 : Int} {fr9 : Int} {S9 : Option (Int × Gr)} (ha : cc o G a 44 (ab_ob 2 [vR sp, vR wk, vR mk, vz w, vz df, vR stk, vz dp, vz fo, vz fy, vz hw, vR q, vR s, vj stp])) (hsp : cc o G sp 31 (za 20 SP)) (hwk : cc o G wk 45 (za 20 WK)) (hmk : cc o G mk 46 (za nm M)) (hstk : cc o G stk 47 (za ns SK)) (hq : cc o G q lq (ab_ob 5 [vR ki, vR ne, vR ot, vz cnt, vz fi, vz la, vR ra, vz ru, vz gr, vz wi, vz sz, vz fl, vz ve, vz mi, vR na, vR nl])) (hki : cc o G ki (lq + 1) (za 808 K)) (hne : cc o G ne (lq + 2) (za 808 N)) (hot : cc o G ot (lq + 3) (za 808 O)) (hra : cc o G ra (lq + 4) (za nr RR)) (hs : cc o G s 26 (ab_ob 9 [vR by_, vR co, vR re, vR ho, vz n])) (hco : cc o G co 28 (za mc C)) (hre : cc o G re 29 (za mc Rs)) (hho : cc o G ho 30 (za mc H)) (cq : 100 ≤ lq ∧ 0 ≤ cnt ∧ cnt ≤ 808 ∧ ↑nr ≤ (100000 : Int)) (hp : prok K N O RR cnt ↑nr wi) (hr : ∀ k : Int, 0 ≤ k → k < ↑nr → 0 ≤ RR k ∧ RR k ≤ 1114111) (csu : 0 ≤ n ∧ n ≤ ↑m ∧ 32 ≤ m ∧ m ≤ 2000 ∧ mc = m + 1) (hsu : suok f C Rs H n) (cw : 1 ≤ w ∧ w ≤ 26 ∧ cnt ≤ 32 * w) (cm : (n + 1) * w ≤ ↑nm ∧ ↑nm ≤ (52026 : Int)) (cwi : 2 ≤ wi ∧ wi ≤ 20) (cx : 0 ≤ x ∧ x < cnt ∧ 0 ≤ p ∧ p ≤ n) (cd : 0 ≤ df ∧ df ≤ n + 1) (cdp : 0 ≤ dp ∧ dp ≤ ↑ns) (hst : stn ns) (hs2 : 64 ≤ ns ∧ ns ≤ 1616809) (cf : 0 ≤ fo ∧ fo ≤ 1 ∧ 0 ≤ fy ∧ fy ≤ 1 ∧ 0 ≤ hw ∧ hw ≤ 2) (jwk : rgs WK wi (-1) n) (jsp : rgs SP 20 (-1) 2000) (jsk : skos SK dp cnt n wi) (c0k : 0 ≤ WK 0) (jspo : spo fo SP wi n) (rc : G.length + 5 ≤ ab_n0 + room_1.cells + stC ns) (rs : ab_slots G + 1916393 ≤ room_1.slots + stT ns) (js : wkC K N O RR f n hw fy wi st9 fr9 M w df SK dp WK fo SP x p S9) (ju : dp + ucc M w df cnt n ≤ cnt * (n + 1)) (hd : 5 ≤ d) : ab_F X d y_MK_walk (.code y_MK_walk b_MK_walk 10 none) [vR a, vz x, vz p] G (fun oc G2 => ∃ o2 : Nat → Nat, ∃ df2 : Int, ∃ dp2 : Int, ∃ fo2 : Int, ∃ st2 : Int, ∃ sk2 : Nat, ∃ ns2 : Nat, ∃ WK2 : Int → Int, ∃ M2 : Int → Int, ∃ SK2 : Int → Int, ∃ SP2 : Int → Int, oc = .returned none ∧ fx o o2 [44, 45, 46, 47, 31] G G2 ∧ cc o2 G2 a 44 (ab_ob 2 [vR sp, vR wk, vR mk, vz w, vz df2, vR sk2, vz dp2, vz fo2, vz fy, vz hw, vR q, vR s, vj st2]) ∧ cc o2 G2 sp 31 (za 20 SP2) ∧ cc o2 G2 wk 45 (za 20 WK2) ∧ cc o2 G2 mk 46 (za nm M2) ∧ cc o2 G2 sk2 47 (za ns2 SK2) ∧ (0 ≤ df2 ∧ df2 ≤ n + 1) ∧ (0 ≤ dp2 ∧ dp2 ≤ ↑ns2) ∧ (stn ns2) ∧ (64 ≤ ns2 ∧ ns2 ≤ 1616809) ∧ (0 ≤ fo2 ∧ fo2 ≤ 1) ∧ (rgs WK2 wi (-1) n) ∧ (rgs SP2 20 (-1) 2000) ∧ (skos SK2 dp2 cnt n wi) ∧ (0 ≤ WK2 0) ∧ (spo fo2 SP2 wi n) ∧ (G2.length + stC ns = G.length + stC ns2) ∧ (ab_slots G2 + stT ns = ab_slots G + stT ns2) ∧ (tyC K N O RR f n hw fy wi st9 fr9 M2 w df2 SK2 dp2 WK2 fo2 SP2 S9) ∧ (dp2 + ucc M2 w df2 cnt n ≤ dp + ucc M w df cnt n) ∧ (stp ≤ st2 ∧ st2 + dp2 + 2 * ucn M2 w df2 n ≤ stp + dp + 1 + 2 * ucn M w df n)) := by
  refine ab_F_of (by decide +kernel) (Nat.le_of_ble_eq_true rfl) ?_
  obtain ⟨Q, hQ⟩ : ∃ z : Outcome → ab_G → Prop, z = (fun oc G2 => ∃ o2 : Nat → Nat, ∃ df2 : Int, ∃ dp2 : Int, ∃ fo2 : Int, ∃ st2 : Int, ∃ sk2 : Nat, ∃ ns2 : Nat, ∃ WK2 : Int → Int, ∃ M2 : Int → Int, ∃ SK2 : Int → Int, ∃ SP2 : Int → Int, oc = .returned none ∧ fx o o2 [44, 45, 46, 47, 31] G G2 ∧ cc o2 G2 a 44 (ab_ob 2 [vR sp, vR wk, vR mk, vz w, vz df2, vR sk2, vz dp2, vz fo2, vz fy, vz hw, vR q, vR s, vj st2]) ∧ cc o2 G2 sp 31 (za 20 SP2) ∧ cc o2 G2 wk 45 (za 20 WK2) ∧ cc o2 G2 mk 46 (za nm M2) ∧ cc o2 G2 sk2 47 (za ns2 SK2) ∧ (0 ≤ df2 ∧ df2 ≤ n + 1) ∧ (0 ≤ dp2 ∧ dp2 ≤ ↑ns2) ∧ (stn ns2) ∧ (64 ≤ ns2 ∧ ns2 ≤ 1616809) ∧ (0 ≤ fo2 ∧ fo2 ≤ 1) ∧ (rgs WK2 wi (-1) n) ∧ (rgs SP2 20 (-1) 2000) ∧ (skos SK2 dp2 cnt n wi) ∧ (0 ≤ WK2 0) ∧ (spo fo2 SP2 wi n) ∧ (G2.length + stC ns = G.length + stC ns2) ∧ (ab_slots G2 + stT ns = ab_slots G + stT ns2) ∧ (tyC K N O RR f n hw fy wi st9 fr9 M2 w df2 SK2 dp2 WK2 fo2 SP2 S9) ∧ (dp2 + ucc M2 w df2 cnt n ≤ dp + ucc M w df cnt n) ∧ (stp ≤ st2 ∧ st2 + dp2 + 2 * ucn M2 w df2 n ≤ stp + dp + 1 + 2 * ucn M w df n)) := ⟨_, rfl⟩
  rw [← hQ]
  change ab_W X (ab_pl y_MK_walk b_MK_walk 10 none) d G 0 [some (vR a), some (vz x), some (vz p), none, none, none, none, none, none, none] [] Q
  have hfr : fx o o [44, 45, 46, 47, 31] G G := fx.rf
  refine ab_iload_n d_MK_walk_0 rfl ?_
  refine ab_istore_n d_MK_walk_1 (Nat.le_of_ble_eq_true rfl) (Nat.le_of_ble_eq_true rfl) rfl ?_
  change ab_W _ _ _ G 2 [some (vR a), some (vz x), some (vz p), some (vz x), none, none, none, none, none, none] [] _
  refine ab_iload_n d_MK_walk_2 rfl ?_
  refine ab_istore d_MK_walk_3 (Nat.le_of_ble_eq_true rfl) (Nat.le_of_ble_eq_true rfl) rfl ?_
  change ab_W _ _ _ G 5 [some (vR a), some (vz x), some (vz p), some (vz x), some (vz p), none, none, none, none, none] [] _
  refine ab_aload_n d_MK_walk_5 rfl ?_
  refine ab_getf (fs := [vR sp, vR wk, vR mk, vz w, vz df, vR stk, vz dp, vz fo, vz fy, vz hw, vR q, vR s, vj stp]) f_MK_24 d_MK_walk_6 ha.2.2 rfl ?_
  refine ab_getf (fs := [vR ki, vR ne, vR ot, vz cnt, vz fi, vz la, vR ra, vz ru, vz gr, vz wi, vz sz, vz fl, vz ve, vz mi, vR na, vR nl]) f_MK_46 d_MK_walk_9 hq.2.2 rfl ?_
  refine ab_aload_n d_MK_walk_12 rfl ?_
  refine ab_getf (fs := [vR sp, vR wk, vR mk, vz w, vz df, vR stk, vz dp, vz fo, vz fy, vz hw, vR q, vR s, vj stp]) f_MK_28 d_MK_walk_13 ha.2.2 rfl ?_
  refine ab_getf (fs := [vR by_, vR co, vR re, vR ho, vz n]) f_MK_55 d_MK_walk_16 hs.2.2 rfl ?_
  refine zz_iconst d_MK_walk_19 ?_
  refine zz_iadd d_MK_walk_20 ?_
  refine zz_imul d_MK_walk_21 ?_
  obtain ⟨v1, hv1⟩ : ∃ z : Int, z = cnt * (n + 1) := ⟨_, rfl⟩
  rw [← hv1]
  have hv1b := z_mulb (a := cnt) (b := (n + 1)) (A := 808) (B := 2001) (by omega) (by omega)
  rw [← hv1] at hv1b
  change ab_W _ _ _ G 22 [some (vR a), some (vz x), some (vz p), some (vz x), some (vz p), none, none, none, none, none] [vz v1] _
  refine ab_istore d_MK_walk_22 (Nat.le_of_ble_eq_true rfl) (Nat.le_of_ble_eq_true rfl) rfl ?_
  change ab_W _ _ _ G 24 [some (vR a), some (vz x), some (vz p), some (vz x), some (vz p), some (vz v1), none, none, none, none] [] _
  refine zz_iconst d_MK_walk_24 ?_
  refine ab_istore d_MK_walk_25 (Nat.le_of_ble_eq_true rfl) (Nat.le_of_ble_eq_true rfl) rfl ?_
  change ab_W _ _ _ G 27 [some (vR a), some (vz x), some (vz p), some (vz x), some (vz p), some (vz v1), some (vz 0), none, none, none] [] _
  refine ab_less (L' := [some (vR a), none, none, some (vz x), some (vz p), some (vz v1), some (vz 0), none, none, none]) (fun i v h => by rcases i with _ | _ | _ | _ | _ | _ | _ | _ | _ | _ | i <;> first | exact h | (simp at h)) ?_
  refine y_MK_walk_27 (q := q) (lq := lq) (ki := ki) (ne := ne) (ot := ot) (cnt := cnt) (fi := fi) (la := la) (ra := ra) (ru := ru) (gr := gr) (wi := wi) (sz := sz) (fl := fl) (ve := ve) (mi := mi) (na := na) (nl := nl) (K := K) (N := N) (O := O) (RR := RR) (nr := nr) (s := s) (by_ := by_) (co := co) (re := re) (ho := ho) (n := n) (C := C) (Rs := Rs) (H := H) (mc := mc) (a := a) (sp := sp) (wk := wk) (mk := mk) (w := w) (fy := fy) (hw := hw) (nm := nm) (mo := v1) (ns0 := ns) (st0 := stp) (dp0 := dp) (U0 := (ucn M w df n)) (st9 := st9) (fr9 := fr9) (S9 := S9) (U9 := (dp + ucc M w df cnt n)) (G0 := G) (stk := stk) (df := df) (dp := dp) (fo := fo) (stp := stp) (SP := SP) (WK := WK) (M := M) (SK := SK) (ns := ns) (x := x) (p := p) (tu := 0) (by omega) hp hr (by omega) hsu (by omega) (by omega) (by omega) (by omega) (by omega) (by omega) (by omega) (Int.toNat (v1 - 0) + 1) ha hsp hwk hmk hstk hq hki hne hot hra hs hco hre hho (by omega) (by omega) (by omega) (by omega) hst (by omega) (by omega) jwk jsp jsk (by omega) jspo (by omega) (by omega) js (by omega) (by omega) fx.rf (by omega) (fun G2 o3 df24 dp25 fo26 st27 sk28 ns29 WK210 M211 SK212 SP213 hNa hNsp hNwk hNmk hNsk28 hq14 hq15 hq16 hq17 hq18 hq19 hq20 hq21 hq22 hq23 hq24 hq25 hq26 hq27 hq28 hfk => ?_)
  · have hq := hfk.get hq (by simp only [List.mem_cons, List.not_mem_nil, or_false]; omega)
    have hki := hfk.get hki (by simp only [List.mem_cons, List.not_mem_nil, or_false]; omega)
    have hne := hfk.get hne (by simp only [List.mem_cons, List.not_mem_nil, or_false]; omega)
    have hot := hfk.get hot (by simp only [List.mem_cons, List.not_mem_nil, or_false]; omega)
    have hra := hfk.get hra (by simp only [List.mem_cons, List.not_mem_nil, or_false]; omega)
    have hs := hfk.get hs (by decide)
    have hco := hfk.get hco (by decide)
    have hre := hfk.get hre (by decide)
    have hho := hfk.get hho (by decide)
    have hfr := hfr.tr hfk (by decide)
    have hq29 := hfk.1
    have ha := hNa
    have hsp := hNsp
    have hwk := hNwk
    have hmk := hNmk
    have hsk28 := hNsk28
    rw [hQ]; exact ⟨_, _, _, _, _, _, _, _, _, _, _, rfl, hfr, ha, hsp, hwk, hmk, hsk28, (by omega), (by omega), (by exact hq16), (by omega), (by omega), (by first | exact hq19 | exact rgs_w hq19 (by omega)), (by first | exact hq20 | exact rgs_w hq20 (by omega)), (by exact hq21), (by omega), (by exact hq23), (by omega), (by omega), (by exact hq26), (by omega), (by omega)⟩
set_option maxRecDepth 100000 in
set_option maxHeartbeats 4000000 in
theorem y_MK_tryFrom_71 {X : ab_X} {d : Nat} {Q : Outcome → ab_G → Prop} {o0 : Nat → Nat} {G0 : ab_G} {q : Nat} {lq : Nat} {ki : Nat} {ne : Nat} {ot : Nat} {cnt : Int} {fi : Int} {la : Int} {ra : Nat} {ru : Int} {gr : Int} {wi : Int} {sz : Int} {fl : Int} {ve : Int} {mi : Int} {na : Nat} {nl : Nat} {K : Int → Int} {N : Int → Int} {O : Int → Int} {RR : Int → Int} {nr : Nat} {s : Nat} {by_ : Nat} {co : Nat} {re : Nat} {ho : Nat} {n : Int} {f : Int → Int} {C : Int → Int} {Rs : Int → Int} {H : Int → Int} {m : Nat} {mc : Nat} {a : Nat} {sp : Nat} {wk : Nat} {mk : Nat} {w : Int} {fy : Int} {hw : Int} {nm : Nat} {mo : Int} {ns0 : Nat} {st9 : Int} {fr9 : Int} {S9 : Option (Int × Gr)} {A9 : Int} {st0 : Int} {U0 : Int} (cq : 100 ≤ lq ∧ 0 ≤ cnt ∧ cnt ≤ 808 ∧ ↑nr ≤ (100000 : Int)) (hp : prok K N O RR cnt ↑nr wi) (hr : ∀ k : Int, 0 ≤ k → k < ↑nr → 0 ≤ RR k ∧ RR k ≤ 1114111) (csu : 0 ≤ n ∧ n ≤ ↑m ∧ 32 ≤ m ∧ m ≤ 2000 ∧ mc = m + 1) (hsu : suok f C Rs H n) (cw : 1 ≤ w ∧ w ≤ 26 ∧ cnt ≤ 32 * w) (cm : (n + 1) * w ≤ ↑nm ∧ ↑nm ≤ (52026 : Int)) (cwi : 2 ≤ wi ∧ wi ≤ 20) (cmo : 0 ≤ mo ∧ mo ≤ 10000000) (cmx : A9 + 2 ≤ mo ∧ A9 = cnt * (n + 1) ∧ A9 ≤ 1616808) (rc0 : G0.length + 5 ≤ ab_n0 + room_1.cells + stC ns0) (rs0 : ab_slots G0 + 1916393 ≤ room_1.slots + stT ns0) (hd : 6 ≤ d) : ∀ (mz : Nat) {G : ab_G} {o : Nat → Nat} {stk : Nat} {df : Int} {dp : Int} {fo : Int} {stp : Int} {SP : Int → Int} {WK : Int → Int} {M : Int → Int} {SK : Int → Int} {ns : Nat} {tu : Int}, (cc o G a 44 (ab_ob 2 [vR sp, vR wk, vR mk, vz w, vz df, vR stk, vz dp, vz fo, vz fy, vz hw, vR q, vR s, vj stp])) → (cc o G sp 31 (za 20 SP)) → (cc o G wk 45 (za 20 WK)) → (cc o G mk 46 (za nm M)) → (cc o G stk 47 (za ns SK)) → (cc o G q lq (ab_ob 5 [vR ki, vR ne, vR ot, vz cnt, vz fi, vz la, vR ra, vz ru, vz gr, vz wi, vz sz, vz fl, vz ve, vz mi, vR na, vR nl])) → (cc o G ki (lq + 1) (za 808 K)) → (cc o G ne (lq + 2) (za 808 N)) → (cc o G ot (lq + 3) (za 808 O)) → (cc o G ra (lq + 4) (za nr RR)) → (cc o G s 26 (ab_ob 9 [vR by_, vR co, vR re, vR ho, vz n])) → (cc o G co 28 (za mc C)) → (cc o G re 29 (za mc Rs)) → (cc o G ho 30 (za mc H)) → (0 ≤ tu ∧ tu ≤ mo) → (0 ≤ df ∧ df ≤ n + 1) → (0 ≤ dp ∧ dp ≤ ↑ns) → (stn ns) → (64 ≤ ns ∧ ns ≤ 1616809) → (0 ≤ fo ∧ fo ≤ 1 ∧ 0 ≤ fy ∧ fy ≤ 1 ∧ 0 ≤ hw ∧ hw ≤ 2) → (rgs WK wi (-1) n) → (rgs SP 20 (-1) 2000) → (skos SK dp cnt n wi) → (0 ≤ WK 0) → (spo fo SP wi n) → (G.length + stC ns0 = G0.length + stC ns) → (ab_slots G + stT ns0 = ab_slots G0 + stT ns) → (tyC K N O RR f n hw fy wi st9 fr9 M w df SK dp WK fo SP S9) → (tu + dp + ucc M w df cnt n ≤ 1 + A9) → (st0 ≤ stp ∧ stp + dp + 2 * ucn M w df n ≤ st0 + 1 + 2 * U0) → (fx o0 o [44, 45, 46, 47, 31] G0 G) → (Int.toNat (mo - tu) < mz) → (∀ (G2 : ab_G) (o2 : Nat → Nat) (df2 : Int) (dp2 : Int) (fo2 : Int) (st2 : Int) (sk2 : Nat) (ns2 : Nat) (WK2 : Int → Int) (M2 : Int → Int) (SK2 : Int → Int) (SP2 : Int → Int), (cc o2 G2 a 44 (ab_ob 2 [vR sp, vR wk, vR mk, vz w, vz df2, vR sk2, vz dp2, vz fo2, vz fy, vz hw, vR q, vR s, vj st2])) → (cc o2 G2 sp 31 (za 20 SP2)) → (cc o2 G2 wk 45 (za 20 WK2)) → (cc o2 G2 mk 46 (za nm M2)) → (cc o2 G2 sk2 47 (za ns2 SK2)) → (0 ≤ df2 ∧ df2 ≤ n + 1) → (0 ≤ dp2 ∧ dp2 ≤ ↑ns2) → (stn ns2) → (64 ≤ ns2 ∧ ns2 ≤ 1616809) → (0 ≤ fo2 ∧ fo2 ≤ 1) → (rgs WK2 wi (-1) n) → (rgs SP2 20 (-1) 2000) → (skos SK2 dp2 cnt n wi) → (0 ≤ WK2 0) → (spo fo2 SP2 wi n) → (G2.length + stC ns0 = G0.length + stC ns2) → (ab_slots G2 + stT ns0 = ab_slots G0 + stT ns2) → (trE K N O RR f n hw wi st9 fr9 M2 w df2 fo2 SP2 S9) → (st0 ≤ st2 ∧ st2 + 2 * ucn M2 w df2 n ≤ st0 + 1 + 2 * U0) → (fx o0 o2 [44, 45, 46, 47, 31] G0 G2) → Q (.returned none) G2) → ab_W X (ab_pl y_MK_tryFrom b_MK_tryFrom 7 none) d G 71 [some (vR a), none, some (vj mo), none, some (vj tu), none, none] [] Q := by
  intro mz
  induction mz with
  | zero => intro G o stk df dp fo stp SP WK M SK ns tu ha hsp hwk hmk hstk hq hki hne hot hra hs hco hre hho ct cd cdp hst hs2 cf jwk jsp jsk c0k jspo hgl hgs js ju hst9 hfr hm hk0; exact absurd hm (Nat.not_lt_zero _)
  | succ mz ih =>
    intro G o stk df dp fo stp SP WK M SK ns tu ha hsp hwk hmk hstk hq hki hne hot hra hs hco hre hho ct cd cdp hst hs2 cf jwk jsp jsk c0k jspo hgl hgs js ju hst9 hfr hm hk0
    have hub_ := (ucc_b (M := M) (w := w) (df := df) (cnt := cnt) (n := n) (by omega) (by omega)).1
    refine ab_lload d_MK_tryFrom_71 rfl ?_
    refine ab_lload_n d_MK_tryFrom_73 rfl ?_
    refine zz_lcmp d_MK_tryFrom_74 (by omega) (by omega) (fun c1a => ?_) (fun c1a c1b => by exfalso; omega) (fun c1a => by exfalso; omega)
    · refine zz_if_ge (tgt := 161) d_MK_tryFrom_75 (by decide) (by decide) (fun c2 => absurd c2 (by decide)) (fun c2 => ?_)
      refine ab_aload_n d_MK_tryFrom_78 rfl ?_
      refine ab_getf (fs := [vR sp, vR wk, vR mk, vz w, vz df, vR stk, vz dp, vz fo, vz fy, vz hw, vR q, vR s, vj stp]) f_MK_86 d_MK_tryFrom_79 ha.2.2 rfl ?_
      refine zz_if_le (tgt := 161) d_MK_tryFrom_82 (by decide) (by omega) (fun c3 => ?_) (fun c3 => ?_)
      · refine ab_vret rfl d_MK_tryFrom_161 ?_
        exact hk0 _ _ _ _ _ _ _ _ _ _ _ _ ha hsp hwk hmk hstk (by omega) (by omega) (by exact hst) (by omega) (by omega) (by first | exact jwk | exact rgs_w jwk (by omega)) (by first | exact jsp | exact rgs_w jsp (by omega)) (by exact jsk) (by omega) (by exact jspo) (by omega) (by omega) (by exact tyC.fin js (by omega) hsu) (by omega) hfr
      · refine ab_aload_n d_MK_tryFrom_85 rfl ?_
        refine ab_getf (fs := [vR sp, vR wk, vR mk, vz w, vz df, vR stk, vz dp, vz fo, vz fy, vz hw, vR q, vR s, vj stp]) f_MK_70 d_MK_tryFrom_86 ha.2.2 rfl ?_
        refine zz_if_eq (tgt := 99) d_MK_tryFrom_89 (by decide) (by omega) (fun c4 => ?_) (fun c4 => ?_)
        · refine ab_aload_n d_MK_tryFrom_99 rfl ?_
          refine ab_dup d_MK_tryFrom_100 rfl ?_
          refine ab_getf (fs := [vR sp, vR wk, vR mk, vz w, vz df, vR stk, vz dp, vz fo, vz fy, vz hw, vR q, vR s, vj stp]) f_MK_86 d_MK_tryFrom_101 ha.2.2 rfl ?_
          refine zz_iconst d_MK_tryFrom_104 ?_
          refine zz_isub d_MK_tryFrom_105 ?_
          refine ab_putf (fs := [vR sp, vR wk, vR mk, vz w, vz df, vR stk, vz dp, vz fo, vz fy, vz hw, vR q, vR s, vj stp]) f_MK_86 (Or.inl rfl) d_MK_tryFrom_106 ha.2.2 (Nat.le_of_ble_eq_true rfl) (fun _ => ⟨rfl, rfl⟩) (ha.2.1 (by decide)) ?_
          obtain ⟨G5, eG5⟩ : ∃ z : ab_G, z = List.set G a (ab_ob 2 [vR sp, vR wk, vR mk, vz w, vz df, vR stk, vz (dp - 1), vz fo, vz fy, vz hw, vR q, vR s, vj stp]) := ⟨_, rfl⟩
          have hsp := hsp.keep ha eG5 (by decide)
          have hwk := hwk.keep ha eG5 (by decide)
          have hmk := hmk.keep ha eG5 (by decide)
          have hstk := hstk.keep ha eG5 (by decide)
          have hq := hq.keep ha eG5 (by omega)
          have hki := hki.keep ha eG5 (by omega)
          have hne := hne.keep ha eG5 (by omega)
          have hot := hot.keep ha eG5 (by omega)
          have hra := hra.keep ha eG5 (by omega)
          have hs := hs.keep ha eG5 (by decide)
          have hco := hco.keep ha eG5 (by decide)
          have hre := hre.keep ha eG5 (by decide)
          have hho := hho.keep ha eG5 (by decide)
          have hq6 := z_len eG5
          have hq7 := z_sl ha eG5 rfl
          have hfr := hfr.wr ha eG5 (by decide)
          have ha := ha.kept eG5
          change ab_W _ _ _ (List.set G a (ab_ob 2 [vR sp, vR wk, vR mk, vz w, vz df, vR stk, vz (dp - 1), vz fo, vz fy, vz hw, vR q, vR s, vj stp])) 109 [some (vR a), none, some (vj mo), none, some (vj tu), none, none] [] _
          rw [← eG5]
          refine ab_aload_n d_MK_tryFrom_109 rfl ?_
          refine ab_getf (fs := [vR sp, vR wk, vR mk, vz w, vz df, vR stk, vz (dp - 1), vz fo, vz fy, vz hw, vR q, vR s, vj stp]) f_MK_21 d_MK_tryFrom_110 ha.2.2 rfl ?_
          refine ab_aload_n d_MK_tryFrom_113 rfl ?_
          refine ab_getf (fs := [vR sp, vR wk, vR mk, vz w, vz df, vR stk, vz (dp - 1), vz fo, vz fy, vz hw, vR q, vR s, vj stp]) f_MK_86 d_MK_tryFrom_114 ha.2.2 rfl ?_
          refine zz_iald d_MK_tryFrom_117 hstk (by omega) ?_
          have hs0 := jsk (dp - 1) (by omega) (by omega)
          have hs1 := sko_in hs0 (by omega)
          refine ab_istore d_MK_tryFrom_118 (Nat.le_of_ble_eq_true rfl) (Nat.le_of_ble_eq_true rfl) rfl ?_
          change ab_W _ _ _ G5 120 [some (vR a), none, some (vj mo), none, some (vj tu), none, some (vz (SK (dp - 1)))] [] _
          refine ab_iload d_MK_tryFrom_120 rfl ?_
          refine zz_if_ge (tgt := 137) d_MK_tryFrom_122 (by decide) (by omega) (fun c8 => ?_) (fun c8 => ?_)
          · refine ab_aload_n d_MK_tryFrom_137 rfl ?_
            refine ab_iload d_MK_tryFrom_138 rfl ?_
            have hs2x := sko_pos hs0 (by omega)
            refine zz_sipush d_MK_tryFrom_140 (by decide) ?_
            refine zz_iand 10 1024 d_MK_tryFrom_143 (by decide) (by decide) (by decide) (by decide) ?_
            refine ab_iload d_MK_tryFrom_144 rfl ?_
            refine zz_bipush d_MK_tryFrom_146 (by decide) ?_
            refine zz_ishr 10 1024 d_MK_tryFrom_148 (by decide) (by decide) (by decide) (by decide) (by omega) ?_
            refine ab_callV (d' := d - 1) (as := [vz ((SK (dp - 1)) % 1024), vz ((SK (dp - 1)) / 1024)]) (st := []) (r := _) (z_MK_walk (o := o) (q := q) (lq := lq) (ki := ki) (ne := ne) (ot := ot) (cnt := cnt) (fi := fi) (la := la) (ra := ra) (ru := ru) (gr := gr) (wi := wi) (sz := sz) (fl := fl) (ve := ve) (mi := mi) (na := na) (nl := nl) (K := K) (N := N) (O := O) (RR := RR) (nr := nr) (s := s) (by_ := by_) (co := co) (re := re) (ho := ho) (n := n) (C := C) (Rs := Rs) (H := H) (mc := mc) (a := a) (sp := sp) (wk := wk) (mk := mk) (stk := stk) (w := w) (df := df) (dp := (dp - 1)) (fo := fo) (fy := fy) (hw := hw) (stp := stp) (SP := SP) (WK := WK) (M := M) (SK := SK) (nm := nm) (ns := ns) (x := ((SK (dp - 1)) % 1024)) (p := ((SK (dp - 1)) / 1024)) (st9 := st9) (fr9 := fr9) (S9 := S9) ha hsp hwk hmk hstk hq hki hne hot hra hs hco hre hho (by omega) hp hr (by omega) hsu (by omega) (by omega) (by omega) (by omega) (by omega) (by omega) hst (by omega) (by omega) jwk jsp (skos_p jsk (by omega)) (by omega) jspo (by omega) (by omega) (tyC.pop js (by omega) (by omega) (by omega)) (by omega) (by omega)) (fun oc G2 h => by rcases h with ⟨_, _, _, _, _, _, _, _, _, _, _, h, _⟩ <;> exact ⟨_, h⟩) (by omega) m_MK_walk ml_MK_101 im_MK_walk se_MK_walk c_MK ha.2.2 (Nat.le_of_ble_eq_true rfl) d_MK_tryFrom_149 rfl ?_
            intro v G9 hq
            rcases hq with ⟨o10, df211, dp212, fo213, st214, sk215, ns216, WK217, M218, SK219, SP220, hv, hfk, hNa, hNsp, hNwk, hNmk, hNsk215, hq21, hq22, hq23, hq24, hq25, hq26, hq27, hq28, hq29, hq30, hq31, hq32, hq33, hq34, hq35⟩
            cases hv
            have hq := hfk.get hq (by simp only [List.mem_cons, List.not_mem_nil, or_false]; omega)
            have hki := hfk.get hki (by simp only [List.mem_cons, List.not_mem_nil, or_false]; omega)
            have hne := hfk.get hne (by simp only [List.mem_cons, List.not_mem_nil, or_false]; omega)
            have hot := hfk.get hot (by simp only [List.mem_cons, List.not_mem_nil, or_false]; omega)
            have hra := hfk.get hra (by simp only [List.mem_cons, List.not_mem_nil, or_false]; omega)
            have hs := hfk.get hs (by decide)
            have hco := hfk.get hco (by decide)
            have hre := hfk.get hre (by decide)
            have hho := hfk.get hho (by decide)
            have hfr := hfr.tr hfk (by decide)
            have hq36 := hfk.1
            have ha := hNa
            have hsp := hNsp
            have hwk := hNwk
            have hmk := hNmk
            have hsk215 := hNsk215
            change ab_W _ _ _ G9 152 [some (vR a), none, some (vj mo), none, some (vj tu), none, some (vz (SK (dp - 1)))] [] _
            refine ab_lload d_MK_tryFrom_152 rfl ?_
            refine zz_lconst d_MK_tryFrom_154 ?_
            change ab_W _ _ _ G9 155 [some (vR a), none, some (vj mo), none, some (vj tu), none, some (vz (SK (dp - 1)))] [vj 1, vj tu] _
            refine zz_ladd d_MK_tryFrom_155 ?_
            refine ab_lstore d_MK_tryFrom_156 (Nat.le_of_ble_eq_true rfl) (Nat.le_of_ble_eq_true rfl) rfl ?_
            change ab_W _ _ _ G9 158 [some (vR a), none, some (vj mo), none, some (vj (tu + 1)), none, some (vz (SK (dp - 1)))] [] _
            refine ab_goto (tgt := 71) d_MK_tryFrom_158 (by decide) ?_
            refine ab_less (L' := [some (vR a), none, some (vj mo), none, some (vj (tu + 1)), none, none]) (fun i v h => by rcases i with _ | _ | _ | _ | _ | _ | _ | i <;> first | exact h | (simp at h)) ?_
            exact ih (stk := sk215) (df := df211) (dp := dp212) (fo := fo213) (stp := st214) (SP := SP220) (WK := WK217) (M := M218) (SK := SK219) (ns := ns216) (tu := (tu + 1)) ha hsp hwk hmk hsk215 hq hki hne hot hra hs hco hre hho (by omega) (by omega) (by omega) hq23 (by omega) (by omega) hq26 hq27 hq28 (by omega) hq30 (by omega) (by omega) hq33 (by omega) (by omega) hfr (by omega) hk0
          · have hs2x := sko_neg hs0 (by omega)
            refine ab_aload_n d_MK_tryFrom_125 rfl ?_
            refine ab_getf (fs := [vR sp, vR wk, vR mk, vz w, vz df, vR stk, vz (dp - 1), vz fo, vz fy, vz hw, vR q, vR s, vj stp]) f_MK_15 d_MK_tryFrom_126 ha.2.2 rfl ?_
            refine ab_iload d_MK_tryFrom_129 rfl ?_
            refine ab_callS (d' := d - 1) (as := [vR wk, vz (SK (dp - 1))]) (st := []) (z_PW_undo (o := o) (a := wk) (l := 45) (m := 20) (f := WK) (e := (SK (dp - 1))) hwk (by have h18 : ab_n0 = 18 := rfl; omega)) (fun oc G2 h => by rcases h with ⟨h, _⟩ <;> exact ⟨_, h⟩) (by omega) m_PW_undo ml_MK_97 st_PW_undo (Nat.le_of_ble_eq_true rfl) d_MK_tryFrom_131 rfl ?_
            intro v G37 hq
            rcases hq with ⟨hv, hfk, hlk, hsk, hNwk⟩
            cases hv
            have ha := hfk.get ha (by decide)
            have hsp := hfk.get hsp (by decide)
            have hmk := hfk.get hmk (by decide)
            have hstk := hfk.get hstk (by decide)
            have hq := hfk.get hq (by simp only [List.mem_cons, List.not_mem_nil, or_false]; omega)
            have hki := hfk.get hki (by simp only [List.mem_cons, List.not_mem_nil, or_false]; omega)
            have hne := hfk.get hne (by simp only [List.mem_cons, List.not_mem_nil, or_false]; omega)
            have hot := hfk.get hot (by simp only [List.mem_cons, List.not_mem_nil, or_false]; omega)
            have hra := hfk.get hra (by simp only [List.mem_cons, List.not_mem_nil, or_false]; omega)
            have hs := hfk.get hs (by decide)
            have hco := hfk.get hco (by decide)
            have hre := hfk.get hre (by decide)
            have hho := hfk.get hho (by decide)
            have hfr := hfr.tr hfk (by decide)
            have hq38 := hlk
            have hq39 := hsk
            have hwk := hNwk
            change ab_W _ _ _ G37 134 [some (vR a), none, some (vj mo), none, some (vj tu), none, some (vz (SK (dp - 1)))] [] _
            refine ab_goto (tgt := 152) d_MK_tryFrom_134 (by decide) ?_
            refine ab_lload d_MK_tryFrom_152 rfl ?_
            refine zz_lconst d_MK_tryFrom_154 ?_
            change ab_W _ _ _ G37 155 [some (vR a), none, some (vj mo), none, some (vj tu), none, some (vz (SK (dp - 1)))] [vj 1, vj tu] _
            refine zz_ladd d_MK_tryFrom_155 ?_
            refine ab_lstore d_MK_tryFrom_156 (Nat.le_of_ble_eq_true rfl) (Nat.le_of_ble_eq_true rfl) rfl ?_
            change ab_W _ _ _ G37 158 [some (vR a), none, some (vj mo), none, some (vj (tu + 1)), none, some (vz (SK (dp - 1)))] [] _
            refine ab_goto (tgt := 71) d_MK_tryFrom_158 (by decide) ?_
            refine ab_less (L' := [some (vR a), none, some (vj mo), none, some (vj (tu + 1)), none, none]) (fun i v h => by rcases i with _ | _ | _ | _ | _ | _ | _ | i <;> first | exact h | (simp at h)) ?_
            exact ih (stk := stk) (df := df) (dp := (dp - 1)) (fo := fo) (stp := stp) (SP := SP) (WK := (zu WK ((-1 - (SK (dp - 1))) / 4096) ((-1 - (SK (dp - 1))) % 4096 - 1))) (M := M) (SK := SK) (ns := ns) (tu := (tu + 1)) ha hsp hwk hmk hstk hq hki hne hot hra hs hco hre hho (by omega) (by omega) (by omega) hst (by omega) (by omega) (rgs_zu jwk (by omega)) jsp (skos_p jsk (by omega)) (by rw [zu_ne (by omega)]; omega) jspo (by omega) (by omega) (tyC.undo js (by omega) (by omega) (by omega)) (by omega) (by omega) hfr (by omega) hk0
        · refine ab_aload_n d_MK_tryFrom_92 rfl ?_
          refine ab_getf (fs := [vR sp, vR wk, vR mk, vz w, vz df, vR stk, vz dp, vz fo, vz fy, vz hw, vR q, vR s, vj stp]) f_MK_42 d_MK_tryFrom_93 ha.2.2 rfl ?_
          refine zz_if_ne (tgt := 161) d_MK_tryFrom_96 (by decide) (by omega) (fun c40 => ?_) (fun c40 => ?_)
          · refine ab_vret rfl d_MK_tryFrom_161 ?_
            exact hk0 _ _ _ _ _ _ _ _ _ _ _ _ ha hsp hwk hmk hstk (by omega) (by omega) (by exact hst) (by omega) (by omega) (by first | exact jwk | exact rgs_w jwk (by omega)) (by first | exact jsp | exact rgs_w jsp (by omega)) (by exact jsk) (by omega) (by exact jspo) (by omega) (by omega) (by exact tyC.fin js (by omega) hsu) (by omega) hfr
          · refine ab_aload_n d_MK_tryFrom_99 rfl ?_
            refine ab_dup d_MK_tryFrom_100 rfl ?_
            refine ab_getf (fs := [vR sp, vR wk, vR mk, vz w, vz df, vR stk, vz dp, vz fo, vz fy, vz hw, vR q, vR s, vj stp]) f_MK_86 d_MK_tryFrom_101 ha.2.2 rfl ?_
            refine zz_iconst d_MK_tryFrom_104 ?_
            refine zz_isub d_MK_tryFrom_105 ?_
            refine ab_putf (fs := [vR sp, vR wk, vR mk, vz w, vz df, vR stk, vz dp, vz fo, vz fy, vz hw, vR q, vR s, vj stp]) f_MK_86 (Or.inl rfl) d_MK_tryFrom_106 ha.2.2 (Nat.le_of_ble_eq_true rfl) (fun _ => ⟨rfl, rfl⟩) (ha.2.1 (by decide)) ?_
            obtain ⟨G41, eG41⟩ : ∃ z : ab_G, z = List.set G a (ab_ob 2 [vR sp, vR wk, vR mk, vz w, vz df, vR stk, vz (dp - 1), vz fo, vz fy, vz hw, vR q, vR s, vj stp]) := ⟨_, rfl⟩
            have hsp := hsp.keep ha eG41 (by decide)
            have hwk := hwk.keep ha eG41 (by decide)
            have hmk := hmk.keep ha eG41 (by decide)
            have hstk := hstk.keep ha eG41 (by decide)
            have hq := hq.keep ha eG41 (by omega)
            have hki := hki.keep ha eG41 (by omega)
            have hne := hne.keep ha eG41 (by omega)
            have hot := hot.keep ha eG41 (by omega)
            have hra := hra.keep ha eG41 (by omega)
            have hs := hs.keep ha eG41 (by decide)
            have hco := hco.keep ha eG41 (by decide)
            have hre := hre.keep ha eG41 (by decide)
            have hho := hho.keep ha eG41 (by decide)
            have hq42 := z_len eG41
            have hq43 := z_sl ha eG41 rfl
            have hfr := hfr.wr ha eG41 (by decide)
            have ha := ha.kept eG41
            change ab_W _ _ _ (List.set G a (ab_ob 2 [vR sp, vR wk, vR mk, vz w, vz df, vR stk, vz (dp - 1), vz fo, vz fy, vz hw, vR q, vR s, vj stp])) 109 [some (vR a), none, some (vj mo), none, some (vj tu), none, none] [] _
            rw [← eG41]
            refine ab_aload_n d_MK_tryFrom_109 rfl ?_
            refine ab_getf (fs := [vR sp, vR wk, vR mk, vz w, vz df, vR stk, vz (dp - 1), vz fo, vz fy, vz hw, vR q, vR s, vj stp]) f_MK_21 d_MK_tryFrom_110 ha.2.2 rfl ?_
            refine ab_aload_n d_MK_tryFrom_113 rfl ?_
            refine ab_getf (fs := [vR sp, vR wk, vR mk, vz w, vz df, vR stk, vz (dp - 1), vz fo, vz fy, vz hw, vR q, vR s, vj stp]) f_MK_86 d_MK_tryFrom_114 ha.2.2 rfl ?_
            refine zz_iald d_MK_tryFrom_117 hstk (by omega) ?_
            have hs0 := jsk (dp - 1) (by omega) (by omega)
            have hs1 := sko_in hs0 (by omega)
            refine ab_istore d_MK_tryFrom_118 (Nat.le_of_ble_eq_true rfl) (Nat.le_of_ble_eq_true rfl) rfl ?_
            change ab_W _ _ _ G41 120 [some (vR a), none, some (vj mo), none, some (vj tu), none, some (vz (SK (dp - 1)))] [] _
            refine ab_iload d_MK_tryFrom_120 rfl ?_
            refine zz_if_ge (tgt := 137) d_MK_tryFrom_122 (by decide) (by omega) (fun c44 => ?_) (fun c44 => ?_)
            · refine ab_aload_n d_MK_tryFrom_137 rfl ?_
              refine ab_iload d_MK_tryFrom_138 rfl ?_
              have hs2x := sko_pos hs0 (by omega)
              refine zz_sipush d_MK_tryFrom_140 (by decide) ?_
              refine zz_iand 10 1024 d_MK_tryFrom_143 (by decide) (by decide) (by decide) (by decide) ?_
              refine ab_iload d_MK_tryFrom_144 rfl ?_
              refine zz_bipush d_MK_tryFrom_146 (by decide) ?_
              refine zz_ishr 10 1024 d_MK_tryFrom_148 (by decide) (by decide) (by decide) (by decide) (by omega) ?_
              refine ab_callV (d' := d - 1) (as := [vz ((SK (dp - 1)) % 1024), vz ((SK (dp - 1)) / 1024)]) (st := []) (r := _) (z_MK_walk (o := o) (q := q) (lq := lq) (ki := ki) (ne := ne) (ot := ot) (cnt := cnt) (fi := fi) (la := la) (ra := ra) (ru := ru) (gr := gr) (wi := wi) (sz := sz) (fl := fl) (ve := ve) (mi := mi) (na := na) (nl := nl) (K := K) (N := N) (O := O) (RR := RR) (nr := nr) (s := s) (by_ := by_) (co := co) (re := re) (ho := ho) (n := n) (C := C) (Rs := Rs) (H := H) (mc := mc) (a := a) (sp := sp) (wk := wk) (mk := mk) (stk := stk) (w := w) (df := df) (dp := (dp - 1)) (fo := fo) (fy := fy) (hw := hw) (stp := stp) (SP := SP) (WK := WK) (M := M) (SK := SK) (nm := nm) (ns := ns) (x := ((SK (dp - 1)) % 1024)) (p := ((SK (dp - 1)) / 1024)) (st9 := st9) (fr9 := fr9) (S9 := S9) ha hsp hwk hmk hstk hq hki hne hot hra hs hco hre hho (by omega) hp hr (by omega) hsu (by omega) (by omega) (by omega) (by omega) (by omega) (by omega) hst (by omega) (by omega) jwk jsp (skos_p jsk (by omega)) (by omega) jspo (by omega) (by omega) (tyC.pop js (by omega) (by omega) (by omega)) (by omega) (by omega)) (fun oc G2 h => by rcases h with ⟨_, _, _, _, _, _, _, _, _, _, _, h, _⟩ <;> exact ⟨_, h⟩) (by omega) m_MK_walk ml_MK_101 im_MK_walk se_MK_walk c_MK ha.2.2 (Nat.le_of_ble_eq_true rfl) d_MK_tryFrom_149 rfl ?_
              intro v G45 hq
              rcases hq with ⟨o46, df247, dp248, fo249, st250, sk251, ns252, WK253, M254, SK255, SP256, hv, hfk, hNa, hNsp, hNwk, hNmk, hNsk251, hq57, hq58, hq59, hq60, hq61, hq62, hq63, hq64, hq65, hq66, hq67, hq68, hq69, hq70, hq71⟩
              cases hv
              have hq := hfk.get hq (by simp only [List.mem_cons, List.not_mem_nil, or_false]; omega)
              have hki := hfk.get hki (by simp only [List.mem_cons, List.not_mem_nil, or_false]; omega)
              have hne := hfk.get hne (by simp only [List.mem_cons, List.not_mem_nil, or_false]; omega)
              have hot := hfk.get hot (by simp only [List.mem_cons, List.not_mem_nil, or_false]; omega)
              have hra := hfk.get hra (by simp only [List.mem_cons, List.not_mem_nil, or_false]; omega)
              have hs := hfk.get hs (by decide)
              have hco := hfk.get hco (by decide)
              have hre := hfk.get hre (by decide)
              have hho := hfk.get hho (by decide)
              have hfr := hfr.tr hfk (by decide)
              have hq72 := hfk.1
              have ha := hNa
              have hsp := hNsp
              have hwk := hNwk
              have hmk := hNmk
              have hsk251 := hNsk251
              change ab_W _ _ _ G45 152 [some (vR a), none, some (vj mo), none, some (vj tu), none, some (vz (SK (dp - 1)))] [] _
              refine ab_lload d_MK_tryFrom_152 rfl ?_
              refine zz_lconst d_MK_tryFrom_154 ?_
              change ab_W _ _ _ G45 155 [some (vR a), none, some (vj mo), none, some (vj tu), none, some (vz (SK (dp - 1)))] [vj 1, vj tu] _
              refine zz_ladd d_MK_tryFrom_155 ?_
              refine ab_lstore d_MK_tryFrom_156 (Nat.le_of_ble_eq_true rfl) (Nat.le_of_ble_eq_true rfl) rfl ?_
              change ab_W _ _ _ G45 158 [some (vR a), none, some (vj mo), none, some (vj (tu + 1)), none, some (vz (SK (dp - 1)))] [] _
              refine ab_goto (tgt := 71) d_MK_tryFrom_158 (by decide) ?_
              refine ab_less (L' := [some (vR a), none, some (vj mo), none, some (vj (tu + 1)), none, none]) (fun i v h => by rcases i with _ | _ | _ | _ | _ | _ | _ | i <;> first | exact h | (simp at h)) ?_
              exact ih (stk := sk251) (df := df247) (dp := dp248) (fo := fo249) (stp := st250) (SP := SP256) (WK := WK253) (M := M254) (SK := SK255) (ns := ns252) (tu := (tu + 1)) ha hsp hwk hmk hsk251 hq hki hne hot hra hs hco hre hho (by omega) (by omega) (by omega) hq59 (by omega) (by omega) hq62 hq63 hq64 (by omega) hq66 (by omega) (by omega) hq69 (by omega) (by omega) hfr (by omega) hk0
            · have hs2x := sko_neg hs0 (by omega)
              refine ab_aload_n d_MK_tryFrom_125 rfl ?_
              refine ab_getf (fs := [vR sp, vR wk, vR mk, vz w, vz df, vR stk, vz (dp - 1), vz fo, vz fy, vz hw, vR q, vR s, vj stp]) f_MK_15 d_MK_tryFrom_126 ha.2.2 rfl ?_
              refine ab_iload d_MK_tryFrom_129 rfl ?_
              refine ab_callS (d' := d - 1) (as := [vR wk, vz (SK (dp - 1))]) (st := []) (z_PW_undo (o := o) (a := wk) (l := 45) (m := 20) (f := WK) (e := (SK (dp - 1))) hwk (by have h18 : ab_n0 = 18 := rfl; omega)) (fun oc G2 h => by rcases h with ⟨h, _⟩ <;> exact ⟨_, h⟩) (by omega) m_PW_undo ml_MK_97 st_PW_undo (Nat.le_of_ble_eq_true rfl) d_MK_tryFrom_131 rfl ?_
              intro v G73 hq
              rcases hq with ⟨hv, hfk, hlk, hsk, hNwk⟩
              cases hv
              have ha := hfk.get ha (by decide)
              have hsp := hfk.get hsp (by decide)
              have hmk := hfk.get hmk (by decide)
              have hstk := hfk.get hstk (by decide)
              have hq := hfk.get hq (by simp only [List.mem_cons, List.not_mem_nil, or_false]; omega)
              have hki := hfk.get hki (by simp only [List.mem_cons, List.not_mem_nil, or_false]; omega)
              have hne := hfk.get hne (by simp only [List.mem_cons, List.not_mem_nil, or_false]; omega)
              have hot := hfk.get hot (by simp only [List.mem_cons, List.not_mem_nil, or_false]; omega)
              have hra := hfk.get hra (by simp only [List.mem_cons, List.not_mem_nil, or_false]; omega)
              have hs := hfk.get hs (by decide)
              have hco := hfk.get hco (by decide)
              have hre := hfk.get hre (by decide)
              have hho := hfk.get hho (by decide)
              have hfr := hfr.tr hfk (by decide)
              have hq74 := hlk
              have hq75 := hsk
              have hwk := hNwk
              change ab_W _ _ _ G73 134 [some (vR a), none, some (vj mo), none, some (vj tu), none, some (vz (SK (dp - 1)))] [] _
              refine ab_goto (tgt := 152) d_MK_tryFrom_134 (by decide) ?_
              refine ab_lload d_MK_tryFrom_152 rfl ?_
              refine zz_lconst d_MK_tryFrom_154 ?_
              change ab_W _ _ _ G73 155 [some (vR a), none, some (vj mo), none, some (vj tu), none, some (vz (SK (dp - 1)))] [vj 1, vj tu] _
              refine zz_ladd d_MK_tryFrom_155 ?_
              refine ab_lstore d_MK_tryFrom_156 (Nat.le_of_ble_eq_true rfl) (Nat.le_of_ble_eq_true rfl) rfl ?_
              change ab_W _ _ _ G73 158 [some (vR a), none, some (vj mo), none, some (vj (tu + 1)), none, some (vz (SK (dp - 1)))] [] _
              refine ab_goto (tgt := 71) d_MK_tryFrom_158 (by decide) ?_
              refine ab_less (L' := [some (vR a), none, some (vj mo), none, some (vj (tu + 1)), none, none]) (fun i v h => by rcases i with _ | _ | _ | _ | _ | _ | _ | i <;> first | exact h | (simp at h)) ?_
              exact ih (stk := stk) (df := df) (dp := (dp - 1)) (fo := fo) (stp := stp) (SP := SP) (WK := (zu WK ((-1 - (SK (dp - 1))) / 4096) ((-1 - (SK (dp - 1))) % 4096 - 1))) (M := M) (SK := SK) (ns := ns) (tu := (tu + 1)) ha hsp hwk hmk hstk hq hki hne hot hra hs hco hre hho (by omega) (by omega) (by omega) hst (by omega) (by omega) (rgs_zu jwk (by omega)) jsp (skos_p jsk (by omega)) (by rw [zu_ne (by omega)]; omega) jspo (by omega) (by omega) (tyC.undo js (by omega) (by omega) (by omega)) (by omega) (by omega) hfr (by omega) hk0
set_option maxRecDepth 100000 in
set_option maxHeartbeats 4000000 in
theorem z_MK_tryFrom {X : ab_X} {d : Nat} {o : Nat → Nat} {G : ab_G} {q : Nat} {lq : Nat} {ki : Nat} {ne : Nat} {ot : Nat} {cnt : Int} {fi : Int} {la : Int} {ra : Nat} {ru : Int} {gr : Int} {wi : Int} {sz : Int} {fl : Int} {ve : Int} {mi : Int} {na : Nat} {nl : Nat} {K : Int → Int} {N : Int → Int} {O : Int → Int} {RR : Int → Int} {nr : Nat} {s : Nat} {by_ : Nat} {co : Nat} {re : Nat} {ho : Nat} {n : Int} {f : Int → Int} {C : Int → Int} {Rs : Int → Int} {H : Int → Int} {m : Nat} {mc : Nat} {a : Nat} {sp : Nat} {wk : Nat} {mk : Nat} {stk : Nat} {w : Int} {df : Int} {dp : Int} {fo : Int} {fy : Int} {hw : Int} {stp : Int} {SP : Int → Int} {WK : Int → Int} {M : Int → Int} {SK : Int → Int} {nm : Nat} {ns : Nat} {p : Int} {v9 : Sn} (ha : cc o G a 44 (ab_ob 2 [vR sp, vR wk, vR mk, vz w, vz df, vR stk, vz dp, vz fo, vz fy, vz hw, vR q, vR s, vj stp])) (hsp : cc o G sp 31 (za 20 SP)) (hwk : cc o G wk 45 (za 20 WK)) (hmk : cc o G mk 46 (za nm M)) (hstk : cc o G stk 47 (za ns SK)) (hq : cc o G q lq (ab_ob 5 [vR ki, vR ne, vR ot, vz cnt, vz fi, vz la, vR ra, vz ru, vz gr, vz wi, vz sz, vz fl, vz ve, vz mi, vR na, vR nl])) (hki : cc o G ki (lq + 1) (za 808 K)) (hne : cc o G ne (lq + 2) (za 808 N)) (hot : cc o G ot (lq + 3) (za 808 O)) (hra : cc o G ra (lq + 4) (za nr RR)) (hs : cc o G s 26 (ab_ob 9 [vR by_, vR co, vR re, vR ho, vz n])) (hco : cc o G co 28 (za mc C)) (hre : cc o G re 29 (za mc Rs)) (hho : cc o G ho 30 (za mc H)) (cq : 100 ≤ lq ∧ 0 ≤ cnt ∧ cnt ≤ 808 ∧ ↑nr ≤ (100000 : Int)) (hp : prok K N O RR cnt ↑nr wi) (hr : ∀ k : Int, 0 ≤ k → k < ↑nr → 0 ≤ RR k ∧ RR k ≤ 1114111) (csu : 0 ≤ n ∧ n ≤ ↑m ∧ 32 ≤ m ∧ m ≤ 2000 ∧ mc = m + 1) (hsu : suok f C Rs H n) (cw : 1 ≤ w ∧ w ≤ 26 ∧ cnt ≤ 32 * w) (cm : (n + 1) * w ≤ ↑nm ∧ ↑nm ≤ (52026 : Int)) (cwi : 2 ≤ wi ∧ wi ≤ 20) (cfi : 0 ≤ fi ∧ fi < cnt) (cp : 0 ≤ p ∧ p ≤ n) (cd : 0 ≤ df ∧ df ≤ n + 1) (hst : stn ns) (hs2 : 64 ≤ ns ∧ ns ≤ 1616809) (cf : 0 ≤ fo ∧ fo ≤ 1 ∧ 0 ≤ fy ∧ fy ≤ 1 ∧ 0 ≤ hw ∧ hw ≤ 2) (jsp : rgs SP 20 (-1) 2000) (jspo : spo fo SP wi n) (rc : G.length + 5 ≤ ab_n0 + room_1.cells + stC ns) (rs : ab_slots G + 1916393 ≤ room_1.slots + stT ns) (jfo : fo = 0) (jpm : prM K N O RR fi v9) (jdd : ddC K N O RR f n hw p M w df) (hd : 7 ≤ d) : ab_F X d y_MK_tryFrom (.code y_MK_tryFrom b_MK_tryFrom 7 none) [vR a, vz p] G (fun oc G2 => ∃ o2 : Nat → Nat, ∃ df2 : Int, ∃ dp2 : Int, ∃ fo2 : Int, ∃ st2 : Int, ∃ sk2 : Nat, ∃ ns2 : Nat, ∃ WK2 : Int → Int, ∃ M2 : Int → Int, ∃ SK2 : Int → Int, ∃ SP2 : Int → Int, oc = .returned none ∧ fx o o2 [44, 45, 46, 47, 31] G G2 ∧ cc o2 G2 a 44 (ab_ob 2 [vR sp, vR wk, vR mk, vz w, vz df2, vR sk2, vz dp2, vz fo2, vz fy, vz hw, vR q, vR s, vj st2]) ∧ cc o2 G2 sp 31 (za 20 SP2) ∧ cc o2 G2 wk 45 (za 20 WK2) ∧ cc o2 G2 mk 46 (za nm M2) ∧ cc o2 G2 sk2 47 (za ns2 SK2) ∧ (0 ≤ df2 ∧ df2 ≤ n + 1) ∧ (0 ≤ dp2 ∧ dp2 ≤ ↑ns2) ∧ (stn ns2) ∧ (64 ≤ ns2 ∧ ns2 ≤ 1616809) ∧ (0 ≤ fo2 ∧ fo2 ≤ 1) ∧ (rgs WK2 wi (-1) n) ∧ (rgs SP2 20 (-1) 2000) ∧ (skos SK2 dp2 cnt n wi) ∧ (0 ≤ WK2 0) ∧ (spo fo2 SP2 wi n) ∧ (G2.length + stC ns = G.length + stC ns2) ∧ (ab_slots G2 + stT ns = ab_slots G + stT ns2) ∧ (trE K N O RR f n hw wi p p M2 w df2 fo2 SP2 (mtR fy hw n (wyR v9 f n p))) ∧ (stp ≤ st2 ∧ st2 + 2 * ucn M2 w df2 n ≤ stp + 1 + 2 * ucn M w df n)) := by
  refine ab_F_of (by decide +kernel) (Nat.le_of_ble_eq_true rfl) ?_
  obtain ⟨Q, hQ⟩ : ∃ z : Outcome → ab_G → Prop, z = (fun oc G2 => ∃ o2 : Nat → Nat, ∃ df2 : Int, ∃ dp2 : Int, ∃ fo2 : Int, ∃ st2 : Int, ∃ sk2 : Nat, ∃ ns2 : Nat, ∃ WK2 : Int → Int, ∃ M2 : Int → Int, ∃ SK2 : Int → Int, ∃ SP2 : Int → Int, oc = .returned none ∧ fx o o2 [44, 45, 46, 47, 31] G G2 ∧ cc o2 G2 a 44 (ab_ob 2 [vR sp, vR wk, vR mk, vz w, vz df2, vR sk2, vz dp2, vz fo2, vz fy, vz hw, vR q, vR s, vj st2]) ∧ cc o2 G2 sp 31 (za 20 SP2) ∧ cc o2 G2 wk 45 (za 20 WK2) ∧ cc o2 G2 mk 46 (za nm M2) ∧ cc o2 G2 sk2 47 (za ns2 SK2) ∧ (0 ≤ df2 ∧ df2 ≤ n + 1) ∧ (0 ≤ dp2 ∧ dp2 ≤ ↑ns2) ∧ (stn ns2) ∧ (64 ≤ ns2 ∧ ns2 ≤ 1616809) ∧ (0 ≤ fo2 ∧ fo2 ≤ 1) ∧ (rgs WK2 wi (-1) n) ∧ (rgs SP2 20 (-1) 2000) ∧ (skos SK2 dp2 cnt n wi) ∧ (0 ≤ WK2 0) ∧ (spo fo2 SP2 wi n) ∧ (G2.length + stC ns = G.length + stC ns2) ∧ (ab_slots G2 + stT ns = ab_slots G + stT ns2) ∧ (trE K N O RR f n hw wi p p M2 w df2 fo2 SP2 (mtR fy hw n (wyR v9 f n p))) ∧ (stp ≤ st2 ∧ st2 + 2 * ucn M2 w df2 n ≤ stp + 1 + 2 * ucn M w df n)) := ⟨_, rfl⟩
  rw [← hQ]
  change ab_W X (ab_pl y_MK_tryFrom b_MK_tryFrom 7 none) d G 0 [some (vR a), some (vz p), none, none, none, none, none] [] Q
  have hfr : fx o o [44, 45, 46, 47, 31] G G := fx.rf
  refine ab_aload_n d_MK_tryFrom_0 rfl ?_
  refine ab_getf (fs := [vR sp, vR wk, vR mk, vz w, vz df, vR stk, vz dp, vz fo, vz fy, vz hw, vR q, vR s, vj stp]) f_MK_15 d_MK_tryFrom_1 ha.2.2 rfl ?_
  refine zz_iconst d_MK_tryFrom_4 ?_
  refine ab_aload_n d_MK_tryFrom_5 rfl ?_
  refine ab_getf (fs := [vR sp, vR wk, vR mk, vz w, vz df, vR stk, vz dp, vz fo, vz fy, vz hw, vR q, vR s, vj stp]) f_MK_24 d_MK_tryFrom_6 ha.2.2 rfl ?_
  refine ab_getf (fs := [vR ki, vR ne, vR ot, vz cnt, vz fi, vz la, vR ra, vz ru, vz gr, vz wi, vz sz, vz fl, vz ve, vz mi, vR na, vR nl]) f_MK_83 d_MK_tryFrom_9 hq.2.2 rfl ?_
  refine zz_iconst d_MK_tryFrom_12 ?_
  refine ab_callS (d' := d - 1) (as := [vR wk, vz 0, vz wi, vz (-1)]) (st := []) (z_AR_fillr (o := o) (a := wk) (l := 45) (n := 20) (f := WK) (v := (-1)) (x := 0) (y := wi) hwk (by have h18 : ab_n0 = 18 := rfl; omega) (by omega)) (fun oc G2 h => by rcases h with ⟨h, _⟩ <;> exact ⟨_, h⟩) (by omega) m_AR_fillr ml_MK_77 st_AR_fillr (Nat.le_of_ble_eq_true rfl) d_MK_tryFrom_13 rfl ?_
  intro v G1 hq
  rcases hq with ⟨hv, hfk, hlk, hsk, hNwk⟩
  cases hv
  have ha := hfk.get ha (by decide)
  have hsp := hfk.get hsp (by decide)
  have hmk := hfk.get hmk (by decide)
  have hstk := hfk.get hstk (by decide)
  have hq := hfk.get hq (by simp only [List.mem_cons, List.not_mem_nil, or_false]; omega)
  have hki := hfk.get hki (by simp only [List.mem_cons, List.not_mem_nil, or_false]; omega)
  have hne := hfk.get hne (by simp only [List.mem_cons, List.not_mem_nil, or_false]; omega)
  have hot := hfk.get hot (by simp only [List.mem_cons, List.not_mem_nil, or_false]; omega)
  have hra := hfk.get hra (by simp only [List.mem_cons, List.not_mem_nil, or_false]; omega)
  have hs := hfk.get hs (by decide)
  have hco := hfk.get hco (by decide)
  have hre := hfk.get hre (by decide)
  have hho := hfk.get hho (by decide)
  have hfr := hfr.tr hfk (by decide)
  have hq2 := hlk
  have hq3 := hsk
  have hwk := hNwk
  change ab_W _ _ _ G1 16 [some (vR a), some (vz p), none, none, none, none, none] [] _
  refine ab_aload_n d_MK_tryFrom_16 rfl ?_
  refine ab_getf (fs := [vR sp, vR wk, vR mk, vz w, vz df, vR stk, vz dp, vz fo, vz fy, vz hw, vR q, vR s, vj stp]) f_MK_15 d_MK_tryFrom_17 ha.2.2 rfl ?_
  refine zz_iconst d_MK_tryFrom_20 ?_
  refine ab_iload_n d_MK_tryFrom_21 rfl ?_
  refine zz_iast d_MK_tryFrom_22 hwk (by omega) (hwk.2.1 (by decide)) ?_
  obtain ⟨G4, eG4⟩ : ∃ z : ab_G, z = List.set G1 wk (za 20 (zu (zfill WK 0 wi (-1)) 0 p)) := ⟨_, rfl⟩
  have ha := ha.keep hwk eG4 (by decide)
  have hsp := hsp.keep hwk eG4 (by decide)
  have hmk := hmk.keep hwk eG4 (by decide)
  have hstk := hstk.keep hwk eG4 (by decide)
  have hq := hq.keep hwk eG4 (by omega)
  have hki := hki.keep hwk eG4 (by omega)
  have hne := hne.keep hwk eG4 (by omega)
  have hot := hot.keep hwk eG4 (by omega)
  have hra := hra.keep hwk eG4 (by omega)
  have hs := hs.keep hwk eG4 (by decide)
  have hco := hco.keep hwk eG4 (by decide)
  have hre := hre.keep hwk eG4 (by decide)
  have hho := hho.keep hwk eG4 (by decide)
  have hq5 := z_len eG4
  have hq6 := z_sl hwk eG4 rfl
  have hfr := hfr.wr hwk eG4 (by decide)
  have hwk := hwk.kept eG4
  change ab_W _ _ _ (List.set G1 wk (za 20 (zu (zfill WK 0 wi (-1)) 0 p))) 23 [some (vR a), some (vz p), none, none, none, none, none] [] _
  rw [← eG4]
  refine ab_aload_n d_MK_tryFrom_23 rfl ?_
  refine zz_iconst d_MK_tryFrom_24 ?_
  refine ab_putf (fs := [vR sp, vR wk, vR mk, vz w, vz df, vR stk, vz dp, vz fo, vz fy, vz hw, vR q, vR s, vj stp]) f_MK_86 (Or.inl rfl) d_MK_tryFrom_25 ha.2.2 (Nat.le_of_ble_eq_true rfl) (fun _ => ⟨rfl, rfl⟩) (ha.2.1 (by decide)) ?_
  obtain ⟨G7, eG7⟩ : ∃ z : ab_G, z = List.set G4 a (ab_ob 2 [vR sp, vR wk, vR mk, vz w, vz df, vR stk, vz 0, vz fo, vz fy, vz hw, vR q, vR s, vj stp]) := ⟨_, rfl⟩
  have hsp := hsp.keep ha eG7 (by decide)
  have hwk := hwk.keep ha eG7 (by decide)
  have hmk := hmk.keep ha eG7 (by decide)
  have hstk := hstk.keep ha eG7 (by decide)
  have hq := hq.keep ha eG7 (by omega)
  have hki := hki.keep ha eG7 (by omega)
  have hne := hne.keep ha eG7 (by omega)
  have hot := hot.keep ha eG7 (by omega)
  have hra := hra.keep ha eG7 (by omega)
  have hs := hs.keep ha eG7 (by decide)
  have hco := hco.keep ha eG7 (by decide)
  have hre := hre.keep ha eG7 (by decide)
  have hho := hho.keep ha eG7 (by decide)
  have hq8 := z_len eG7
  have hq9 := z_sl ha eG7 rfl
  have hfr := hfr.wr ha eG7 (by decide)
  have ha := ha.kept eG7
  change ab_W _ _ _ (List.set G4 a (ab_ob 2 [vR sp, vR wk, vR mk, vz w, vz df, vR stk, vz 0, vz fo, vz fy, vz hw, vR q, vR s, vj stp])) 28 [some (vR a), some (vz p), none, none, none, none, none] [] _
  rw [← eG7]
  refine ab_aload_n d_MK_tryFrom_28 rfl ?_
  refine ab_iload_n d_MK_tryFrom_29 rfl ?_
  refine zz_bipush d_MK_tryFrom_30 (by decide) ?_
  refine zz_ishl 10 1024 d_MK_tryFrom_32 (by decide) (by decide) (by decide) ?_
  refine ab_aload_n d_MK_tryFrom_33 rfl ?_
  refine ab_getf (fs := [vR sp, vR wk, vR mk, vz w, vz df, vR stk, vz 0, vz fo, vz fy, vz hw, vR q, vR s, vj stp]) f_MK_24 d_MK_tryFrom_34 ha.2.2 rfl ?_
  refine ab_getf (fs := [vR ki, vR ne, vR ot, vz cnt, vz fi, vz la, vR ra, vz ru, vz gr, vz wi, vz sz, vz fl, vz ve, vz mi, vR na, vR nl]) f_MK_89 d_MK_tryFrom_37 hq.2.2 rfl ?_
  refine zz_iorlow (a := p) 10 1024 d_MK_tryFrom_40 (by decide) (by decide) (by omega) ?_
  refine ab_callV (d' := d - 1) (as := [vz ((p * 1024) + fi)]) (st := []) (r := _) (z_MK_push (o := o) (q := q) (s := s) (a := a) (sp := sp) (wk := wk) (mk := mk) (stk := stk) (w := w) (df := df) (dp := 0) (fo := fo) (fy := fy) (hw := hw) (stp := stp) (SK := SK) (ns := ns) (v := ((p * 1024) + fi)) ha hstk (by omega) hst (by omega) (by omega) (by omega) (by omega)) (fun oc G2 h => by rcases h with ⟨_, _, _, _, h, _⟩ | ⟨_, h, _⟩ <;> exact ⟨_, h⟩) (by omega) m_MK_push ml_MK_92 im_MK_push se_MK_push c_MK ha.2.2 (Nat.le_of_ble_eq_true rfl) d_MK_tryFrom_41 rfl ?_
  intro v G10 hq
  rcases hq with ⟨o11, sk212, ns213, SK214, hv, hfk, hNa, hNsk212, hq15, hq16, hq17, hq18, hq19, hq20⟩ | ⟨o21, hv, hfk, hNa, hNstk, hq22, hq23, hq24⟩
  · cases hv
    have hsp := hfk.get hsp (by decide)
    have hwk := hfk.get hwk (by decide)
    have hmk := hfk.get hmk (by decide)
    have hq := hfk.get hq (by simp only [List.mem_cons, List.not_mem_nil, or_false]; omega)
    have hki := hfk.get hki (by simp only [List.mem_cons, List.not_mem_nil, or_false]; omega)
    have hne := hfk.get hne (by simp only [List.mem_cons, List.not_mem_nil, or_false]; omega)
    have hot := hfk.get hot (by simp only [List.mem_cons, List.not_mem_nil, or_false]; omega)
    have hra := hfk.get hra (by simp only [List.mem_cons, List.not_mem_nil, or_false]; omega)
    have hs := hfk.get hs (by decide)
    have hco := hfk.get hco (by decide)
    have hre := hfk.get hre (by decide)
    have hho := hfk.get hho (by decide)
    have hfr := hfr.tr hfk (by decide)
    have hq25 := hfk.1
    have ha := hNa
    have hsk212 := hNsk212
    change ab_W _ _ _ G10 44 [some (vR a), some (vz p), none, none, none, none, none] [] _
    have hub9_ := ucc_b (M := M) (w := w) (df := df) (cnt := cnt) (n := n) (by omega) (by omega)
    have hm9_ : 4 * cnt * (n + 2) = 4 * (cnt * (n + 1)) + 4 * cnt := by rw [show n + 2 = (n + 1) + 1 by omega, Int.mul_add (4 * cnt), Int.mul_one, Int.mul_assoc]
    have hm8_ : cnt * (n + 1) ≤ 808 * (n + 1) := Int.mul_le_mul_of_nonneg_right (by omega) (by omega)
    refine zz_ldc2 4 d_MK_tryFrom_44 cn_MK_95 ?_
    refine ab_aload_n d_MK_tryFrom_47 rfl ?_
    refine ab_getf (fs := [vR sp, vR wk, vR mk, vz w, vz df, vR sk212, vz (0 + 1), vz fo, vz fy, vz hw, vR q, vR s, vj stp]) f_MK_24 d_MK_tryFrom_48 ha.2.2 rfl ?_
    refine ab_getf (fs := [vR ki, vR ne, vR ot, vz cnt, vz fi, vz la, vR ra, vz ru, vz gr, vz wi, vz sz, vz fl, vz ve, vz mi, vR na, vR nl]) f_MK_46 d_MK_tryFrom_51 hq.2.2 rfl ?_
    refine zz_i2l d_MK_tryFrom_54 (by omega) ?_
    refine zz_lmul d_MK_tryFrom_55 ?_
    refine ab_aload_n d_MK_tryFrom_56 rfl ?_
    refine ab_getf (fs := [vR sp, vR wk, vR mk, vz w, vz df, vR sk212, vz (0 + 1), vz fo, vz fy, vz hw, vR q, vR s, vj stp]) f_MK_28 d_MK_tryFrom_57 ha.2.2 rfl ?_
    refine ab_getf (fs := [vR by_, vR co, vR re, vR ho, vz n]) f_MK_55 d_MK_tryFrom_60 hs.2.2 rfl ?_
    refine zz_iconst d_MK_tryFrom_63 ?_
    refine zz_iadd d_MK_tryFrom_64 ?_
    refine zz_i2l d_MK_tryFrom_65 (by omega) ?_
    refine zz_lmul d_MK_tryFrom_66 ?_
    obtain ⟨v27, hv27⟩ : ∃ z : Int, z = (4 * cnt) * (n + 2) := ⟨_, rfl⟩
    rw [← hv27]
    have hv27b := z_mulb (a := (4 * cnt)) (b := (n + 2)) (A := 3232) (B := 2002) (by omega) (by omega)
    rw [← hv27] at hv27b
    change ab_W _ _ _ G10 67 [some (vR a), some (vz p), none, none, none, none, none] [vj v27] _
    refine ab_lstore_n d_MK_tryFrom_67 (Nat.le_of_ble_eq_true rfl) (Nat.le_of_ble_eq_true rfl) rfl ?_
    change ab_W _ _ _ G10 68 [some (vR a), some (vz p), some (vj v27), none, none, none, none] [] _
    refine zz_lconst d_MK_tryFrom_68 ?_
    change ab_W _ _ _ G10 69 [some (vR a), some (vz p), some (vj v27), none, none, none, none] [vj 0] _
    refine ab_lstore d_MK_tryFrom_69 (Nat.le_of_ble_eq_true rfl) (Nat.le_of_ble_eq_true rfl) rfl ?_
    change ab_W _ _ _ G10 71 [some (vR a), some (vz p), some (vj v27), none, some (vj 0), none, none] [] _
    refine ab_less (L' := [some (vR a), none, some (vj v27), none, some (vj 0), none, none]) (fun i v h => by rcases i with _ | _ | _ | _ | _ | _ | _ | i <;> first | exact h | (simp at h)) ?_
    refine y_MK_tryFrom_71 (q := q) (lq := lq) (ki := ki) (ne := ne) (ot := ot) (cnt := cnt) (fi := fi) (la := la) (ra := ra) (ru := ru) (gr := gr) (wi := wi) (sz := sz) (fl := fl) (ve := ve) (mi := mi) (na := na) (nl := nl) (K := K) (N := N) (O := O) (RR := RR) (nr := nr) (s := s) (by_ := by_) (co := co) (re := re) (ho := ho) (n := n) (C := C) (Rs := Rs) (H := H) (mc := mc) (a := a) (sp := sp) (wk := wk) (mk := mk) (w := w) (fy := fy) (hw := hw) (nm := nm) (mo := v27) (ns0 := ns213) (st9 := p) (fr9 := p) (S9 := (mtR fy hw n (wyR v9 f n p))) (A9 := (cnt * (n + 1))) (st0 := stp) (U0 := (ucn M w df n)) (G0 := G10) (stk := sk212) (df := df) (dp := (0 + 1)) (fo := fo) (stp := stp) (SP := SP) (WK := (zu (zfill WK 0 wi (-1)) 0 p)) (M := M) (SK := SK214) (ns := ns213) (tu := 0) (by omega) hp hr (by omega) hsu (by omega) (by omega) (by omega) (by omega) (by omega) (by omega) (by omega) (by omega) (Int.toNat (v27 - 0) + 1) ha hsp hwk hmk hsk212 hq hki hne hot hra hs hco hre hho (by omega) (by omega) (by omega) hq15 (by omega) (by omega) (rgs_zu (rgs_fl (by omega)) (by omega)) jsp (skos_s (skos_0 (SK := SK)) hq16 hq17 (sko_s (by omega))) (by rw [zu_self]; omega) jspo (by omega) (by omega) (tyC_new jpm hsu (by omega) hq17 (by omega) gA_0 (zu_self _ _ _) (by omega) jdd (by omega)) (by omega) (by omega) fx.rf (by omega) (fun G28 o29 df230 dp231 fo232 st233 sk234 ns235 WK236 M237 SK238 SP239 hNa hNsp hNwk hNmk hNsk234 hq40 hq41 hq42 hq43 hq44 hq45 hq46 hq47 hq48 hq49 hq50 hq51 hq52 hq53 hfk => ?_)
    · have hq := hfk.get hq (by simp only [List.mem_cons, List.not_mem_nil, or_false]; omega)
      have hki := hfk.get hki (by simp only [List.mem_cons, List.not_mem_nil, or_false]; omega)
      have hne := hfk.get hne (by simp only [List.mem_cons, List.not_mem_nil, or_false]; omega)
      have hot := hfk.get hot (by simp only [List.mem_cons, List.not_mem_nil, or_false]; omega)
      have hra := hfk.get hra (by simp only [List.mem_cons, List.not_mem_nil, or_false]; omega)
      have hs := hfk.get hs (by decide)
      have hco := hfk.get hco (by decide)
      have hre := hfk.get hre (by decide)
      have hho := hfk.get hho (by decide)
      have hfr := hfr.tr hfk (by decide)
      have hq54 := hfk.1
      have ha := hNa
      have hsp := hNsp
      have hwk := hNwk
      have hmk := hNmk
      have hsk234 := hNsk234
      rw [hQ]; exact ⟨_, _, _, _, _, _, _, _, _, _, _, rfl, hfr, ha, hsp, hwk, hmk, hsk234, (by omega), (by omega), (by exact hq42), (by omega), (by omega), (by first | exact hq45 | exact rgs_w hq45 (by omega)), (by first | exact hq46 | exact rgs_w hq46 (by omega)), (by exact hq47), (by omega), (by exact hq49), (by omega), (by omega), (by exact hq52), (by omega)⟩
  · cases hv
    have hsp := hfk.get hsp (by decide)
    have hwk := hfk.get hwk (by decide)
    have hmk := hfk.get hmk (by decide)
    have hq := hfk.get hq (by simp only [List.mem_cons, List.not_mem_nil, or_false]; omega)
    have hki := hfk.get hki (by simp only [List.mem_cons, List.not_mem_nil, or_false]; omega)
    have hne := hfk.get hne (by simp only [List.mem_cons, List.not_mem_nil, or_false]; omega)
    have hot := hfk.get hot (by simp only [List.mem_cons, List.not_mem_nil, or_false]; omega)
    have hra := hfk.get hra (by simp only [List.mem_cons, List.not_mem_nil, or_false]; omega)
    have hs := hfk.get hs (by decide)
    have hco := hfk.get hco (by decide)
    have hre := hfk.get hre (by decide)
    have hho := hfk.get hho (by decide)
    have hfr := hfr.tr hfk (by decide)
    have hq26 := hfk.1
    have ha := hNa
    have hstk := hNstk
    change ab_W _ _ _ G10 44 [some (vR a), some (vz p), none, none, none, none, none] [] _
    exfalso; omega
set_option maxRecDepth 100000 in
set_option maxHeartbeats 4000000 in
theorem y_MK_find_26 {X : ab_X} {d : Nat} {Q : Outcome → ab_G → Prop} {o0 : Nat → Nat} {G0 : ab_G} {q : Nat} {lq : Nat} {ki : Nat} {ne : Nat} {ot : Nat} {cnt : Int} {fi : Int} {la : Int} {ra : Nat} {ru : Int} {gr : Int} {wi : Int} {sz : Int} {fl : Int} {ve : Int} {mi : Int} {na : Nat} {nl : Nat} {K : Int → Int} {N : Int → Int} {O : Int → Int} {RR : Int → Int} {nr : Nat} {s : Nat} {by_ : Nat} {co : Nat} {re : Nat} {ho : Nat} {n : Int} {f : Int → Int} {C : Int → Int} {Rs : Int → Int} {H : Int → Int} {m : Nat} {mc : Nat} {a : Nat} {sp : Nat} {wk : Nat} {mk : Nat} {w : Int} {fy : Int} {hw : Int} {nm : Nat} {la_ : Int} {ns0 : Nat} {v9 : Sn} {fr9 : Int} {st0 : Int} {U0 : Int} (cq : 100 ≤ lq ∧ 0 ≤ cnt ∧ cnt ≤ 808 ∧ ↑nr ≤ (100000 : Int)) (hp : prok K N O RR cnt ↑nr wi) (hr : ∀ k : Int, 0 ≤ k → k < ↑nr → 0 ≤ RR k ∧ RR k ≤ 1114111) (csu : 0 ≤ n ∧ n ≤ ↑m ∧ 32 ≤ m ∧ m ≤ 2000 ∧ mc = m + 1) (hsu : suok f C Rs H n) (cw : 1 ≤ w ∧ w ≤ 26 ∧ cnt ≤ 32 * w) (cm : (n + 1) * w ≤ ↑nm ∧ ↑nm ≤ (52026 : Int)) (cwi : 2 ≤ wi ∧ wi ≤ 20) (cfi : 0 ≤ fi ∧ fi < cnt) (cl : 0 ≤ la_ ∧ la_ ≤ n) (jpm : prM K N O RR fi v9) (cla : la_ = laR hw n fr9) (rc0 : G0.length + 5 ≤ ab_n0 + room_1.cells + stC ns0) (rs0 : ab_slots G0 + 1916393 ≤ room_1.slots + stT ns0) (hd : 8 ≤ d) : ∀ (mz : Nat) {G : ab_G} {o : Nat → Nat} {stk : Nat} {df : Int} {dp : Int} {fo : Int} {stp : Int} {SP : Int → Int} {WK : Int → Int} {M : Int → Int} {SK : Int → Int} {ns : Nat} {i : Int}, (cc o G a 44 (ab_ob 2 [vR sp, vR wk, vR mk, vz w, vz df, vR stk, vz dp, vz fo, vz fy, vz hw, vR q, vR s, vj stp])) → (cc o G sp 31 (za 20 SP)) → (cc o G wk 45 (za 20 WK)) → (cc o G mk 46 (za nm M)) → (cc o G stk 47 (za ns SK)) → (cc o G q lq (ab_ob 5 [vR ki, vR ne, vR ot, vz cnt, vz fi, vz la, vR ra, vz ru, vz gr, vz wi, vz sz, vz fl, vz ve, vz mi, vR na, vR nl])) → (cc o G ki (lq + 1) (za 808 K)) → (cc o G ne (lq + 2) (za 808 N)) → (cc o G ot (lq + 3) (za 808 O)) → (cc o G ra (lq + 4) (za nr RR)) → (cc o G s 26 (ab_ob 9 [vR by_, vR co, vR re, vR ho, vz n])) → (cc o G co 28 (za mc C)) → (cc o G re 29 (za mc Rs)) → (cc o G ho 30 (za mc H)) → (0 ≤ i ∧ i ≤ n + 1 ∧ fr9 ≤ i) → (flE K N O RR v9 f n hw fy wi fr9 i M w df fo SP) → (0 ≤ df ∧ df ≤ n + 1) → (stn ns) → (64 ≤ ns ∧ ns ≤ 1616809) → (0 ≤ fo ∧ fo ≤ 1 ∧ 0 ≤ fy ∧ fy ≤ 1 ∧ 0 ≤ hw ∧ hw ≤ 2) → (rgs SP 20 (-1) 2000) → (spo fo SP wi n) → (G.length + stC ns0 = G0.length + stC ns) → (ab_slots G + stT ns0 = ab_slots G0 + stT ns) → (st0 ≤ stp ∧ stp + 2 * ucn M w df n ≤ st0 + i + 2 * U0) → (fx o0 o [44, 45, 46, 47, 31] G0 G) → (Int.toNat (n + 1 - i) < mz) → (∀ (G2 : ab_G) (o2 : Nat → Nat) (df2 : Int) (dp2 : Int) (fo2 : Int) (st2 : Int) (sk2 : Nat) (ns2 : Nat) (WK2 : Int → Int) (M2 : Int → Int) (SK2 : Int → Int) (SP2 : Int → Int) (i2 : Int), (cc o2 G2 a 44 (ab_ob 2 [vR sp, vR wk, vR mk, vz w, vz df2, vR sk2, vz dp2, vz fo2, vz fy, vz hw, vR q, vR s, vj st2])) → (cc o2 G2 sp 31 (za 20 SP2)) → (cc o2 G2 wk 45 (za 20 WK2)) → (cc o2 G2 mk 46 (za nm M2)) → (cc o2 G2 sk2 47 (za ns2 SK2)) → (0 ≤ df2 ∧ df2 ≤ n + 1) → (stn ns2) → (64 ≤ ns2 ∧ ns2 ≤ 1616809) → (0 ≤ fo2 ∧ fo2 ≤ 1) → (rgs SP2 20 (-1) 2000) → (spo fo2 SP2 wi n) → (G2.length + stC ns0 = G0.length + stC ns2) → (ab_slots G2 + stT ns0 = ab_slots G0 + stT ns2) → (flE K N O RR v9 f n hw fy wi fr9 i2 M2 w df2 fo2 SP2) → (fo2 = 1 ∨ la_ < i2) → (st0 ≤ st2 ∧ st2 + 2 * ucn M2 w df2 n ≤ st0 + n + 1 + 2 * U0) → (fx o0 o2 [44, 45, 46, 47, 31] G0 G2) → ab_W X (ab_pl y_MK_find b_MK_find 4 (some (.int))) d G2 49 [some (vR a), none, none, none] [] Q) → ab_W X (ab_pl y_MK_find b_MK_find 4 (some (.int))) d G 26 [some (vR a), none, some (vz la_), some (vz i)] [] Q := by
  intro mz
  induction mz with
  | zero => intro G o stk df dp fo stp SP WK M SK ns i ha hsp hwk hmk hstk hq hki hne hot hra hs hco hre hho ct jfl cd hst hs2 cf jsp jspo hgl hgs hst9 hfr hm hk0; exact absurd hm (Nat.not_lt_zero _)
  | succ mz ih =>
    intro G o stk df dp fo stp SP WK M SK ns i ha hsp hwk hmk hstk hq hki hne hot hra hs hco hre hho ct jfl cd hst hs2 cf jsp jspo hgl hgs hst9 hfr hm hk0
    refine ab_iload_n d_MK_find_26 rfl ?_
    refine ab_iload_n d_MK_find_27 rfl ?_
    refine zz_icmp_gt (tgt := 49) d_MK_find_28 (by decide) (by omega) (by omega) (fun c1 => ?_) (fun c1 => ?_)
    · refine ab_less (L' := [some (vR a), none, none, none]) (fun i v h => by rcases i with _ | _ | _ | _ | i <;> first | exact h | (simp at h)) ?_
      exact hk0 _ _ _ _ _ _ _ _ _ _ _ _ i ha hsp hwk hmk hstk (by omega) (by exact hst) (by omega) (by omega) (by first | exact jsp | exact rgs_w jsp (by omega)) (by exact jspo) (by omega) (by omega) (by exact jfl) (by omega) (by omega) hfr
    · refine ab_aload_n d_MK_find_31 rfl ?_
      refine ab_getf (fs := [vR sp, vR wk, vR mk, vz w, vz df, vR stk, vz dp, vz fo, vz fy, vz hw, vR q, vR s, vj stp]) f_MK_70 d_MK_find_32 ha.2.2 rfl ?_
      refine zz_if_ne (tgt := 49) d_MK_find_35 (by decide) (by omega) (fun c2 => ?_) (fun c2 => ?_)
      · refine ab_less (L' := [some (vR a), none, none, none]) (fun i v h => by rcases i with _ | _ | _ | _ | i <;> first | exact h | (simp at h)) ?_
        exact hk0 _ _ _ _ _ _ _ _ _ _ _ _ i ha hsp hwk hmk hstk (by omega) (by exact hst) (by omega) (by omega) (by first | exact jsp | exact rgs_w jsp (by omega)) (by exact jspo) (by omega) (by omega) (by exact jfl) (by omega) (by omega) hfr
      · refine ab_aload_n d_MK_find_38 rfl ?_
        refine ab_iload_n d_MK_find_39 rfl ?_
        refine ab_callV (d' := d - 1) (as := [vz i]) (st := []) (r := _) (z_MK_tryFrom (o := o) (q := q) (lq := lq) (ki := ki) (ne := ne) (ot := ot) (cnt := cnt) (fi := fi) (la := la) (ra := ra) (ru := ru) (gr := gr) (wi := wi) (sz := sz) (fl := fl) (ve := ve) (mi := mi) (na := na) (nl := nl) (K := K) (N := N) (O := O) (RR := RR) (nr := nr) (s := s) (by_ := by_) (co := co) (re := re) (ho := ho) (n := n) (C := C) (Rs := Rs) (H := H) (mc := mc) (a := a) (sp := sp) (wk := wk) (mk := mk) (stk := stk) (w := w) (df := df) (dp := dp) (fo := fo) (fy := fy) (hw := hw) (stp := stp) (SP := SP) (WK := WK) (M := M) (SK := SK) (nm := nm) (ns := ns) (p := i) (v9 := v9) ha hsp hwk hmk hstk hq hki hne hot hra hs hco hre hho (by omega) hp hr (by omega) hsu (by omega) (by omega) (by omega) (by omega) (by omega) (by omega) hst (by omega) (by omega) jsp jspo (by omega) (by omega) (by omega) jpm (jfl.dd (by omega)) (by omega)) (fun oc G2 h => by rcases h with ⟨_, _, _, _, _, _, _, _, _, _, _, h, _⟩ <;> exact ⟨_, h⟩) (by omega) m_MK_tryFrom ml_MK_73 im_MK_tryFrom se_MK_tryFrom c_MK ha.2.2 (Nat.le_of_ble_eq_true rfl) d_MK_find_40 rfl ?_
        intro v G3 hq
        rcases hq with ⟨o4, df25, dp26, fo27, st28, sk29, ns210, WK211, M212, SK213, SP214, hv, hfk, hNa, hNsp, hNwk, hNmk, hNsk29, hq15, hq16, hq17, hq18, hq19, hq20, hq21, hq22, hq23, hq24, hq25, hq26, hq27, hq28⟩
        cases hv
        have hq := hfk.get hq (by simp only [List.mem_cons, List.not_mem_nil, or_false]; omega)
        have hki := hfk.get hki (by simp only [List.mem_cons, List.not_mem_nil, or_false]; omega)
        have hne := hfk.get hne (by simp only [List.mem_cons, List.not_mem_nil, or_false]; omega)
        have hot := hfk.get hot (by simp only [List.mem_cons, List.not_mem_nil, or_false]; omega)
        have hra := hfk.get hra (by simp only [List.mem_cons, List.not_mem_nil, or_false]; omega)
        have hs := hfk.get hs (by decide)
        have hco := hfk.get hco (by decide)
        have hre := hfk.get hre (by decide)
        have hho := hfk.get hho (by decide)
        have hfr := hfr.tr hfk (by decide)
        have hq29 := hfk.1
        have ha := hNa
        have hsp := hNsp
        have hwk := hNwk
        have hmk := hNmk
        have hsk29 := hNsk29
        change ab_W _ _ _ G3 43 [some (vR a), none, some (vz la_), some (vz i)] [] _
        refine zz_iinc d_MK_find_43 rfl (Nat.le_of_ble_eq_true rfl) (Nat.le_of_ble_eq_true rfl) rfl ?_
        change ab_W _ _ _ G3 46 [some (vR a), none, some (vz la_), some (vz (i + 1))] [] _
        refine ab_goto (tgt := 26) d_MK_find_46 (by decide) ?_
        exact ih (stk := sk29) (df := df25) (dp := dp26) (fo := fo27) (stp := st28) (SP := SP214) (WK := WK211) (M := M212) (SK := SK213) (ns := ns210) (i := (i + 1)) ha hsp hwk hmk hsk29 hq hki hne hot hra hs hco hre hho (by omega) (flE_s jfl (by omega) hq27 hsu (by omega) cla) (by omega) hq17 (by omega) (by omega) hq21 hq24 (by omega) (by omega) (by omega) hfr (by omega) hk0
set_option maxRecDepth 100000 in
set_option maxHeartbeats 4000000 in
theorem z_MK_find {X : ab_X} {d : Nat} {o : Nat → Nat} {G : ab_G} {q : Nat} {lq : Nat} {ki : Nat} {ne : Nat} {ot : Nat} {cnt : Int} {fi : Int} {la : Int} {ra : Nat} {ru : Int} {gr : Int} {wi : Int} {sz : Int} {fl : Int} {ve : Int} {mi : Int} {na : Nat} {nl : Nat} {K : Int → Int} {N : Int → Int} {O : Int → Int} {RR : Int → Int} {nr : Nat} {s : Nat} {by_ : Nat} {co : Nat} {re : Nat} {ho : Nat} {n : Int} {f : Int → Int} {C : Int → Int} {Rs : Int → Int} {H : Int → Int} {m : Nat} {mc : Nat} {a : Nat} {sp : Nat} {wk : Nat} {mk : Nat} {stk : Nat} {w : Int} {df : Int} {dp : Int} {fo : Int} {fy : Int} {hw : Int} {stp : Int} {SP : Int → Int} {WK : Int → Int} {M : Int → Int} {SK : Int → Int} {nm : Nat} {ns : Nat} {p : Int} {v9 : Sn} (ha : cc o G a 44 (ab_ob 2 [vR sp, vR wk, vR mk, vz w, vz df, vR stk, vz dp, vz fo, vz fy, vz hw, vR q, vR s, vj stp])) (hsp : cc o G sp 31 (za 20 SP)) (hwk : cc o G wk 45 (za 20 WK)) (hmk : cc o G mk 46 (za nm M)) (hstk : cc o G stk 47 (za ns SK)) (hq : cc o G q lq (ab_ob 5 [vR ki, vR ne, vR ot, vz cnt, vz fi, vz la, vR ra, vz ru, vz gr, vz wi, vz sz, vz fl, vz ve, vz mi, vR na, vR nl])) (hki : cc o G ki (lq + 1) (za 808 K)) (hne : cc o G ne (lq + 2) (za 808 N)) (hot : cc o G ot (lq + 3) (za 808 O)) (hra : cc o G ra (lq + 4) (za nr RR)) (hs : cc o G s 26 (ab_ob 9 [vR by_, vR co, vR re, vR ho, vz n])) (hco : cc o G co 28 (za mc C)) (hre : cc o G re 29 (za mc Rs)) (hho : cc o G ho 30 (za mc H)) (cq : 100 ≤ lq ∧ 0 ≤ cnt ∧ cnt ≤ 808 ∧ ↑nr ≤ (100000 : Int)) (hp : prok K N O RR cnt ↑nr wi) (hr : ∀ k : Int, 0 ≤ k → k < ↑nr → 0 ≤ RR k ∧ RR k ≤ 1114111) (csu : 0 ≤ n ∧ n ≤ ↑m ∧ 32 ≤ m ∧ m ≤ 2000 ∧ mc = m + 1) (hsu : suok f C Rs H n) (cw : 1 ≤ w ∧ w ≤ 26 ∧ cnt ≤ 32 * w) (cm : (n + 1) * w ≤ ↑nm ∧ ↑nm ≤ (52026 : Int)) (cwi : 2 ≤ wi ∧ wi ≤ 20) (cfi : 0 ≤ fi ∧ fi < cnt) (cp : 0 ≤ p ∧ p ≤ n) (cd : 0 ≤ df ∧ df ≤ n + 1) (hst : stn ns) (hs2 : 64 ≤ ns ∧ ns ≤ 1616809) (cf : 0 ≤ fo ∧ fo ≤ 1 ∧ 0 ≤ fy ∧ fy ≤ 1 ∧ 0 ≤ hw ∧ hw ≤ 2) (jsp : rgs SP 20 (-1) 2000) (rc : G.length + 5 ≤ ab_n0 + room_1.cells + stC ns) (rs : ab_slots G + 1916393 ≤ room_1.slots + stT ns) (jpm : prM K N O RR fi v9) (jdd : ddC K N O RR f n hw p M w df) (hd : 9 ≤ d) : ab_F X d y_MK_find (.code y_MK_find b_MK_find 4 (some (.int))) [vR a, vz p] G (fun oc G2 => (∃ o2 : Nat → Nat, ∃ df2 : Int, ∃ dp2 : Int, ∃ fo2 : Int, ∃ st2 : Int, ∃ sk2 : Nat, ∃ ns2 : Nat, ∃ WK2 : Int → Int, ∃ M2 : Int → Int, ∃ SK2 : Int → Int, ∃ SP2 : Int → Int, oc = .returned (some (vz (-1))) ∧ fx o o2 [44, 45, 46, 47, 31] G G2 ∧ cc o2 G2 a 44 (ab_ob 2 [vR sp, vR wk, vR mk, vz w, vz df2, vR sk2, vz dp2, vz fo2, vz fy, vz hw, vR q, vR s, vj st2]) ∧ cc o2 G2 sp 31 (za 20 SP2) ∧ cc o2 G2 wk 45 (za 20 WK2) ∧ cc o2 G2 mk 46 (za nm M2) ∧ cc o2 G2 sk2 47 (za ns2 SK2) ∧ (0 ≤ df2 ∧ df2 ≤ n + 1) ∧ (stn ns2) ∧ (64 ≤ ns2 ∧ ns2 ≤ 1616809) ∧ (rgs SP2 20 (-1) 2000) ∧ (G2.length + stC ns = G.length + stC ns2) ∧ (ab_slots G2 + stT ns = ab_slots G + stT ns2) ∧ (stp ≤ st2 ∧ st2 + 2 * ucn M2 w df2 n ≤ stp + n + 1665 + 2 * ucn M w df n) ∧ (fo2 = 0) ∧ (fdC v9 f n fy hw p wi fo2 SP2)) ∨ (∃ o2 : Nat → Nat, ∃ df2 : Int, ∃ dp2 : Int, ∃ fo2 : Int, ∃ st2 : Int, ∃ sk2 : Nat, ∃ ns2 : Nat, ∃ WK2 : Int → Int, ∃ M2 : Int → Int, ∃ SK2 : Int → Int, ∃ SP2 : Int → Int, ∃ r : Int, oc = .returned (some (vz r)) ∧ fx o o2 [44, 45, 46, 47, 31] G G2 ∧ cc o2 G2 a 44 (ab_ob 2 [vR sp, vR wk, vR mk, vz w, vz df2, vR sk2, vz dp2, vz fo2, vz fy, vz hw, vR q, vR s, vj st2]) ∧ cc o2 G2 sp 31 (za 20 SP2) ∧ cc o2 G2 wk 45 (za 20 WK2) ∧ cc o2 G2 mk 46 (za nm M2) ∧ cc o2 G2 sk2 47 (za ns2 SK2) ∧ (0 ≤ df2 ∧ df2 ≤ n + 1) ∧ (stn ns2) ∧ (64 ≤ ns2 ∧ ns2 ≤ 1616809) ∧ (rgs SP2 20 (-1) 2000) ∧ (G2.length + stC ns = G.length + stC ns2) ∧ (ab_slots G2 + stT ns = ab_slots G + stT ns2) ∧ (stp ≤ st2 ∧ st2 + 2 * ucn M2 w df2 n ≤ stp + n + 1665 + 2 * ucn M w df n) ∧ (fo2 = 1) ∧ (0 ≤ r ∧ r ≤ n) ∧ (r = SP2 1) ∧ (rgs SP2 wi (-1) n) ∧ (0 ≤ SP2 0) ∧ (fdC v9 f n fy hw p wi fo2 SP2) ∧ (ddC K N O RR f n hw r M2 w df2))) := by
  refine ab_F_of (by decide +kernel) (Nat.le_of_ble_eq_true rfl) ?_
  obtain ⟨Q, hQ⟩ : ∃ z : Outcome → ab_G → Prop, z = (fun oc G2 => (∃ o2 : Nat → Nat, ∃ df2 : Int, ∃ dp2 : Int, ∃ fo2 : Int, ∃ st2 : Int, ∃ sk2 : Nat, ∃ ns2 : Nat, ∃ WK2 : Int → Int, ∃ M2 : Int → Int, ∃ SK2 : Int → Int, ∃ SP2 : Int → Int, oc = .returned (some (vz (-1))) ∧ fx o o2 [44, 45, 46, 47, 31] G G2 ∧ cc o2 G2 a 44 (ab_ob 2 [vR sp, vR wk, vR mk, vz w, vz df2, vR sk2, vz dp2, vz fo2, vz fy, vz hw, vR q, vR s, vj st2]) ∧ cc o2 G2 sp 31 (za 20 SP2) ∧ cc o2 G2 wk 45 (za 20 WK2) ∧ cc o2 G2 mk 46 (za nm M2) ∧ cc o2 G2 sk2 47 (za ns2 SK2) ∧ (0 ≤ df2 ∧ df2 ≤ n + 1) ∧ (stn ns2) ∧ (64 ≤ ns2 ∧ ns2 ≤ 1616809) ∧ (rgs SP2 20 (-1) 2000) ∧ (G2.length + stC ns = G.length + stC ns2) ∧ (ab_slots G2 + stT ns = ab_slots G + stT ns2) ∧ (stp ≤ st2 ∧ st2 + 2 * ucn M2 w df2 n ≤ stp + n + 1665 + 2 * ucn M w df n) ∧ (fo2 = 0) ∧ (fdC v9 f n fy hw p wi fo2 SP2)) ∨ (∃ o2 : Nat → Nat, ∃ df2 : Int, ∃ dp2 : Int, ∃ fo2 : Int, ∃ st2 : Int, ∃ sk2 : Nat, ∃ ns2 : Nat, ∃ WK2 : Int → Int, ∃ M2 : Int → Int, ∃ SK2 : Int → Int, ∃ SP2 : Int → Int, ∃ r : Int, oc = .returned (some (vz r)) ∧ fx o o2 [44, 45, 46, 47, 31] G G2 ∧ cc o2 G2 a 44 (ab_ob 2 [vR sp, vR wk, vR mk, vz w, vz df2, vR sk2, vz dp2, vz fo2, vz fy, vz hw, vR q, vR s, vj st2]) ∧ cc o2 G2 sp 31 (za 20 SP2) ∧ cc o2 G2 wk 45 (za 20 WK2) ∧ cc o2 G2 mk 46 (za nm M2) ∧ cc o2 G2 sk2 47 (za ns2 SK2) ∧ (0 ≤ df2 ∧ df2 ≤ n + 1) ∧ (stn ns2) ∧ (64 ≤ ns2 ∧ ns2 ≤ 1616809) ∧ (rgs SP2 20 (-1) 2000) ∧ (G2.length + stC ns = G.length + stC ns2) ∧ (ab_slots G2 + stT ns = ab_slots G + stT ns2) ∧ (stp ≤ st2 ∧ st2 + 2 * ucn M2 w df2 n ≤ stp + n + 1665 + 2 * ucn M w df n) ∧ (fo2 = 1) ∧ (0 ≤ r ∧ r ≤ n) ∧ (r = SP2 1) ∧ (rgs SP2 wi (-1) n) ∧ (0 ≤ SP2 0) ∧ (fdC v9 f n fy hw p wi fo2 SP2) ∧ (ddC K N O RR f n hw r M2 w df2))) := ⟨_, rfl⟩
  rw [← hQ]
  change ab_W X (ab_pl y_MK_find b_MK_find 4 (some (.int))) d G 0 [some (vR a), some (vz p), none, none] [] Q
  have hfr : fx o o [44, 45, 46, 47, 31] G G := fx.rf
  refine ab_aload_n d_MK_find_0 rfl ?_
  refine zz_iconst d_MK_find_1 ?_
  refine ab_putf (fs := [vR sp, vR wk, vR mk, vz w, vz df, vR stk, vz dp, vz fo, vz fy, vz hw, vR q, vR s, vj stp]) f_MK_70 (Or.inl rfl) d_MK_find_2 ha.2.2 (Nat.le_of_ble_eq_true rfl) (ab_fbz (by decide)) (ha.2.1 (by decide)) ?_
  obtain ⟨G1, eG1⟩ : ∃ z : ab_G, z = List.set G a (ab_ob 2 [vR sp, vR wk, vR mk, vz w, vz df, vR stk, vz dp, vz 0, vz fy, vz hw, vR q, vR s, vj stp]) := ⟨_, rfl⟩
  have hsp := hsp.keep ha eG1 (by decide)
  have hwk := hwk.keep ha eG1 (by decide)
  have hmk := hmk.keep ha eG1 (by decide)
  have hstk := hstk.keep ha eG1 (by decide)
  have hq := hq.keep ha eG1 (by omega)
  have hki := hki.keep ha eG1 (by omega)
  have hne := hne.keep ha eG1 (by omega)
  have hot := hot.keep ha eG1 (by omega)
  have hra := hra.keep ha eG1 (by omega)
  have hs := hs.keep ha eG1 (by decide)
  have hco := hco.keep ha eG1 (by decide)
  have hre := hre.keep ha eG1 (by decide)
  have hho := hho.keep ha eG1 (by decide)
  have hq2 := z_len eG1
  have hq3 := z_sl ha eG1 rfl
  have hfr := hfr.wr ha eG1 (by decide)
  have ha := ha.kept eG1
  change ab_W _ _ _ (List.set G a (ab_ob 2 [vR sp, vR wk, vR mk, vz w, vz df, vR stk, vz dp, vz 0, vz fy, vz hw, vR q, vR s, vj stp])) 5 [some (vR a), some (vz p), none, none] [] _
  rw [← eG1]
  refine ab_aload_n d_MK_find_5 rfl ?_
  refine ab_getf (fs := [vR sp, vR wk, vR mk, vz w, vz df, vR stk, vz dp, vz 0, vz fy, vz hw, vR q, vR s, vj stp]) f_MK_32 d_MK_find_6 ha.2.2 rfl ?_
  refine zz_if_ne (tgt := 22) d_MK_find_9 (by decide) (by omega) (fun c4 => ?_) (fun c4 => ?_)
  · refine ab_iload_n d_MK_find_22 rfl ?_
    refine ab_istore_n d_MK_find_23 (Nat.le_of_ble_eq_true rfl) (Nat.le_of_ble_eq_true rfl) rfl ?_
    change ab_W _ _ _ G1 24 [some (vR a), some (vz p), some (vz p), none] [] _
    refine ab_iload_n d_MK_find_24 rfl ?_
    refine ab_istore_n d_MK_find_25 (Nat.le_of_ble_eq_true rfl) (Nat.le_of_ble_eq_true rfl) rfl ?_
    change ab_W _ _ _ G1 26 [some (vR a), some (vz p), some (vz p), some (vz p)] [] _
    refine ab_less (L' := [some (vR a), none, some (vz p), some (vz p)]) (fun i v h => by rcases i with _ | _ | _ | _ | i <;> first | exact h | (simp at h)) ?_
    refine y_MK_find_26 (q := q) (lq := lq) (ki := ki) (ne := ne) (ot := ot) (cnt := cnt) (fi := fi) (la := la) (ra := ra) (ru := ru) (gr := gr) (wi := wi) (sz := sz) (fl := fl) (ve := ve) (mi := mi) (na := na) (nl := nl) (K := K) (N := N) (O := O) (RR := RR) (nr := nr) (s := s) (by_ := by_) (co := co) (re := re) (ho := ho) (n := n) (C := C) (Rs := Rs) (H := H) (mc := mc) (a := a) (sp := sp) (wk := wk) (mk := mk) (w := w) (fy := fy) (hw := hw) (nm := nm) (la_ := p) (ns0 := ns) (v9 := v9) (fr9 := p) (st0 := stp) (U0 := (ucn M w df n)) (G0 := G1) (stk := stk) (df := df) (dp := dp) (fo := 0) (stp := stp) (SP := SP) (WK := WK) (M := M) (SK := SK) (ns := ns) (i := p) (by omega) hp hr (by omega) hsu (by omega) (by omega) (by omega) (by omega) (by omega) jpm (by first | exact laR_0 (by omega) | exact laR_1 (by omega)) (by omega) (by omega) (by omega) (Int.toNat (n + 1 - p) + 1) ha hsp hwk hmk hstk hq hki hne hot hra hs hco hre hho (by omega) (flE_0 jdd rfl) (by omega) hst (by omega) (by omega) jsp spo_0 (by omega) (by omega) (by omega) fx.rf (by omega) (fun G5 o6 df27 dp28 fo29 st210 sk211 ns212 WK213 M214 SK215 SP216 i217 hNa hNsp hNwk hNmk hNsk211 hq18 hq19 hq20 hq21 hq22 hq23 hq24 hq25 hq26 hq27 hq28 hfk => ?_)
    · have hq := hfk.get hq (by simp only [List.mem_cons, List.not_mem_nil, or_false]; omega)
      have hki := hfk.get hki (by simp only [List.mem_cons, List.not_mem_nil, or_false]; omega)
      have hne := hfk.get hne (by simp only [List.mem_cons, List.not_mem_nil, or_false]; omega)
      have hot := hfk.get hot (by simp only [List.mem_cons, List.not_mem_nil, or_false]; omega)
      have hra := hfk.get hra (by simp only [List.mem_cons, List.not_mem_nil, or_false]; omega)
      have hs := hfk.get hs (by decide)
      have hco := hfk.get hco (by decide)
      have hre := hfk.get hre (by decide)
      have hho := hfk.get hho (by decide)
      have hfr := hfr.tr hfk (by decide)
      have hq29 := hfk.1
      have ha := hNa
      have hsp := hNsp
      have hwk := hNwk
      have hmk := hNmk
      have hsk211 := hNsk211
      change ab_W _ _ _ G5 49 [some (vR a), none, none, none] [] _
      refine ab_aload_n d_MK_find_49 rfl ?_
      refine ab_getf (fs := [vR sp, vR wk, vR mk, vz w, vz df27, vR sk211, vz dp28, vz fo29, vz fy, vz hw, vR q, vR s, vj st210]) f_MK_70 d_MK_find_50 ha.2.2 rfl ?_
      refine zz_if_ne (tgt := 58) d_MK_find_53 (by decide) (by omega) (fun c30 => ?_) (fun c30 => ?_)
      · have jsq := hq23 (by omega)
        have js1 := jsq.1 1 (by omega) (by omega)
        have js2 := jsq.2.2
        refine ab_aload_n d_MK_find_58 rfl ?_
        refine ab_getf (fs := [vR sp, vR wk, vR mk, vz w, vz df27, vR sk211, vz dp28, vz fo29, vz fy, vz hw, vR q, vR s, vj st210]) f_MK_9 d_MK_find_59 ha.2.2 rfl ?_
        refine zz_iconst d_MK_find_62 ?_
        refine zz_iald d_MK_find_63 hsp (by omega) ?_
        refine ab_istore_n d_MK_find_64 (Nat.le_of_ble_eq_true rfl) (Nat.le_of_ble_eq_true rfl) rfl ?_
        change ab_W _ _ _ G5 65 [some (vR a), none, none, some (vz (SP216 1))] [] _
        refine ab_iload_n d_MK_find_65 rfl ?_
        refine ab_aload_n d_MK_find_66 rfl ?_
        refine ab_getf (fs := [vR sp, vR wk, vR mk, vz w, vz df27, vR sk211, vz dp28, vz fo29, vz fy, vz hw, vR q, vR s, vj st210]) f_MK_52 d_MK_find_67 ha.2.2 rfl ?_
        refine zz_icmp_ge (tgt := 95) d_MK_find_70 (by decide) (by omega) (by omega) (fun c31 => ?_) (fun c31 => ?_)
        · refine ab_iload_n d_MK_find_95 rfl ?_
          refine zz_iret rfl d_MK_find_96 ?_
          rw [hQ]; exact (Or.inr ⟨_, _, _, _, _, _, _, _, _, _, _, _, rfl, hfr, ha, hsp, hwk, hmk, hsk211, (by omega), (by exact hq19), (by omega), (by first | exact hq22 | exact rgs_w hq22 (by omega)), (by omega), (by omega), (by omega), (by omega), (by omega), (by rfl), (by exact jsq.1), (by exact jsq.2.1), (by exact (hq26.yes (by omega)).2), (by exact ddC_0 (by omega))⟩)
        · refine ab_aload_n d_MK_find_73 rfl ?_
          refine ab_getf (fs := [vR sp, vR wk, vR mk, vz w, vz df27, vR sk211, vz dp28, vz fo29, vz fy, vz hw, vR q, vR s, vj st210]) f_MK_18 d_MK_find_74 ha.2.2 rfl ?_
          refine ab_iload_n d_MK_find_77 rfl ?_
          refine ab_aload_n d_MK_find_78 rfl ?_
          refine ab_getf (fs := [vR sp, vR wk, vR mk, vz w, vz df27, vR sk211, vz dp28, vz fo29, vz fy, vz hw, vR q, vR s, vj st210]) f_MK_49 d_MK_find_79 ha.2.2 rfl ?_
          refine zz_imul d_MK_find_82 ?_
          obtain ⟨v32, hv32⟩ : ∃ z : Int, z = (SP216 1) * w := ⟨_, rfl⟩
          rw [← hv32]
          have hv32b := z_mulb (a := (SP216 1)) (b := w) (A := 2000) (B := 26) (by omega) (by omega)
          rw [← hv32] at hv32b
          change ab_W _ _ _ G5 83 [some (vR a), none, none, some (vz (SP216 1))] [vz v32, vR mk] _
          have jpw : ((SP216 1) + 1) * w = (SP216 1) * w + w := by rw [Int.add_mul, Int.one_mul]
          have jpn : ((SP216 1) + 1) * w ≤ (n + 1) * w := Int.mul_le_mul_of_nonneg_right (by omega) (by omega)
          refine ab_iload_n d_MK_find_83 rfl ?_
          refine zz_iconst d_MK_find_84 ?_
          refine zz_iadd d_MK_find_85 ?_
          refine ab_aload_n d_MK_find_86 rfl ?_
          refine ab_getf (fs := [vR sp, vR wk, vR mk, vz w, vz df27, vR sk211, vz dp28, vz fo29, vz fy, vz hw, vR q, vR s, vj st210]) f_MK_49 d_MK_find_87 ha.2.2 rfl ?_
          refine zz_imul d_MK_find_90 ?_
          obtain ⟨v33, hv33⟩ : ∃ z : Int, z = ((SP216 1) + 1) * w := ⟨_, rfl⟩
          rw [← hv33]
          have hv33b := z_mulb (a := ((SP216 1) + 1)) (b := w) (A := 2001) (B := 26) (by omega) (by omega)
          rw [← hv33] at hv33b
          change ab_W _ _ _ G5 91 [some (vR a), none, none, some (vz (SP216 1))] [vz v33, vz v32, vR mk] _
          refine zz_iconst d_MK_find_91 ?_
          refine ab_callS (d' := d - 1) (as := [vR mk, vz v32, vz v33, vz 0]) (st := []) (z_AR_fillr (o := o6) (a := mk) (l := 46) (n := nm) (f := M214) (v := 0) (x := v32) (y := v33) hmk (by have h18 : ab_n0 = 18 := rfl; omega) (by omega)) (fun oc G2 h => by rcases h with ⟨h, _⟩ <;> exact ⟨_, h⟩) (by omega) m_AR_fillr ml_MK_77 st_AR_fillr (Nat.le_of_ble_eq_true rfl) d_MK_find_92 rfl ?_
          intro v G34 hq
          rcases hq with ⟨hv, hfk, hlk, hsk, hNmk⟩
          cases hv
          have ha := hfk.get ha (by decide)
          have hsp := hfk.get hsp (by decide)
          have hwk := hfk.get hwk (by decide)
          have hq := hfk.get hq (by simp only [List.mem_cons, List.not_mem_nil, or_false]; omega)
          have hki := hfk.get hki (by simp only [List.mem_cons, List.not_mem_nil, or_false]; omega)
          have hne := hfk.get hne (by simp only [List.mem_cons, List.not_mem_nil, or_false]; omega)
          have hot := hfk.get hot (by simp only [List.mem_cons, List.not_mem_nil, or_false]; omega)
          have hra := hfk.get hra (by simp only [List.mem_cons, List.not_mem_nil, or_false]; omega)
          have hs := hfk.get hs (by decide)
          have hco := hfk.get hco (by decide)
          have hre := hfk.get hre (by decide)
          have hho := hfk.get hho (by decide)
          have hsk211 := hfk.get hsk211 (by decide)
          have hfr := hfr.tr hfk (by decide)
          have hq35 := hlk
          have hq36 := hsk
          have hmk := hNmk
          change ab_W _ _ _ G34 95 [some (vR a), none, none, some (vz (SP216 1))] [] _
          refine ab_iload_n d_MK_find_95 rfl ?_
          refine zz_iret rfl d_MK_find_96 ?_
          rw [hQ]; exact (Or.inr ⟨_, _, _, _, _, _, _, _, _, _, _, _, rfl, hfr, ha, hsp, hwk, hmk, hsk211, (by omega), (by exact hq19), (by omega), (by first | exact hq22 | exact rgs_w hq22 (by omega)), (by omega), (by omega), (by have hfl_ := ucn_fill (M := M214) (w := w) (df := df27) (n := n) (r := (SP216 1)) (a := v32) (b := v33) (by omega) (by omega) (by exact hv32) (by exact hv33); omega), (by omega), (by omega), (by rfl), (by exact jsq.1), (by exact jsq.2.1), (by exact (hq26.yes (by omega)).2), (by exact ddC.fill ((hq26.yes (by omega)).1) (by omega) (by omega) hv32 hv33)⟩)
      · refine zz_iconst d_MK_find_56 ?_
        refine zz_iret rfl d_MK_find_57 ?_
        rw [hQ]; exact (Or.inl ⟨_, _, _, _, _, _, _, _, _, _, _, rfl, hfr, ha, hsp, hwk, hmk, hsk211, (by omega), (by exact hq19), (by omega), (by first | exact hq22 | exact rgs_w hq22 (by omega)), (by omega), (by omega), (by omega), (by omega), (by exact hq26.no (la := p) (by omega) (by omega) (laR_1 (by omega)))⟩)
  · refine ab_aload_n d_MK_find_12 rfl ?_
    refine ab_getf (fs := [vR sp, vR wk, vR mk, vz w, vz df, vR stk, vz dp, vz 0, vz fy, vz hw, vR q, vR s, vj stp]) f_MK_28 d_MK_find_13 ha.2.2 rfl ?_
    refine ab_getf (fs := [vR by_, vR co, vR re, vR ho, vz n]) f_MK_55 d_MK_find_16 hs.2.2 rfl ?_
    refine ab_goto (tgt := 23) d_MK_find_19 (by decide) ?_
    refine ab_istore_n d_MK_find_23 (Nat.le_of_ble_eq_true rfl) (Nat.le_of_ble_eq_true rfl) rfl ?_
    change ab_W _ _ _ G1 24 [some (vR a), some (vz p), some (vz n), none] [] _
    refine ab_iload_n d_MK_find_24 rfl ?_
    refine ab_istore_n d_MK_find_25 (Nat.le_of_ble_eq_true rfl) (Nat.le_of_ble_eq_true rfl) rfl ?_
    change ab_W _ _ _ G1 26 [some (vR a), some (vz p), some (vz n), some (vz p)] [] _
    refine ab_less (L' := [some (vR a), none, some (vz n), some (vz p)]) (fun i v h => by rcases i with _ | _ | _ | _ | i <;> first | exact h | (simp at h)) ?_
    refine y_MK_find_26 (q := q) (lq := lq) (ki := ki) (ne := ne) (ot := ot) (cnt := cnt) (fi := fi) (la := la) (ra := ra) (ru := ru) (gr := gr) (wi := wi) (sz := sz) (fl := fl) (ve := ve) (mi := mi) (na := na) (nl := nl) (K := K) (N := N) (O := O) (RR := RR) (nr := nr) (s := s) (by_ := by_) (co := co) (re := re) (ho := ho) (n := n) (C := C) (Rs := Rs) (H := H) (mc := mc) (a := a) (sp := sp) (wk := wk) (mk := mk) (w := w) (fy := fy) (hw := hw) (nm := nm) (la_ := n) (ns0 := ns) (v9 := v9) (fr9 := p) (st0 := stp) (U0 := (ucn M w df n)) (G0 := G1) (stk := stk) (df := df) (dp := dp) (fo := 0) (stp := stp) (SP := SP) (WK := WK) (M := M) (SK := SK) (ns := ns) (i := p) (by omega) hp hr (by omega) hsu (by omega) (by omega) (by omega) (by omega) (by omega) jpm (by first | exact laR_0 (by omega) | exact laR_1 (by omega)) (by omega) (by omega) (by omega) (Int.toNat (n + 1 - p) + 1) ha hsp hwk hmk hstk hq hki hne hot hra hs hco hre hho (by omega) (flE_0 jdd rfl) (by omega) hst (by omega) (by omega) jsp spo_0 (by omega) (by omega) (by omega) fx.rf (by omega) (fun G37 o38 df239 dp240 fo241 st242 sk243 ns244 WK245 M246 SK247 SP248 i249 hNa hNsp hNwk hNmk hNsk243 hq50 hq51 hq52 hq53 hq54 hq55 hq56 hq57 hq58 hq59 hq60 hfk => ?_)
    · have hq := hfk.get hq (by simp only [List.mem_cons, List.not_mem_nil, or_false]; omega)
      have hki := hfk.get hki (by simp only [List.mem_cons, List.not_mem_nil, or_false]; omega)
      have hne := hfk.get hne (by simp only [List.mem_cons, List.not_mem_nil, or_false]; omega)
      have hot := hfk.get hot (by simp only [List.mem_cons, List.not_mem_nil, or_false]; omega)
      have hra := hfk.get hra (by simp only [List.mem_cons, List.not_mem_nil, or_false]; omega)
      have hs := hfk.get hs (by decide)
      have hco := hfk.get hco (by decide)
      have hre := hfk.get hre (by decide)
      have hho := hfk.get hho (by decide)
      have hfr := hfr.tr hfk (by decide)
      have hq61 := hfk.1
      have ha := hNa
      have hsp := hNsp
      have hwk := hNwk
      have hmk := hNmk
      have hsk243 := hNsk243
      change ab_W _ _ _ G37 49 [some (vR a), none, none, none] [] _
      refine ab_aload_n d_MK_find_49 rfl ?_
      refine ab_getf (fs := [vR sp, vR wk, vR mk, vz w, vz df239, vR sk243, vz dp240, vz fo241, vz fy, vz hw, vR q, vR s, vj st242]) f_MK_70 d_MK_find_50 ha.2.2 rfl ?_
      refine zz_if_ne (tgt := 58) d_MK_find_53 (by decide) (by omega) (fun c62 => ?_) (fun c62 => ?_)
      · have jsq := hq55 (by omega)
        have js1 := jsq.1 1 (by omega) (by omega)
        have js2 := jsq.2.2
        refine ab_aload_n d_MK_find_58 rfl ?_
        refine ab_getf (fs := [vR sp, vR wk, vR mk, vz w, vz df239, vR sk243, vz dp240, vz fo241, vz fy, vz hw, vR q, vR s, vj st242]) f_MK_9 d_MK_find_59 ha.2.2 rfl ?_
        refine zz_iconst d_MK_find_62 ?_
        refine zz_iald d_MK_find_63 hsp (by omega) ?_
        refine ab_istore_n d_MK_find_64 (Nat.le_of_ble_eq_true rfl) (Nat.le_of_ble_eq_true rfl) rfl ?_
        change ab_W _ _ _ G37 65 [some (vR a), none, none, some (vz (SP248 1))] [] _
        refine ab_iload_n d_MK_find_65 rfl ?_
        refine ab_aload_n d_MK_find_66 rfl ?_
        refine ab_getf (fs := [vR sp, vR wk, vR mk, vz w, vz df239, vR sk243, vz dp240, vz fo241, vz fy, vz hw, vR q, vR s, vj st242]) f_MK_52 d_MK_find_67 ha.2.2 rfl ?_
        refine zz_icmp_ge (tgt := 95) d_MK_find_70 (by decide) (by omega) (by omega) (fun c63 => ?_) (fun c63 => ?_)
        · refine ab_iload_n d_MK_find_95 rfl ?_
          refine zz_iret rfl d_MK_find_96 ?_
          rw [hQ]; exact (Or.inr ⟨_, _, _, _, _, _, _, _, _, _, _, _, rfl, hfr, ha, hsp, hwk, hmk, hsk243, (by omega), (by exact hq51), (by omega), (by first | exact hq54 | exact rgs_w hq54 (by omega)), (by omega), (by omega), (by omega), (by omega), (by omega), (by rfl), (by exact jsq.1), (by exact jsq.2.1), (by exact (hq58.yes (by omega)).2), (by exact ddC_0 (by omega))⟩)
        · refine ab_aload_n d_MK_find_73 rfl ?_
          refine ab_getf (fs := [vR sp, vR wk, vR mk, vz w, vz df239, vR sk243, vz dp240, vz fo241, vz fy, vz hw, vR q, vR s, vj st242]) f_MK_18 d_MK_find_74 ha.2.2 rfl ?_
          refine ab_iload_n d_MK_find_77 rfl ?_
          refine ab_aload_n d_MK_find_78 rfl ?_
          refine ab_getf (fs := [vR sp, vR wk, vR mk, vz w, vz df239, vR sk243, vz dp240, vz fo241, vz fy, vz hw, vR q, vR s, vj st242]) f_MK_49 d_MK_find_79 ha.2.2 rfl ?_
          refine zz_imul d_MK_find_82 ?_
          obtain ⟨v64, hv64⟩ : ∃ z : Int, z = (SP248 1) * w := ⟨_, rfl⟩
          rw [← hv64]
          have hv64b := z_mulb (a := (SP248 1)) (b := w) (A := 2000) (B := 26) (by omega) (by omega)
          rw [← hv64] at hv64b
          change ab_W _ _ _ G37 83 [some (vR a), none, none, some (vz (SP248 1))] [vz v64, vR mk] _
          have jpw : ((SP248 1) + 1) * w = (SP248 1) * w + w := by rw [Int.add_mul, Int.one_mul]
          have jpn : ((SP248 1) + 1) * w ≤ (n + 1) * w := Int.mul_le_mul_of_nonneg_right (by omega) (by omega)
          refine ab_iload_n d_MK_find_83 rfl ?_
          refine zz_iconst d_MK_find_84 ?_
          refine zz_iadd d_MK_find_85 ?_
          refine ab_aload_n d_MK_find_86 rfl ?_
          refine ab_getf (fs := [vR sp, vR wk, vR mk, vz w, vz df239, vR sk243, vz dp240, vz fo241, vz fy, vz hw, vR q, vR s, vj st242]) f_MK_49 d_MK_find_87 ha.2.2 rfl ?_
          refine zz_imul d_MK_find_90 ?_
          obtain ⟨v65, hv65⟩ : ∃ z : Int, z = ((SP248 1) + 1) * w := ⟨_, rfl⟩
          rw [← hv65]
          have hv65b := z_mulb (a := ((SP248 1) + 1)) (b := w) (A := 2001) (B := 26) (by omega) (by omega)
          rw [← hv65] at hv65b
          change ab_W _ _ _ G37 91 [some (vR a), none, none, some (vz (SP248 1))] [vz v65, vz v64, vR mk] _
          refine zz_iconst d_MK_find_91 ?_
          refine ab_callS (d' := d - 1) (as := [vR mk, vz v64, vz v65, vz 0]) (st := []) (z_AR_fillr (o := o38) (a := mk) (l := 46) (n := nm) (f := M246) (v := 0) (x := v64) (y := v65) hmk (by have h18 : ab_n0 = 18 := rfl; omega) (by omega)) (fun oc G2 h => by rcases h with ⟨h, _⟩ <;> exact ⟨_, h⟩) (by omega) m_AR_fillr ml_MK_77 st_AR_fillr (Nat.le_of_ble_eq_true rfl) d_MK_find_92 rfl ?_
          intro v G66 hq
          rcases hq with ⟨hv, hfk, hlk, hsk, hNmk⟩
          cases hv
          have ha := hfk.get ha (by decide)
          have hsp := hfk.get hsp (by decide)
          have hwk := hfk.get hwk (by decide)
          have hq := hfk.get hq (by simp only [List.mem_cons, List.not_mem_nil, or_false]; omega)
          have hki := hfk.get hki (by simp only [List.mem_cons, List.not_mem_nil, or_false]; omega)
          have hne := hfk.get hne (by simp only [List.mem_cons, List.not_mem_nil, or_false]; omega)
          have hot := hfk.get hot (by simp only [List.mem_cons, List.not_mem_nil, or_false]; omega)
          have hra := hfk.get hra (by simp only [List.mem_cons, List.not_mem_nil, or_false]; omega)
          have hs := hfk.get hs (by decide)
          have hco := hfk.get hco (by decide)
          have hre := hfk.get hre (by decide)
          have hho := hfk.get hho (by decide)
          have hsk243 := hfk.get hsk243 (by decide)
          have hfr := hfr.tr hfk (by decide)
          have hq67 := hlk
          have hq68 := hsk
          have hmk := hNmk
          change ab_W _ _ _ G66 95 [some (vR a), none, none, some (vz (SP248 1))] [] _
          refine ab_iload_n d_MK_find_95 rfl ?_
          refine zz_iret rfl d_MK_find_96 ?_
          rw [hQ]; exact (Or.inr ⟨_, _, _, _, _, _, _, _, _, _, _, _, rfl, hfr, ha, hsp, hwk, hmk, hsk243, (by omega), (by exact hq51), (by omega), (by first | exact hq54 | exact rgs_w hq54 (by omega)), (by omega), (by omega), (by have hfl_ := ucn_fill (M := M246) (w := w) (df := df239) (n := n) (r := (SP248 1)) (a := v64) (b := v65) (by omega) (by omega) (by exact hv64) (by exact hv65); omega), (by omega), (by omega), (by rfl), (by exact jsq.1), (by exact jsq.2.1), (by exact (hq58.yes (by omega)).2), (by exact ddC.fill ((hq58.yes (by omega)).1) (by omega) (by omega) hv64 hv65)⟩)
      · refine zz_iconst d_MK_find_56 ?_
        refine zz_iret rfl d_MK_find_57 ?_
        rw [hQ]; exact (Or.inl ⟨_, _, _, _, _, _, _, _, _, _, _, rfl, hfr, ha, hsp, hwk, hmk, hsk243, (by omega), (by exact hq51), (by omega), (by first | exact hq54 | exact rgs_w hq54 (by omega)), (by omega), (by omega), (by omega), (by omega), (by exact hq58.no (la := n) (by omega) (by omega) (laR_0 (by omega)))⟩)
set_option maxRecDepth 100000 in
set_option maxHeartbeats 4000000 in
theorem z_MK_begin {X : ab_X} {d : Nat} {o : Nat → Nat} {G : ab_G} {q : Nat} {lq : Nat} {ki : Nat} {ne : Nat} {ot : Nat} {cnt : Int} {fi : Int} {la : Int} {ra : Nat} {ru : Int} {gr : Int} {wi : Int} {sz : Int} {fl : Int} {ve : Int} {mi : Int} {na : Nat} {nl : Nat} {s : Nat} {by_ : Nat} {co : Nat} {re : Nat} {ho : Nat} {n : Int} {m : Nat} {mc : Nat} {a : Nat} {sp : Nat} {wk : Nat} {mk : Nat} {stk : Nat} {dp : Int} {fo : Int} {hw : Int} {stp : Int} {M : Int → Int} {nm : Nat} {q0 : Value} {s0 : Value} {sp0 : Value} {from_ : Int} {hw0 : Int} {fy0 : Int} {w0 : Int} {df0 : Int} (ha : cc o G a 44 (ab_ob 2 [sp0, vR wk, vR mk, vz w0, vz df0, vR stk, vz dp, vz fo, vz fy0, vz hw0, q0, s0, vj stp])) (hmk : cc o G mk 46 (za nm M)) (hq : cc o G q lq (ab_ob 5 [vR ki, vR ne, vR ot, vz cnt, vz fi, vz la, vR ra, vz ru, vz gr, vz wi, vz sz, vz fl, vz ve, vz mi, vR na, vR nl])) (hs : cc o G s 26 (ab_ob 9 [vR by_, vR co, vR re, vR ho, vz n])) (cq : 100 ≤ lq ∧ 1 ≤ cnt ∧ cnt ≤ 808) (csu : 0 ≤ n ∧ n ≤ ↑m ∧ 32 ≤ m ∧ m ≤ 2000 ∧ mc = m + 1) (cf : 0 ≤ hw ∧ hw ≤ 2 ∧ 0 ≤ fl ∧ fl ≤ 31 ∧ 0 ≤ from_ ∧ from_ ≤ n) (cn : 64 ≤ nm ∧ nm ≤ 52026) (rc : G.length + 1 ≤ ab_n0 + room_1.cells) (rs : ab_slots G + 52026 ≤ room_1.slots) (hd : 2 ≤ d) : ab_F X d y_MK_begin (.code y_MK_begin b_MK_begin 7 none) [vR a, vR q, vR s, vz hw, vz from_, vR sp] G (fun oc G2 => ∃ o2 : Nat → Nat, ∃ w2 : Int, ∃ fy2 : Int, ∃ mk2 : Nat, ∃ nm2 : Nat, ∃ M2 : Int → Int, oc = .returned none ∧ fx o o2 [44, 46] G G2 ∧ cc o2 G2 a 44 (ab_ob 2 [vR sp, vR wk, vR mk2, vz w2, vz from_, vR stk, vz dp, vz fo, vz fy2, vz hw, vR q, vR s, vj stp]) ∧ cc o2 G2 mk2 46 (za nm2 M2) ∧ (1 ≤ w2 ∧ w2 ≤ 26 ∧ cnt ≤ 32 * w2) ∧ ((n + 1) * w2 ≤ ↑nm2 ∧ ↑nm2 ≤ (52026 : Int)) ∧ (64 ≤ nm2) ∧ (0 ≤ fy2 ∧ fy2 ≤ 1) ∧ (fst hw fl fy2) ∧ (G2.length + nm ≤ G.length + nm2) ∧ (ab_slots G2 + zT nm 52026 ≤ ab_slots G + zT nm2 52026)) := by
  refine ab_F_of (by decide +kernel) (Nat.le_of_ble_eq_true rfl) ?_
  obtain ⟨Q, hQ⟩ : ∃ z : Outcome → ab_G → Prop, z = (fun oc G2 => ∃ o2 : Nat → Nat, ∃ w2 : Int, ∃ fy2 : Int, ∃ mk2 : Nat, ∃ nm2 : Nat, ∃ M2 : Int → Int, oc = .returned none ∧ fx o o2 [44, 46] G G2 ∧ cc o2 G2 a 44 (ab_ob 2 [vR sp, vR wk, vR mk2, vz w2, vz from_, vR stk, vz dp, vz fo, vz fy2, vz hw, vR q, vR s, vj stp]) ∧ cc o2 G2 mk2 46 (za nm2 M2) ∧ (1 ≤ w2 ∧ w2 ≤ 26 ∧ cnt ≤ 32 * w2) ∧ ((n + 1) * w2 ≤ ↑nm2 ∧ ↑nm2 ≤ (52026 : Int)) ∧ (64 ≤ nm2) ∧ (0 ≤ fy2 ∧ fy2 ≤ 1) ∧ (fst hw fl fy2) ∧ (G2.length + nm ≤ G.length + nm2) ∧ (ab_slots G2 + zT nm 52026 ≤ ab_slots G + zT nm2 52026)) := ⟨_, rfl⟩
  rw [← hQ]
  change ab_W X (ab_pl y_MK_begin b_MK_begin 7 none) d G 0 [some (vR a), some (vR q), some (vR s), some (vz hw), some (vz from_), some (vR sp), none] [] Q
  have hfr : fx o o [44, 46] G G := fx.rf
  refine ab_aload_n d_MK_begin_0 rfl ?_
  refine ab_aload_n d_MK_begin_1 rfl ?_
  refine ab_putf (fs := [sp0, vR wk, vR mk, vz w0, vz df0, vR stk, vz dp, vz fo, vz fy0, vz hw0, q0, s0, vj stp]) f_MK_24 (Or.inl rfl) d_MK_begin_2 ha.2.2 (Nat.le_of_ble_eq_true rfl) (fun _ => ⟨rfl, rfl⟩) (ha.2.1 (by decide)) ?_
  obtain ⟨G1, eG1⟩ : ∃ z : ab_G, z = List.set G a (ab_ob 2 [sp0, vR wk, vR mk, vz w0, vz df0, vR stk, vz dp, vz fo, vz fy0, vz hw0, vR q, s0, vj stp]) := ⟨_, rfl⟩
  have hmk := hmk.keep ha eG1 (by decide)
  have hq := hq.keep ha eG1 (by omega)
  have hs := hs.keep ha eG1 (by decide)
  have hq2 := z_len eG1
  have hq3 := z_sl ha eG1 rfl
  have hfr := hfr.wr ha eG1 (by decide)
  have ha := ha.kept eG1
  change ab_W _ _ _ (List.set G a (ab_ob 2 [sp0, vR wk, vR mk, vz w0, vz df0, vR stk, vz dp, vz fo, vz fy0, vz hw0, vR q, s0, vj stp])) 5 [some (vR a), some (vR q), some (vR s), some (vz hw), some (vz from_), some (vR sp), none] [] _
  rw [← eG1]
  refine ab_aload_n d_MK_begin_5 rfl ?_
  refine ab_aload_n d_MK_begin_6 rfl ?_
  refine ab_putf (fs := [sp0, vR wk, vR mk, vz w0, vz df0, vR stk, vz dp, vz fo, vz fy0, vz hw0, vR q, s0, vj stp]) f_MK_28 (Or.inl rfl) d_MK_begin_7 ha.2.2 (Nat.le_of_ble_eq_true rfl) (fun _ => ⟨rfl, rfl⟩) (ha.2.1 (by decide)) ?_
  obtain ⟨G4, eG4⟩ : ∃ z : ab_G, z = List.set G1 a (ab_ob 2 [sp0, vR wk, vR mk, vz w0, vz df0, vR stk, vz dp, vz fo, vz fy0, vz hw0, vR q, vR s, vj stp]) := ⟨_, rfl⟩
  have hmk := hmk.keep ha eG4 (by decide)
  have hq := hq.keep ha eG4 (by omega)
  have hs := hs.keep ha eG4 (by decide)
  have hq5 := z_len eG4
  have hq6 := z_sl ha eG4 rfl
  have hfr := hfr.wr ha eG4 (by decide)
  have ha := ha.kept eG4
  change ab_W _ _ _ (List.set G1 a (ab_ob 2 [sp0, vR wk, vR mk, vz w0, vz df0, vR stk, vz dp, vz fo, vz fy0, vz hw0, vR q, vR s, vj stp])) 10 [some (vR a), some (vR q), some (vR s), some (vz hw), some (vz from_), some (vR sp), none] [] _
  rw [← eG4]
  refine ab_aload_n d_MK_begin_10 rfl ?_
  refine ab_iload_n d_MK_begin_11 rfl ?_
  refine ab_putf (fs := [sp0, vR wk, vR mk, vz w0, vz df0, vR stk, vz dp, vz fo, vz fy0, vz hw0, vR q, vR s, vj stp]) f_MK_32 (Or.inl rfl) d_MK_begin_12 ha.2.2 (Nat.le_of_ble_eq_true rfl) (fun _ => ⟨rfl, rfl⟩) (ha.2.1 (by decide)) ?_
  obtain ⟨G7, eG7⟩ : ∃ z : ab_G, z = List.set G4 a (ab_ob 2 [sp0, vR wk, vR mk, vz w0, vz df0, vR stk, vz dp, vz fo, vz fy0, vz hw, vR q, vR s, vj stp]) := ⟨_, rfl⟩
  have hmk := hmk.keep ha eG7 (by decide)
  have hq := hq.keep ha eG7 (by omega)
  have hs := hs.keep ha eG7 (by decide)
  have hq8 := z_len eG7
  have hq9 := z_sl ha eG7 rfl
  have hfr := hfr.wr ha eG7 (by decide)
  have ha := ha.kept eG7
  change ab_W _ _ _ (List.set G4 a (ab_ob 2 [sp0, vR wk, vR mk, vz w0, vz df0, vR stk, vz dp, vz fo, vz fy0, vz hw, vR q, vR s, vj stp])) 15 [some (vR a), some (vR q), some (vR s), some (vz hw), some (vz from_), some (vR sp), none] [] _
  rw [← eG7]
  refine ab_aload_n d_MK_begin_15 rfl ?_
  refine ab_aload d_MK_begin_16 rfl ?_
  refine ab_putf (fs := [sp0, vR wk, vR mk, vz w0, vz df0, vR stk, vz dp, vz fo, vz fy0, vz hw, vR q, vR s, vj stp]) f_MK_9 (Or.inl rfl) d_MK_begin_18 ha.2.2 (Nat.le_of_ble_eq_true rfl) (fun _ => ⟨rfl, rfl⟩) (ha.2.1 (by decide)) ?_
  obtain ⟨G10, eG10⟩ : ∃ z : ab_G, z = List.set G7 a (ab_ob 2 [vR sp, vR wk, vR mk, vz w0, vz df0, vR stk, vz dp, vz fo, vz fy0, vz hw, vR q, vR s, vj stp]) := ⟨_, rfl⟩
  have hmk := hmk.keep ha eG10 (by decide)
  have hq := hq.keep ha eG10 (by omega)
  have hs := hs.keep ha eG10 (by decide)
  have hq11 := z_len eG10
  have hq12 := z_sl ha eG10 rfl
  have hfr := hfr.wr ha eG10 (by decide)
  have ha := ha.kept eG10
  change ab_W _ _ _ (List.set G7 a (ab_ob 2 [vR sp, vR wk, vR mk, vz w0, vz df0, vR stk, vz dp, vz fo, vz fy0, vz hw, vR q, vR s, vj stp])) 21 [some (vR a), some (vR q), some (vR s), some (vz hw), some (vz from_), some (vR sp), none] [] _
  rw [← eG10]
  refine ab_aload_n d_MK_begin_21 rfl ?_
  refine ab_iload_n d_MK_begin_22 rfl ?_
  refine zz_iconst d_MK_begin_23 ?_
  refine zz_icmp_eq (tgt := 36) d_MK_begin_24 (by decide) (by omega) (by decide) (fun c13 => ?_) (fun c13 => ?_)
  · refine zz_iconst d_MK_begin_36 ?_
    refine ab_goto (tgt := 41) d_MK_begin_37 (by decide) ?_
    refine ab_putf (fs := [vR sp, vR wk, vR mk, vz w0, vz df0, vR stk, vz dp, vz fo, vz fy0, vz hw, vR q, vR s, vj stp]) f_MK_42 (Or.inl rfl) d_MK_begin_41 ha.2.2 (Nat.le_of_ble_eq_true rfl) (ab_fbz (by decide)) (ha.2.1 (by decide)) ?_
    obtain ⟨G14, eG14⟩ : ∃ z : ab_G, z = List.set G10 a (ab_ob 2 [vR sp, vR wk, vR mk, vz w0, vz df0, vR stk, vz dp, vz fo, vz 1, vz hw, vR q, vR s, vj stp]) := ⟨_, rfl⟩
    have hmk := hmk.keep ha eG14 (by decide)
    have hq := hq.keep ha eG14 (by omega)
    have hs := hs.keep ha eG14 (by decide)
    have hq15 := z_len eG14
    have hq16 := z_sl ha eG14 rfl
    have hfr := hfr.wr ha eG14 (by decide)
    have ha := ha.kept eG14
    change ab_W _ _ _ (List.set G10 a (ab_ob 2 [vR sp, vR wk, vR mk, vz w0, vz df0, vR stk, vz dp, vz fo, vz 1, vz hw, vR q, vR s, vj stp])) 44 [some (vR a), some (vR q), some (vR s), some (vz hw), some (vz from_), some (vR sp), none] [] _
    rw [← eG14]
    refine ab_aload_n d_MK_begin_44 rfl ?_
    refine ab_aload_n d_MK_begin_45 rfl ?_
    refine ab_getf (fs := [vR ki, vR ne, vR ot, vz cnt, vz fi, vz la, vR ra, vz ru, vz gr, vz wi, vz sz, vz fl, vz ve, vz mi, vR na, vR nl]) f_MK_46 d_MK_begin_46 hq.2.2 rfl ?_
    refine zz_bipush d_MK_begin_49 (by decide) ?_
    refine zz_iadd d_MK_begin_51 ?_
    refine zz_iconst d_MK_begin_52 ?_
    refine zz_ishr 5 32 d_MK_begin_53 (by decide) (by decide) (by decide) (by decide) (by omega) ?_
    refine ab_putf (fs := [vR sp, vR wk, vR mk, vz w0, vz df0, vR stk, vz dp, vz fo, vz 1, vz hw, vR q, vR s, vj stp]) f_MK_49 (Or.inl rfl) d_MK_begin_54 ha.2.2 (Nat.le_of_ble_eq_true rfl) (fun _ => ⟨rfl, rfl⟩) (ha.2.1 (by decide)) ?_
    obtain ⟨G17, eG17⟩ : ∃ z : ab_G, z = List.set G14 a (ab_ob 2 [vR sp, vR wk, vR mk, vz ((cnt + 31) / 32), vz df0, vR stk, vz dp, vz fo, vz 1, vz hw, vR q, vR s, vj stp]) := ⟨_, rfl⟩
    have hmk := hmk.keep ha eG17 (by decide)
    have hq := hq.keep ha eG17 (by omega)
    have hs := hs.keep ha eG17 (by decide)
    have hq18 := z_len eG17
    have hq19 := z_sl ha eG17 rfl
    have hfr := hfr.wr ha eG17 (by decide)
    have ha := ha.kept eG17
    change ab_W _ _ _ (List.set G14 a (ab_ob 2 [vR sp, vR wk, vR mk, vz ((cnt + 31) / 32), vz df0, vR stk, vz dp, vz fo, vz 1, vz hw, vR q, vR s, vj stp])) 57 [some (vR a), some (vR q), some (vR s), some (vz hw), some (vz from_), some (vR sp), none] [] _
    rw [← eG17]
    refine ab_aload_n d_MK_begin_57 rfl ?_
    refine ab_iload d_MK_begin_58 rfl ?_
    refine ab_putf (fs := [vR sp, vR wk, vR mk, vz ((cnt + 31) / 32), vz df0, vR stk, vz dp, vz fo, vz 1, vz hw, vR q, vR s, vj stp]) f_MK_52 (Or.inl rfl) d_MK_begin_60 ha.2.2 (Nat.le_of_ble_eq_true rfl) (fun _ => ⟨rfl, rfl⟩) (ha.2.1 (by decide)) ?_
    obtain ⟨G20, eG20⟩ : ∃ z : ab_G, z = List.set G17 a (ab_ob 2 [vR sp, vR wk, vR mk, vz ((cnt + 31) / 32), vz from_, vR stk, vz dp, vz fo, vz 1, vz hw, vR q, vR s, vj stp]) := ⟨_, rfl⟩
    have hmk := hmk.keep ha eG20 (by decide)
    have hq := hq.keep ha eG20 (by omega)
    have hs := hs.keep ha eG20 (by decide)
    have hq21 := z_len eG20
    have hq22 := z_sl ha eG20 rfl
    have hfr := hfr.wr ha eG20 (by decide)
    have ha := ha.kept eG20
    change ab_W _ _ _ (List.set G17 a (ab_ob 2 [vR sp, vR wk, vR mk, vz ((cnt + 31) / 32), vz from_, vR stk, vz dp, vz fo, vz 1, vz hw, vR q, vR s, vj stp])) 63 [some (vR a), some (vR q), some (vR s), some (vz hw), some (vz from_), some (vR sp), none] [] _
    rw [← eG20]
    refine ab_aload_n d_MK_begin_63 rfl ?_
    refine ab_getf (fs := [vR by_, vR co, vR re, vR ho, vz n]) f_MK_55 d_MK_begin_64 hs.2.2 rfl ?_
    refine zz_iconst d_MK_begin_67 ?_
    refine zz_iadd d_MK_begin_68 ?_
    refine ab_aload_n d_MK_begin_69 rfl ?_
    refine ab_getf (fs := [vR sp, vR wk, vR mk, vz ((cnt + 31) / 32), vz from_, vR stk, vz dp, vz fo, vz 1, vz hw, vR q, vR s, vj stp]) f_MK_49 d_MK_begin_70 ha.2.2 rfl ?_
    refine zz_imul d_MK_begin_73 ?_
    obtain ⟨v23, hv23⟩ : ∃ z : Int, z = (n + 1) * ((cnt + 31) / 32) := ⟨_, rfl⟩
    rw [← hv23]
    have hv23b := z_mulb (a := (n + 1)) (b := ((cnt + 31) / 32)) (A := 2001) (B := 26) (by omega) (by omega)
    rw [← hv23] at hv23b
    change ab_W _ _ _ G20 74 [some (vR a), some (vR q), some (vR s), some (vz hw), some (vz from_), some (vR sp), none] [vz v23] _
    refine ab_istore d_MK_begin_74 (Nat.le_of_ble_eq_true rfl) (Nat.le_of_ble_eq_true rfl) rfl ?_
    change ab_W _ _ _ G20 76 [some (vR a), some (vR q), some (vR s), some (vz hw), some (vz from_), some (vR sp), some (vz v23)] [] _
    refine ab_iload d_MK_begin_76 rfl ?_
    refine ab_aload_n d_MK_begin_78 rfl ?_
    refine ab_getf (fs := [vR sp, vR wk, vR mk, vz ((cnt + 31) / 32), vz from_, vR stk, vz dp, vz fo, vz 1, vz hw, vR q, vR s, vj stp]) f_MK_18 d_MK_begin_79 ha.2.2 rfl ?_
    refine zz_alen d_MK_begin_82 hmk ?_
    refine zz_icmp_le (tgt := 109) d_MK_begin_83 (by decide) (by omega) (by omega) (fun c24 => ?_) (fun c24 => ?_)
    · refine ab_vret rfl d_MK_begin_109 ?_
      rw [hQ]; exact ⟨_, _, _, _, _, _, rfl, hfr, ha, hmk, (by omega), (by omega), (by omega), (by omega), (by unfold fst; omega), (by omega), (by unfold zT; (repeat' split) <;> omega)⟩
    · refine ab_aload_n d_MK_begin_86 rfl ?_
      refine ab_iload d_MK_begin_87 rfl ?_
      refine zz_ldc 52026 d_MK_begin_89 cn_MK_60 (by decide) ?_
      refine zz_iconst d_MK_begin_91 ?_
      refine ab_aload_n d_MK_begin_92 rfl ?_
      refine ab_getf (fs := [vR sp, vR wk, vR mk, vz ((cnt + 31) / 32), vz from_, vR stk, vz dp, vz fo, vz 1, vz hw, vR q, vR s, vj stp]) f_MK_18 d_MK_begin_93 ha.2.2 rfl ?_
      refine zz_alen d_MK_begin_96 hmk ?_
      refine zz_imul d_MK_begin_97 ?_
      refine zz_mmin2 mj_MK_61 d_MK_begin_98 (by decide) (by omega) (Nat.le_of_ble_eq_true rfl) (by omega) (fun c25 => ?_) (fun c25 => ?_)
      · refine zz_mmax2 mj_MK_67 d_MK_begin_101 (by omega) (by decide) (Nat.le_of_ble_eq_true rfl) (by omega) (fun c26 => ?_) (fun c26 => absurd c26 (by omega))
        refine zz_newI (w := 52026) a_int d_MK_begin_104 (by decide) (by omega) (by omega) (by omega) ?_
        obtain ⟨G27, eG27⟩ : ∃ z : ab_G, z = G20 ++ [za 52026 (fun _ => 0)] := ⟨_, rfl⟩
        obtain ⟨o28, eo28⟩ : ∃ z : Nat → Nat, z = ol o G20.length 46 := ⟨_, rfl⟩
        obtain ⟨a29, ea29⟩ : ∃ z : Nat, z = G20.length := ⟨_, rfl⟩
        have hq30 := hs.n0 (by first | decide | omega)
        have ne_a29_a : nq a29 a := by have hlt := ha.lt; unfold nq; omega
        have ne_a29_mk : nq a29 mk := by have hlt := hmk.lt; unfold nq; omega
        have ne_a29_q : nq a29 q := by have hlt := hq.lt; unfold nq; omega
        have ne_a29_s : nq a29 s := by have hlt := hs.lt; unfold nq; omega
        have ha := ha.akeep (k := 46) eG27
        rw [← eo28] at ha
        have hmk := hmk.akeep (k := 46) eG27
        rw [← eo28] at hmk
        have hq := hq.akeep (k := 46) eG27
        rw [← eo28] at hq
        have hs := hs.akeep (k := 46) eG27
        rw [← eo28] at hs
        have ha29 := cc.anew (o := o) 46 eG27 hq30
        rw [← eo28, ← ea29] at ha29
        have hfr := hfr.ap (k := 46) eG27
        rw [← eo28] at hfr
        have hq31 := z_alen eG27
        have hq32 : ab_slots G27 = ab_slots G20 + 52026 := z_asl eG27 hq30
        change ab_W _ _ _ (G20 ++ [za 52026 (fun _ => 0)]) 106 [some (vR a), some (vR q), some (vR s), some (vz hw), some (vz from_), some (vR sp), some (vz v23)] [.ref G20.length, vR a] _
        rw [← eG27, ← ea29]
        change ab_W _ _ _ G27 106 [some (vR a), some (vR q), some (vR s), some (vz hw), some (vz from_), some (vR sp), some (vz v23)] [vR a29, vR a] _
        refine ab_putf (fs := [vR sp, vR wk, vR mk, vz ((cnt + 31) / 32), vz from_, vR stk, vz dp, vz fo, vz 1, vz hw, vR q, vR s, vj stp]) f_MK_18 (Or.inl rfl) d_MK_begin_106 ha.2.2 (Nat.le_of_ble_eq_true rfl) (fun _ => ⟨rfl, rfl⟩) (ha.2.1 (by decide)) ?_
        obtain ⟨G33, eG33⟩ : ∃ z : ab_G, z = List.set G27 a (ab_ob 2 [vR sp, vR wk, vR a29, vz ((cnt + 31) / 32), vz from_, vR stk, vz dp, vz fo, vz 1, vz hw, vR q, vR s, vj stp]) := ⟨_, rfl⟩
        have hmk := hmk.keep ha eG33 (by decide)
        have hq := hq.keep ha eG33 (by omega)
        have hs := hs.keep ha eG33 (by decide)
        have ha29 := ha29.keep ha eG33 (by decide)
        have hq34 := z_len eG33
        have hq35 := z_sl ha eG33 rfl
        have hfr := hfr.wr ha eG33 (by decide)
        have ha := ha.kept eG33
        change ab_W _ _ _ (List.set G27 a (ab_ob 2 [vR sp, vR wk, vR a29, vz ((cnt + 31) / 32), vz from_, vR stk, vz dp, vz fo, vz 1, vz hw, vR q, vR s, vj stp])) 109 [some (vR a), some (vR q), some (vR s), some (vz hw), some (vz from_), some (vR sp), some (vz v23)] [] _
        rw [← eG33]
        refine ab_vret rfl d_MK_begin_109 ?_
        rw [hQ]; exact ⟨_, _, _, _, _, _, rfl, hfr, ha, ha29, (by omega), (by omega), (by omega), (by omega), (by unfold fst; omega), (by omega), (by unfold zT; (repeat' split) <;> omega)⟩
      · refine zz_mmax2 mj_MK_67 d_MK_begin_101 (by omega) (by omega) (Nat.le_of_ble_eq_true rfl) (by omega) (fun c36 => ?_) (fun c36 => ?_)
        · obtain ⟨w37, hw37⟩ : ∃ z : Nat, (z : Int) = (2 * (↑nm : Int)) := ⟨Int.toNat (2 * (↑nm : Int)), by omega⟩
          refine zz_newI (w := w37) a_int d_MK_begin_104 (by omega) (by omega) (by omega) (by omega) ?_
          obtain ⟨G38, eG38⟩ : ∃ z : ab_G, z = G20 ++ [za w37 (fun _ => 0)] := ⟨_, rfl⟩
          obtain ⟨o39, eo39⟩ : ∃ z : Nat → Nat, z = ol o G20.length 46 := ⟨_, rfl⟩
          obtain ⟨a40, ea40⟩ : ∃ z : Nat, z = G20.length := ⟨_, rfl⟩
          have hq41 := hs.n0 (by first | decide | omega)
          have ne_a40_a : nq a40 a := by have hlt := ha.lt; unfold nq; omega
          have ne_a40_mk : nq a40 mk := by have hlt := hmk.lt; unfold nq; omega
          have ne_a40_q : nq a40 q := by have hlt := hq.lt; unfold nq; omega
          have ne_a40_s : nq a40 s := by have hlt := hs.lt; unfold nq; omega
          have ha := ha.akeep (k := 46) eG38
          rw [← eo39] at ha
          have hmk := hmk.akeep (k := 46) eG38
          rw [← eo39] at hmk
          have hq := hq.akeep (k := 46) eG38
          rw [← eo39] at hq
          have hs := hs.akeep (k := 46) eG38
          rw [← eo39] at hs
          have ha40 := cc.anew (o := o) 46 eG38 hq41
          rw [← eo39, ← ea40] at ha40
          have hfr := hfr.ap (k := 46) eG38
          rw [← eo39] at hfr
          have hq42 := z_alen eG38
          have hq43 : ab_slots G38 = ab_slots G20 + w37 := z_asl eG38 hq41
          change ab_W _ _ _ (G20 ++ [za w37 (fun _ => 0)]) 106 [some (vR a), some (vR q), some (vR s), some (vz hw), some (vz from_), some (vR sp), some (vz v23)] [.ref G20.length, vR a] _
          rw [← eG38, ← ea40]
          change ab_W _ _ _ G38 106 [some (vR a), some (vR q), some (vR s), some (vz hw), some (vz from_), some (vR sp), some (vz v23)] [vR a40, vR a] _
          refine ab_putf (fs := [vR sp, vR wk, vR mk, vz ((cnt + 31) / 32), vz from_, vR stk, vz dp, vz fo, vz 1, vz hw, vR q, vR s, vj stp]) f_MK_18 (Or.inl rfl) d_MK_begin_106 ha.2.2 (Nat.le_of_ble_eq_true rfl) (fun _ => ⟨rfl, rfl⟩) (ha.2.1 (by decide)) ?_
          obtain ⟨G44, eG44⟩ : ∃ z : ab_G, z = List.set G38 a (ab_ob 2 [vR sp, vR wk, vR a40, vz ((cnt + 31) / 32), vz from_, vR stk, vz dp, vz fo, vz 1, vz hw, vR q, vR s, vj stp]) := ⟨_, rfl⟩
          have hmk := hmk.keep ha eG44 (by decide)
          have hq := hq.keep ha eG44 (by omega)
          have hs := hs.keep ha eG44 (by decide)
          have ha40 := ha40.keep ha eG44 (by decide)
          have hq45 := z_len eG44
          have hq46 := z_sl ha eG44 rfl
          have hfr := hfr.wr ha eG44 (by decide)
          have ha := ha.kept eG44
          change ab_W _ _ _ (List.set G38 a (ab_ob 2 [vR sp, vR wk, vR a40, vz ((cnt + 31) / 32), vz from_, vR stk, vz dp, vz fo, vz 1, vz hw, vR q, vR s, vj stp])) 109 [some (vR a), some (vR q), some (vR s), some (vz hw), some (vz from_), some (vR sp), some (vz v23)] [] _
          rw [← eG44]
          refine ab_vret rfl d_MK_begin_109 ?_
          rw [hQ]; exact ⟨_, _, _, _, _, _, rfl, hfr, ha, ha40, (by omega), (by omega), (by omega), (by omega), (by unfold fst; omega), (by omega), (by unfold zT; (repeat' split) <;> omega)⟩
        · obtain ⟨w47, hw47⟩ : ∃ z : Nat, (z : Int) = v23 := ⟨Int.toNat v23, by omega⟩
          refine zz_newI (w := w47) a_int d_MK_begin_104 (by omega) (by omega) (by omega) (by omega) ?_
          obtain ⟨G48, eG48⟩ : ∃ z : ab_G, z = G20 ++ [za w47 (fun _ => 0)] := ⟨_, rfl⟩
          obtain ⟨o49, eo49⟩ : ∃ z : Nat → Nat, z = ol o G20.length 46 := ⟨_, rfl⟩
          obtain ⟨a50, ea50⟩ : ∃ z : Nat, z = G20.length := ⟨_, rfl⟩
          have hq51 := hs.n0 (by first | decide | omega)
          have ne_a50_a : nq a50 a := by have hlt := ha.lt; unfold nq; omega
          have ne_a50_mk : nq a50 mk := by have hlt := hmk.lt; unfold nq; omega
          have ne_a50_q : nq a50 q := by have hlt := hq.lt; unfold nq; omega
          have ne_a50_s : nq a50 s := by have hlt := hs.lt; unfold nq; omega
          have ha := ha.akeep (k := 46) eG48
          rw [← eo49] at ha
          have hmk := hmk.akeep (k := 46) eG48
          rw [← eo49] at hmk
          have hq := hq.akeep (k := 46) eG48
          rw [← eo49] at hq
          have hs := hs.akeep (k := 46) eG48
          rw [← eo49] at hs
          have ha50 := cc.anew (o := o) 46 eG48 hq51
          rw [← eo49, ← ea50] at ha50
          have hfr := hfr.ap (k := 46) eG48
          rw [← eo49] at hfr
          have hq52 := z_alen eG48
          have hq53 : ab_slots G48 = ab_slots G20 + w47 := z_asl eG48 hq51
          change ab_W _ _ _ (G20 ++ [za w47 (fun _ => 0)]) 106 [some (vR a), some (vR q), some (vR s), some (vz hw), some (vz from_), some (vR sp), some (vz v23)] [.ref G20.length, vR a] _
          rw [← eG48, ← ea50]
          change ab_W _ _ _ G48 106 [some (vR a), some (vR q), some (vR s), some (vz hw), some (vz from_), some (vR sp), some (vz v23)] [vR a50, vR a] _
          refine ab_putf (fs := [vR sp, vR wk, vR mk, vz ((cnt + 31) / 32), vz from_, vR stk, vz dp, vz fo, vz 1, vz hw, vR q, vR s, vj stp]) f_MK_18 (Or.inl rfl) d_MK_begin_106 ha.2.2 (Nat.le_of_ble_eq_true rfl) (fun _ => ⟨rfl, rfl⟩) (ha.2.1 (by decide)) ?_
          obtain ⟨G54, eG54⟩ : ∃ z : ab_G, z = List.set G48 a (ab_ob 2 [vR sp, vR wk, vR a50, vz ((cnt + 31) / 32), vz from_, vR stk, vz dp, vz fo, vz 1, vz hw, vR q, vR s, vj stp]) := ⟨_, rfl⟩
          have hmk := hmk.keep ha eG54 (by decide)
          have hq := hq.keep ha eG54 (by omega)
          have hs := hs.keep ha eG54 (by decide)
          have ha50 := ha50.keep ha eG54 (by decide)
          have hq55 := z_len eG54
          have hq56 := z_sl ha eG54 rfl
          have hfr := hfr.wr ha eG54 (by decide)
          have ha := ha.kept eG54
          change ab_W _ _ _ (List.set G48 a (ab_ob 2 [vR sp, vR wk, vR a50, vz ((cnt + 31) / 32), vz from_, vR stk, vz dp, vz fo, vz 1, vz hw, vR q, vR s, vj stp])) 109 [some (vR a), some (vR q), some (vR s), some (vz hw), some (vz from_), some (vR sp), some (vz v23)] [] _
          rw [← eG54]
          refine ab_vret rfl d_MK_begin_109 ?_
          rw [hQ]; exact ⟨_, _, _, _, _, _, rfl, hfr, ha, ha50, (by omega), (by omega), (by omega), (by omega), (by unfold fst; omega), (by omega), (by unfold zT; (repeat' split) <;> omega)⟩
  · refine ab_aload_n d_MK_begin_27 rfl ?_
    refine zz_bipush d_MK_begin_28 (by decide) ?_
    refine ab_callV (d' := d - 1) (as := [vz 16]) (st := [vR a]) (r := _) (z_PR_isOn (o := o) (q := q) (lq := lq) (ki := ki) (ne := ne) (ot := ot) (cnt := cnt) (fi := fi) (la := la) (ra := ra) (ru := ru) (gr := gr) (wi := wi) (sz := sz) (fl := fl) (ve := ve) (mi := mi) (na := na) (nl := nl) hq (by omega)) (fun oc G2 h => by rcases h with ⟨h, _⟩ | ⟨h, _⟩ <;> exact ⟨_, h⟩) (by omega) m_PR_isOn ml_MK_36 im_PR_isOn se_PR_isOn c_PR hq.2.2 (Nat.le_of_ble_eq_true rfl) d_MK_begin_30 rfl ?_
    intro v G57 hq
    rcases hq with ⟨hv, hGe, hq58⟩ | ⟨hv, hGe, hq59⟩
    · cases hv
      rw [hGe]
      change ab_W _ _ _ G10 33 [some (vR a), some (vR q), some (vR s), some (vz hw), some (vz from_), some (vR sp), none] [vz 1, vR a] _
      refine zz_if_ne (tgt := 40) d_MK_begin_33 (by decide) (by decide) (fun c60 => ?_) (fun c60 => absurd c60 (by decide))
      refine zz_iconst d_MK_begin_40 ?_
      refine ab_putf (fs := [vR sp, vR wk, vR mk, vz w0, vz df0, vR stk, vz dp, vz fo, vz fy0, vz hw, vR q, vR s, vj stp]) f_MK_42 (Or.inl rfl) d_MK_begin_41 ha.2.2 (Nat.le_of_ble_eq_true rfl) (ab_fbz (by decide)) (ha.2.1 (by decide)) ?_
      obtain ⟨G61, eG61⟩ : ∃ z : ab_G, z = List.set G10 a (ab_ob 2 [vR sp, vR wk, vR mk, vz w0, vz df0, vR stk, vz dp, vz fo, vz 0, vz hw, vR q, vR s, vj stp]) := ⟨_, rfl⟩
      have hmk := hmk.keep ha eG61 (by decide)
      have hq := hq.keep ha eG61 (by omega)
      have hs := hs.keep ha eG61 (by decide)
      have hq62 := z_len eG61
      have hq63 := z_sl ha eG61 rfl
      have hfr := hfr.wr ha eG61 (by decide)
      have ha := ha.kept eG61
      change ab_W _ _ _ (List.set G10 a (ab_ob 2 [vR sp, vR wk, vR mk, vz w0, vz df0, vR stk, vz dp, vz fo, vz 0, vz hw, vR q, vR s, vj stp])) 44 [some (vR a), some (vR q), some (vR s), some (vz hw), some (vz from_), some (vR sp), none] [] _
      rw [← eG61]
      refine ab_aload_n d_MK_begin_44 rfl ?_
      refine ab_aload_n d_MK_begin_45 rfl ?_
      refine ab_getf (fs := [vR ki, vR ne, vR ot, vz cnt, vz fi, vz la, vR ra, vz ru, vz gr, vz wi, vz sz, vz fl, vz ve, vz mi, vR na, vR nl]) f_MK_46 d_MK_begin_46 hq.2.2 rfl ?_
      refine zz_bipush d_MK_begin_49 (by decide) ?_
      refine zz_iadd d_MK_begin_51 ?_
      refine zz_iconst d_MK_begin_52 ?_
      refine zz_ishr 5 32 d_MK_begin_53 (by decide) (by decide) (by decide) (by decide) (by omega) ?_
      refine ab_putf (fs := [vR sp, vR wk, vR mk, vz w0, vz df0, vR stk, vz dp, vz fo, vz 0, vz hw, vR q, vR s, vj stp]) f_MK_49 (Or.inl rfl) d_MK_begin_54 ha.2.2 (Nat.le_of_ble_eq_true rfl) (fun _ => ⟨rfl, rfl⟩) (ha.2.1 (by decide)) ?_
      obtain ⟨G64, eG64⟩ : ∃ z : ab_G, z = List.set G61 a (ab_ob 2 [vR sp, vR wk, vR mk, vz ((cnt + 31) / 32), vz df0, vR stk, vz dp, vz fo, vz 0, vz hw, vR q, vR s, vj stp]) := ⟨_, rfl⟩
      have hmk := hmk.keep ha eG64 (by decide)
      have hq := hq.keep ha eG64 (by omega)
      have hs := hs.keep ha eG64 (by decide)
      have hq65 := z_len eG64
      have hq66 := z_sl ha eG64 rfl
      have hfr := hfr.wr ha eG64 (by decide)
      have ha := ha.kept eG64
      change ab_W _ _ _ (List.set G61 a (ab_ob 2 [vR sp, vR wk, vR mk, vz ((cnt + 31) / 32), vz df0, vR stk, vz dp, vz fo, vz 0, vz hw, vR q, vR s, vj stp])) 57 [some (vR a), some (vR q), some (vR s), some (vz hw), some (vz from_), some (vR sp), none] [] _
      rw [← eG64]
      refine ab_aload_n d_MK_begin_57 rfl ?_
      refine ab_iload d_MK_begin_58 rfl ?_
      refine ab_putf (fs := [vR sp, vR wk, vR mk, vz ((cnt + 31) / 32), vz df0, vR stk, vz dp, vz fo, vz 0, vz hw, vR q, vR s, vj stp]) f_MK_52 (Or.inl rfl) d_MK_begin_60 ha.2.2 (Nat.le_of_ble_eq_true rfl) (fun _ => ⟨rfl, rfl⟩) (ha.2.1 (by decide)) ?_
      obtain ⟨G67, eG67⟩ : ∃ z : ab_G, z = List.set G64 a (ab_ob 2 [vR sp, vR wk, vR mk, vz ((cnt + 31) / 32), vz from_, vR stk, vz dp, vz fo, vz 0, vz hw, vR q, vR s, vj stp]) := ⟨_, rfl⟩
      have hmk := hmk.keep ha eG67 (by decide)
      have hq := hq.keep ha eG67 (by omega)
      have hs := hs.keep ha eG67 (by decide)
      have hq68 := z_len eG67
      have hq69 := z_sl ha eG67 rfl
      have hfr := hfr.wr ha eG67 (by decide)
      have ha := ha.kept eG67
      change ab_W _ _ _ (List.set G64 a (ab_ob 2 [vR sp, vR wk, vR mk, vz ((cnt + 31) / 32), vz from_, vR stk, vz dp, vz fo, vz 0, vz hw, vR q, vR s, vj stp])) 63 [some (vR a), some (vR q), some (vR s), some (vz hw), some (vz from_), some (vR sp), none] [] _
      rw [← eG67]
      refine ab_aload_n d_MK_begin_63 rfl ?_
      refine ab_getf (fs := [vR by_, vR co, vR re, vR ho, vz n]) f_MK_55 d_MK_begin_64 hs.2.2 rfl ?_
      refine zz_iconst d_MK_begin_67 ?_
      refine zz_iadd d_MK_begin_68 ?_
      refine ab_aload_n d_MK_begin_69 rfl ?_
      refine ab_getf (fs := [vR sp, vR wk, vR mk, vz ((cnt + 31) / 32), vz from_, vR stk, vz dp, vz fo, vz 0, vz hw, vR q, vR s, vj stp]) f_MK_49 d_MK_begin_70 ha.2.2 rfl ?_
      refine zz_imul d_MK_begin_73 ?_
      obtain ⟨v70, hv70⟩ : ∃ z : Int, z = (n + 1) * ((cnt + 31) / 32) := ⟨_, rfl⟩
      rw [← hv70]
      have hv70b := z_mulb (a := (n + 1)) (b := ((cnt + 31) / 32)) (A := 2001) (B := 26) (by omega) (by omega)
      rw [← hv70] at hv70b
      change ab_W _ _ _ G67 74 [some (vR a), some (vR q), some (vR s), some (vz hw), some (vz from_), some (vR sp), none] [vz v70] _
      refine ab_istore d_MK_begin_74 (Nat.le_of_ble_eq_true rfl) (Nat.le_of_ble_eq_true rfl) rfl ?_
      change ab_W _ _ _ G67 76 [some (vR a), some (vR q), some (vR s), some (vz hw), some (vz from_), some (vR sp), some (vz v70)] [] _
      refine ab_iload d_MK_begin_76 rfl ?_
      refine ab_aload_n d_MK_begin_78 rfl ?_
      refine ab_getf (fs := [vR sp, vR wk, vR mk, vz ((cnt + 31) / 32), vz from_, vR stk, vz dp, vz fo, vz 0, vz hw, vR q, vR s, vj stp]) f_MK_18 d_MK_begin_79 ha.2.2 rfl ?_
      refine zz_alen d_MK_begin_82 hmk ?_
      refine zz_icmp_le (tgt := 109) d_MK_begin_83 (by decide) (by omega) (by omega) (fun c71 => ?_) (fun c71 => ?_)
      · refine ab_vret rfl d_MK_begin_109 ?_
        rw [hQ]; exact ⟨_, _, _, _, _, _, rfl, hfr, ha, hmk, (by omega), (by omega), (by omega), (by omega), (by unfold fst; omega), (by omega), (by unfold zT; (repeat' split) <;> omega)⟩
      · refine ab_aload_n d_MK_begin_86 rfl ?_
        refine ab_iload d_MK_begin_87 rfl ?_
        refine zz_ldc 52026 d_MK_begin_89 cn_MK_60 (by decide) ?_
        refine zz_iconst d_MK_begin_91 ?_
        refine ab_aload_n d_MK_begin_92 rfl ?_
        refine ab_getf (fs := [vR sp, vR wk, vR mk, vz ((cnt + 31) / 32), vz from_, vR stk, vz dp, vz fo, vz 0, vz hw, vR q, vR s, vj stp]) f_MK_18 d_MK_begin_93 ha.2.2 rfl ?_
        refine zz_alen d_MK_begin_96 hmk ?_
        refine zz_imul d_MK_begin_97 ?_
        refine zz_mmin2 mj_MK_61 d_MK_begin_98 (by decide) (by omega) (Nat.le_of_ble_eq_true rfl) (by omega) (fun c72 => ?_) (fun c72 => ?_)
        · refine zz_mmax2 mj_MK_67 d_MK_begin_101 (by omega) (by decide) (Nat.le_of_ble_eq_true rfl) (by omega) (fun c73 => ?_) (fun c73 => absurd c73 (by omega))
          refine zz_newI (w := 52026) a_int d_MK_begin_104 (by decide) (by omega) (by omega) (by omega) ?_
          obtain ⟨G74, eG74⟩ : ∃ z : ab_G, z = G67 ++ [za 52026 (fun _ => 0)] := ⟨_, rfl⟩
          obtain ⟨o75, eo75⟩ : ∃ z : Nat → Nat, z = ol o G67.length 46 := ⟨_, rfl⟩
          obtain ⟨a76, ea76⟩ : ∃ z : Nat, z = G67.length := ⟨_, rfl⟩
          have hq77 := hs.n0 (by first | decide | omega)
          have ne_a76_a : nq a76 a := by have hlt := ha.lt; unfold nq; omega
          have ne_a76_mk : nq a76 mk := by have hlt := hmk.lt; unfold nq; omega
          have ne_a76_q : nq a76 q := by have hlt := hq.lt; unfold nq; omega
          have ne_a76_s : nq a76 s := by have hlt := hs.lt; unfold nq; omega
          have ha := ha.akeep (k := 46) eG74
          rw [← eo75] at ha
          have hmk := hmk.akeep (k := 46) eG74
          rw [← eo75] at hmk
          have hq := hq.akeep (k := 46) eG74
          rw [← eo75] at hq
          have hs := hs.akeep (k := 46) eG74
          rw [← eo75] at hs
          have ha76 := cc.anew (o := o) 46 eG74 hq77
          rw [← eo75, ← ea76] at ha76
          have hfr := hfr.ap (k := 46) eG74
          rw [← eo75] at hfr
          have hq78 := z_alen eG74
          have hq79 : ab_slots G74 = ab_slots G67 + 52026 := z_asl eG74 hq77
          change ab_W _ _ _ (G67 ++ [za 52026 (fun _ => 0)]) 106 [some (vR a), some (vR q), some (vR s), some (vz hw), some (vz from_), some (vR sp), some (vz v70)] [.ref G67.length, vR a] _
          rw [← eG74, ← ea76]
          change ab_W _ _ _ G74 106 [some (vR a), some (vR q), some (vR s), some (vz hw), some (vz from_), some (vR sp), some (vz v70)] [vR a76, vR a] _
          refine ab_putf (fs := [vR sp, vR wk, vR mk, vz ((cnt + 31) / 32), vz from_, vR stk, vz dp, vz fo, vz 0, vz hw, vR q, vR s, vj stp]) f_MK_18 (Or.inl rfl) d_MK_begin_106 ha.2.2 (Nat.le_of_ble_eq_true rfl) (fun _ => ⟨rfl, rfl⟩) (ha.2.1 (by decide)) ?_
          obtain ⟨G80, eG80⟩ : ∃ z : ab_G, z = List.set G74 a (ab_ob 2 [vR sp, vR wk, vR a76, vz ((cnt + 31) / 32), vz from_, vR stk, vz dp, vz fo, vz 0, vz hw, vR q, vR s, vj stp]) := ⟨_, rfl⟩
          have hmk := hmk.keep ha eG80 (by decide)
          have hq := hq.keep ha eG80 (by omega)
          have hs := hs.keep ha eG80 (by decide)
          have ha76 := ha76.keep ha eG80 (by decide)
          have hq81 := z_len eG80
          have hq82 := z_sl ha eG80 rfl
          have hfr := hfr.wr ha eG80 (by decide)
          have ha := ha.kept eG80
          change ab_W _ _ _ (List.set G74 a (ab_ob 2 [vR sp, vR wk, vR a76, vz ((cnt + 31) / 32), vz from_, vR stk, vz dp, vz fo, vz 0, vz hw, vR q, vR s, vj stp])) 109 [some (vR a), some (vR q), some (vR s), some (vz hw), some (vz from_), some (vR sp), some (vz v70)] [] _
          rw [← eG80]
          refine ab_vret rfl d_MK_begin_109 ?_
          rw [hQ]; exact ⟨_, _, _, _, _, _, rfl, hfr, ha, ha76, (by omega), (by omega), (by omega), (by omega), (by unfold fst; omega), (by omega), (by unfold zT; (repeat' split) <;> omega)⟩
        · refine zz_mmax2 mj_MK_67 d_MK_begin_101 (by omega) (by omega) (Nat.le_of_ble_eq_true rfl) (by omega) (fun c83 => ?_) (fun c83 => ?_)
          · obtain ⟨w84, hw84⟩ : ∃ z : Nat, (z : Int) = (2 * (↑nm : Int)) := ⟨Int.toNat (2 * (↑nm : Int)), by omega⟩
            refine zz_newI (w := w84) a_int d_MK_begin_104 (by omega) (by omega) (by omega) (by omega) ?_
            obtain ⟨G85, eG85⟩ : ∃ z : ab_G, z = G67 ++ [za w84 (fun _ => 0)] := ⟨_, rfl⟩
            obtain ⟨o86, eo86⟩ : ∃ z : Nat → Nat, z = ol o G67.length 46 := ⟨_, rfl⟩
            obtain ⟨a87, ea87⟩ : ∃ z : Nat, z = G67.length := ⟨_, rfl⟩
            have hq88 := hs.n0 (by first | decide | omega)
            have ne_a87_a : nq a87 a := by have hlt := ha.lt; unfold nq; omega
            have ne_a87_mk : nq a87 mk := by have hlt := hmk.lt; unfold nq; omega
            have ne_a87_q : nq a87 q := by have hlt := hq.lt; unfold nq; omega
            have ne_a87_s : nq a87 s := by have hlt := hs.lt; unfold nq; omega
            have ha := ha.akeep (k := 46) eG85
            rw [← eo86] at ha
            have hmk := hmk.akeep (k := 46) eG85
            rw [← eo86] at hmk
            have hq := hq.akeep (k := 46) eG85
            rw [← eo86] at hq
            have hs := hs.akeep (k := 46) eG85
            rw [← eo86] at hs
            have ha87 := cc.anew (o := o) 46 eG85 hq88
            rw [← eo86, ← ea87] at ha87
            have hfr := hfr.ap (k := 46) eG85
            rw [← eo86] at hfr
            have hq89 := z_alen eG85
            have hq90 : ab_slots G85 = ab_slots G67 + w84 := z_asl eG85 hq88
            change ab_W _ _ _ (G67 ++ [za w84 (fun _ => 0)]) 106 [some (vR a), some (vR q), some (vR s), some (vz hw), some (vz from_), some (vR sp), some (vz v70)] [.ref G67.length, vR a] _
            rw [← eG85, ← ea87]
            change ab_W _ _ _ G85 106 [some (vR a), some (vR q), some (vR s), some (vz hw), some (vz from_), some (vR sp), some (vz v70)] [vR a87, vR a] _
            refine ab_putf (fs := [vR sp, vR wk, vR mk, vz ((cnt + 31) / 32), vz from_, vR stk, vz dp, vz fo, vz 0, vz hw, vR q, vR s, vj stp]) f_MK_18 (Or.inl rfl) d_MK_begin_106 ha.2.2 (Nat.le_of_ble_eq_true rfl) (fun _ => ⟨rfl, rfl⟩) (ha.2.1 (by decide)) ?_
            obtain ⟨G91, eG91⟩ : ∃ z : ab_G, z = List.set G85 a (ab_ob 2 [vR sp, vR wk, vR a87, vz ((cnt + 31) / 32), vz from_, vR stk, vz dp, vz fo, vz 0, vz hw, vR q, vR s, vj stp]) := ⟨_, rfl⟩
            have hmk := hmk.keep ha eG91 (by decide)
            have hq := hq.keep ha eG91 (by omega)
            have hs := hs.keep ha eG91 (by decide)
            have ha87 := ha87.keep ha eG91 (by decide)
            have hq92 := z_len eG91
            have hq93 := z_sl ha eG91 rfl
            have hfr := hfr.wr ha eG91 (by decide)
            have ha := ha.kept eG91
            change ab_W _ _ _ (List.set G85 a (ab_ob 2 [vR sp, vR wk, vR a87, vz ((cnt + 31) / 32), vz from_, vR stk, vz dp, vz fo, vz 0, vz hw, vR q, vR s, vj stp])) 109 [some (vR a), some (vR q), some (vR s), some (vz hw), some (vz from_), some (vR sp), some (vz v70)] [] _
            rw [← eG91]
            refine ab_vret rfl d_MK_begin_109 ?_
            rw [hQ]; exact ⟨_, _, _, _, _, _, rfl, hfr, ha, ha87, (by omega), (by omega), (by omega), (by omega), (by unfold fst; omega), (by omega), (by unfold zT; (repeat' split) <;> omega)⟩
          · obtain ⟨w94, hw94⟩ : ∃ z : Nat, (z : Int) = v70 := ⟨Int.toNat v70, by omega⟩
            refine zz_newI (w := w94) a_int d_MK_begin_104 (by omega) (by omega) (by omega) (by omega) ?_
            obtain ⟨G95, eG95⟩ : ∃ z : ab_G, z = G67 ++ [za w94 (fun _ => 0)] := ⟨_, rfl⟩
            obtain ⟨o96, eo96⟩ : ∃ z : Nat → Nat, z = ol o G67.length 46 := ⟨_, rfl⟩
            obtain ⟨a97, ea97⟩ : ∃ z : Nat, z = G67.length := ⟨_, rfl⟩
            have hq98 := hs.n0 (by first | decide | omega)
            have ne_a97_a : nq a97 a := by have hlt := ha.lt; unfold nq; omega
            have ne_a97_mk : nq a97 mk := by have hlt := hmk.lt; unfold nq; omega
            have ne_a97_q : nq a97 q := by have hlt := hq.lt; unfold nq; omega
            have ne_a97_s : nq a97 s := by have hlt := hs.lt; unfold nq; omega
            have ha := ha.akeep (k := 46) eG95
            rw [← eo96] at ha
            have hmk := hmk.akeep (k := 46) eG95
            rw [← eo96] at hmk
            have hq := hq.akeep (k := 46) eG95
            rw [← eo96] at hq
            have hs := hs.akeep (k := 46) eG95
            rw [← eo96] at hs
            have ha97 := cc.anew (o := o) 46 eG95 hq98
            rw [← eo96, ← ea97] at ha97
            have hfr := hfr.ap (k := 46) eG95
            rw [← eo96] at hfr
            have hq99 := z_alen eG95
            have hq100 : ab_slots G95 = ab_slots G67 + w94 := z_asl eG95 hq98
            change ab_W _ _ _ (G67 ++ [za w94 (fun _ => 0)]) 106 [some (vR a), some (vR q), some (vR s), some (vz hw), some (vz from_), some (vR sp), some (vz v70)] [.ref G67.length, vR a] _
            rw [← eG95, ← ea97]
            change ab_W _ _ _ G95 106 [some (vR a), some (vR q), some (vR s), some (vz hw), some (vz from_), some (vR sp), some (vz v70)] [vR a97, vR a] _
            refine ab_putf (fs := [vR sp, vR wk, vR mk, vz ((cnt + 31) / 32), vz from_, vR stk, vz dp, vz fo, vz 0, vz hw, vR q, vR s, vj stp]) f_MK_18 (Or.inl rfl) d_MK_begin_106 ha.2.2 (Nat.le_of_ble_eq_true rfl) (fun _ => ⟨rfl, rfl⟩) (ha.2.1 (by decide)) ?_
            obtain ⟨G101, eG101⟩ : ∃ z : ab_G, z = List.set G95 a (ab_ob 2 [vR sp, vR wk, vR a97, vz ((cnt + 31) / 32), vz from_, vR stk, vz dp, vz fo, vz 0, vz hw, vR q, vR s, vj stp]) := ⟨_, rfl⟩
            have hmk := hmk.keep ha eG101 (by decide)
            have hq := hq.keep ha eG101 (by omega)
            have hs := hs.keep ha eG101 (by decide)
            have ha97 := ha97.keep ha eG101 (by decide)
            have hq102 := z_len eG101
            have hq103 := z_sl ha eG101 rfl
            have hfr := hfr.wr ha eG101 (by decide)
            have ha := ha.kept eG101
            change ab_W _ _ _ (List.set G95 a (ab_ob 2 [vR sp, vR wk, vR a97, vz ((cnt + 31) / 32), vz from_, vR stk, vz dp, vz fo, vz 0, vz hw, vR q, vR s, vj stp])) 109 [some (vR a), some (vR q), some (vR s), some (vz hw), some (vz from_), some (vR sp), some (vz v70)] [] _
            rw [← eG101]
            refine ab_vret rfl d_MK_begin_109 ?_
            rw [hQ]; exact ⟨_, _, _, _, _, _, rfl, hfr, ha, ha97, (by omega), (by omega), (by omega), (by omega), (by unfold fst; omega), (by omega), (by unfold zT; (repeat' split) <;> omega)⟩
    · cases hv
      rw [hGe]
      change ab_W _ _ _ G10 33 [some (vR a), some (vR q), some (vR s), some (vz hw), some (vz from_), some (vR sp), none] [vz 0, vR a] _
      refine zz_if_ne (tgt := 40) d_MK_begin_33 (by decide) (by decide) (fun c104 => absurd c104 (by decide)) (fun c104 => ?_)
      refine zz_iconst d_MK_begin_36 ?_
      refine ab_goto (tgt := 41) d_MK_begin_37 (by decide) ?_
      refine ab_putf (fs := [vR sp, vR wk, vR mk, vz w0, vz df0, vR stk, vz dp, vz fo, vz fy0, vz hw, vR q, vR s, vj stp]) f_MK_42 (Or.inl rfl) d_MK_begin_41 ha.2.2 (Nat.le_of_ble_eq_true rfl) (ab_fbz (by decide)) (ha.2.1 (by decide)) ?_
      obtain ⟨G105, eG105⟩ : ∃ z : ab_G, z = List.set G10 a (ab_ob 2 [vR sp, vR wk, vR mk, vz w0, vz df0, vR stk, vz dp, vz fo, vz 1, vz hw, vR q, vR s, vj stp]) := ⟨_, rfl⟩
      have hmk := hmk.keep ha eG105 (by decide)
      have hq := hq.keep ha eG105 (by omega)
      have hs := hs.keep ha eG105 (by decide)
      have hq106 := z_len eG105
      have hq107 := z_sl ha eG105 rfl
      have hfr := hfr.wr ha eG105 (by decide)
      have ha := ha.kept eG105
      change ab_W _ _ _ (List.set G10 a (ab_ob 2 [vR sp, vR wk, vR mk, vz w0, vz df0, vR stk, vz dp, vz fo, vz 1, vz hw, vR q, vR s, vj stp])) 44 [some (vR a), some (vR q), some (vR s), some (vz hw), some (vz from_), some (vR sp), none] [] _
      rw [← eG105]
      refine ab_aload_n d_MK_begin_44 rfl ?_
      refine ab_aload_n d_MK_begin_45 rfl ?_
      refine ab_getf (fs := [vR ki, vR ne, vR ot, vz cnt, vz fi, vz la, vR ra, vz ru, vz gr, vz wi, vz sz, vz fl, vz ve, vz mi, vR na, vR nl]) f_MK_46 d_MK_begin_46 hq.2.2 rfl ?_
      refine zz_bipush d_MK_begin_49 (by decide) ?_
      refine zz_iadd d_MK_begin_51 ?_
      refine zz_iconst d_MK_begin_52 ?_
      refine zz_ishr 5 32 d_MK_begin_53 (by decide) (by decide) (by decide) (by decide) (by omega) ?_
      refine ab_putf (fs := [vR sp, vR wk, vR mk, vz w0, vz df0, vR stk, vz dp, vz fo, vz 1, vz hw, vR q, vR s, vj stp]) f_MK_49 (Or.inl rfl) d_MK_begin_54 ha.2.2 (Nat.le_of_ble_eq_true rfl) (fun _ => ⟨rfl, rfl⟩) (ha.2.1 (by decide)) ?_
      obtain ⟨G108, eG108⟩ : ∃ z : ab_G, z = List.set G105 a (ab_ob 2 [vR sp, vR wk, vR mk, vz ((cnt + 31) / 32), vz df0, vR stk, vz dp, vz fo, vz 1, vz hw, vR q, vR s, vj stp]) := ⟨_, rfl⟩
      have hmk := hmk.keep ha eG108 (by decide)
      have hq := hq.keep ha eG108 (by omega)
      have hs := hs.keep ha eG108 (by decide)
      have hq109 := z_len eG108
      have hq110 := z_sl ha eG108 rfl
      have hfr := hfr.wr ha eG108 (by decide)
      have ha := ha.kept eG108
      change ab_W _ _ _ (List.set G105 a (ab_ob 2 [vR sp, vR wk, vR mk, vz ((cnt + 31) / 32), vz df0, vR stk, vz dp, vz fo, vz 1, vz hw, vR q, vR s, vj stp])) 57 [some (vR a), some (vR q), some (vR s), some (vz hw), some (vz from_), some (vR sp), none] [] _
      rw [← eG108]
      refine ab_aload_n d_MK_begin_57 rfl ?_
      refine ab_iload d_MK_begin_58 rfl ?_
      refine ab_putf (fs := [vR sp, vR wk, vR mk, vz ((cnt + 31) / 32), vz df0, vR stk, vz dp, vz fo, vz 1, vz hw, vR q, vR s, vj stp]) f_MK_52 (Or.inl rfl) d_MK_begin_60 ha.2.2 (Nat.le_of_ble_eq_true rfl) (fun _ => ⟨rfl, rfl⟩) (ha.2.1 (by decide)) ?_
      obtain ⟨G111, eG111⟩ : ∃ z : ab_G, z = List.set G108 a (ab_ob 2 [vR sp, vR wk, vR mk, vz ((cnt + 31) / 32), vz from_, vR stk, vz dp, vz fo, vz 1, vz hw, vR q, vR s, vj stp]) := ⟨_, rfl⟩
      have hmk := hmk.keep ha eG111 (by decide)
      have hq := hq.keep ha eG111 (by omega)
      have hs := hs.keep ha eG111 (by decide)
      have hq112 := z_len eG111
      have hq113 := z_sl ha eG111 rfl
      have hfr := hfr.wr ha eG111 (by decide)
      have ha := ha.kept eG111
      change ab_W _ _ _ (List.set G108 a (ab_ob 2 [vR sp, vR wk, vR mk, vz ((cnt + 31) / 32), vz from_, vR stk, vz dp, vz fo, vz 1, vz hw, vR q, vR s, vj stp])) 63 [some (vR a), some (vR q), some (vR s), some (vz hw), some (vz from_), some (vR sp), none] [] _
      rw [← eG111]
      refine ab_aload_n d_MK_begin_63 rfl ?_
      refine ab_getf (fs := [vR by_, vR co, vR re, vR ho, vz n]) f_MK_55 d_MK_begin_64 hs.2.2 rfl ?_
      refine zz_iconst d_MK_begin_67 ?_
      refine zz_iadd d_MK_begin_68 ?_
      refine ab_aload_n d_MK_begin_69 rfl ?_
      refine ab_getf (fs := [vR sp, vR wk, vR mk, vz ((cnt + 31) / 32), vz from_, vR stk, vz dp, vz fo, vz 1, vz hw, vR q, vR s, vj stp]) f_MK_49 d_MK_begin_70 ha.2.2 rfl ?_
      refine zz_imul d_MK_begin_73 ?_
      obtain ⟨v114, hv114⟩ : ∃ z : Int, z = (n + 1) * ((cnt + 31) / 32) := ⟨_, rfl⟩
      rw [← hv114]
      have hv114b := z_mulb (a := (n + 1)) (b := ((cnt + 31) / 32)) (A := 2001) (B := 26) (by omega) (by omega)
      rw [← hv114] at hv114b
      change ab_W _ _ _ G111 74 [some (vR a), some (vR q), some (vR s), some (vz hw), some (vz from_), some (vR sp), none] [vz v114] _
      refine ab_istore d_MK_begin_74 (Nat.le_of_ble_eq_true rfl) (Nat.le_of_ble_eq_true rfl) rfl ?_
      change ab_W _ _ _ G111 76 [some (vR a), some (vR q), some (vR s), some (vz hw), some (vz from_), some (vR sp), some (vz v114)] [] _
      refine ab_iload d_MK_begin_76 rfl ?_
      refine ab_aload_n d_MK_begin_78 rfl ?_
      refine ab_getf (fs := [vR sp, vR wk, vR mk, vz ((cnt + 31) / 32), vz from_, vR stk, vz dp, vz fo, vz 1, vz hw, vR q, vR s, vj stp]) f_MK_18 d_MK_begin_79 ha.2.2 rfl ?_
      refine zz_alen d_MK_begin_82 hmk ?_
      refine zz_icmp_le (tgt := 109) d_MK_begin_83 (by decide) (by omega) (by omega) (fun c115 => ?_) (fun c115 => ?_)
      · refine ab_vret rfl d_MK_begin_109 ?_
        rw [hQ]; exact ⟨_, _, _, _, _, _, rfl, hfr, ha, hmk, (by omega), (by omega), (by omega), (by omega), (by unfold fst; omega), (by omega), (by unfold zT; (repeat' split) <;> omega)⟩
      · refine ab_aload_n d_MK_begin_86 rfl ?_
        refine ab_iload d_MK_begin_87 rfl ?_
        refine zz_ldc 52026 d_MK_begin_89 cn_MK_60 (by decide) ?_
        refine zz_iconst d_MK_begin_91 ?_
        refine ab_aload_n d_MK_begin_92 rfl ?_
        refine ab_getf (fs := [vR sp, vR wk, vR mk, vz ((cnt + 31) / 32), vz from_, vR stk, vz dp, vz fo, vz 1, vz hw, vR q, vR s, vj stp]) f_MK_18 d_MK_begin_93 ha.2.2 rfl ?_
        refine zz_alen d_MK_begin_96 hmk ?_
        refine zz_imul d_MK_begin_97 ?_
        refine zz_mmin2 mj_MK_61 d_MK_begin_98 (by decide) (by omega) (Nat.le_of_ble_eq_true rfl) (by omega) (fun c116 => ?_) (fun c116 => ?_)
        · refine zz_mmax2 mj_MK_67 d_MK_begin_101 (by omega) (by decide) (Nat.le_of_ble_eq_true rfl) (by omega) (fun c117 => ?_) (fun c117 => absurd c117 (by omega))
          refine zz_newI (w := 52026) a_int d_MK_begin_104 (by decide) (by omega) (by omega) (by omega) ?_
          obtain ⟨G118, eG118⟩ : ∃ z : ab_G, z = G111 ++ [za 52026 (fun _ => 0)] := ⟨_, rfl⟩
          obtain ⟨o119, eo119⟩ : ∃ z : Nat → Nat, z = ol o G111.length 46 := ⟨_, rfl⟩
          obtain ⟨a120, ea120⟩ : ∃ z : Nat, z = G111.length := ⟨_, rfl⟩
          have hq121 := hs.n0 (by first | decide | omega)
          have ne_a120_a : nq a120 a := by have hlt := ha.lt; unfold nq; omega
          have ne_a120_mk : nq a120 mk := by have hlt := hmk.lt; unfold nq; omega
          have ne_a120_q : nq a120 q := by have hlt := hq.lt; unfold nq; omega
          have ne_a120_s : nq a120 s := by have hlt := hs.lt; unfold nq; omega
          have ha := ha.akeep (k := 46) eG118
          rw [← eo119] at ha
          have hmk := hmk.akeep (k := 46) eG118
          rw [← eo119] at hmk
          have hq := hq.akeep (k := 46) eG118
          rw [← eo119] at hq
          have hs := hs.akeep (k := 46) eG118
          rw [← eo119] at hs
          have ha120 := cc.anew (o := o) 46 eG118 hq121
          rw [← eo119, ← ea120] at ha120
          have hfr := hfr.ap (k := 46) eG118
          rw [← eo119] at hfr
          have hq122 := z_alen eG118
          have hq123 : ab_slots G118 = ab_slots G111 + 52026 := z_asl eG118 hq121
          change ab_W _ _ _ (G111 ++ [za 52026 (fun _ => 0)]) 106 [some (vR a), some (vR q), some (vR s), some (vz hw), some (vz from_), some (vR sp), some (vz v114)] [.ref G111.length, vR a] _
          rw [← eG118, ← ea120]
          change ab_W _ _ _ G118 106 [some (vR a), some (vR q), some (vR s), some (vz hw), some (vz from_), some (vR sp), some (vz v114)] [vR a120, vR a] _
          refine ab_putf (fs := [vR sp, vR wk, vR mk, vz ((cnt + 31) / 32), vz from_, vR stk, vz dp, vz fo, vz 1, vz hw, vR q, vR s, vj stp]) f_MK_18 (Or.inl rfl) d_MK_begin_106 ha.2.2 (Nat.le_of_ble_eq_true rfl) (fun _ => ⟨rfl, rfl⟩) (ha.2.1 (by decide)) ?_
          obtain ⟨G124, eG124⟩ : ∃ z : ab_G, z = List.set G118 a (ab_ob 2 [vR sp, vR wk, vR a120, vz ((cnt + 31) / 32), vz from_, vR stk, vz dp, vz fo, vz 1, vz hw, vR q, vR s, vj stp]) := ⟨_, rfl⟩
          have hmk := hmk.keep ha eG124 (by decide)
          have hq := hq.keep ha eG124 (by omega)
          have hs := hs.keep ha eG124 (by decide)
          have ha120 := ha120.keep ha eG124 (by decide)
          have hq125 := z_len eG124
          have hq126 := z_sl ha eG124 rfl
          have hfr := hfr.wr ha eG124 (by decide)
          have ha := ha.kept eG124
          change ab_W _ _ _ (List.set G118 a (ab_ob 2 [vR sp, vR wk, vR a120, vz ((cnt + 31) / 32), vz from_, vR stk, vz dp, vz fo, vz 1, vz hw, vR q, vR s, vj stp])) 109 [some (vR a), some (vR q), some (vR s), some (vz hw), some (vz from_), some (vR sp), some (vz v114)] [] _
          rw [← eG124]
          refine ab_vret rfl d_MK_begin_109 ?_
          rw [hQ]; exact ⟨_, _, _, _, _, _, rfl, hfr, ha, ha120, (by omega), (by omega), (by omega), (by omega), (by unfold fst; omega), (by omega), (by unfold zT; (repeat' split) <;> omega)⟩
        · refine zz_mmax2 mj_MK_67 d_MK_begin_101 (by omega) (by omega) (Nat.le_of_ble_eq_true rfl) (by omega) (fun c127 => ?_) (fun c127 => ?_)
          · obtain ⟨w128, hw128⟩ : ∃ z : Nat, (z : Int) = (2 * (↑nm : Int)) := ⟨Int.toNat (2 * (↑nm : Int)), by omega⟩
            refine zz_newI (w := w128) a_int d_MK_begin_104 (by omega) (by omega) (by omega) (by omega) ?_
            obtain ⟨G129, eG129⟩ : ∃ z : ab_G, z = G111 ++ [za w128 (fun _ => 0)] := ⟨_, rfl⟩
            obtain ⟨o130, eo130⟩ : ∃ z : Nat → Nat, z = ol o G111.length 46 := ⟨_, rfl⟩
            obtain ⟨a131, ea131⟩ : ∃ z : Nat, z = G111.length := ⟨_, rfl⟩
            have hq132 := hs.n0 (by first | decide | omega)
            have ne_a131_a : nq a131 a := by have hlt := ha.lt; unfold nq; omega
            have ne_a131_mk : nq a131 mk := by have hlt := hmk.lt; unfold nq; omega
            have ne_a131_q : nq a131 q := by have hlt := hq.lt; unfold nq; omega
            have ne_a131_s : nq a131 s := by have hlt := hs.lt; unfold nq; omega
            have ha := ha.akeep (k := 46) eG129
            rw [← eo130] at ha
            have hmk := hmk.akeep (k := 46) eG129
            rw [← eo130] at hmk
            have hq := hq.akeep (k := 46) eG129
            rw [← eo130] at hq
            have hs := hs.akeep (k := 46) eG129
            rw [← eo130] at hs
            have ha131 := cc.anew (o := o) 46 eG129 hq132
            rw [← eo130, ← ea131] at ha131
            have hfr := hfr.ap (k := 46) eG129
            rw [← eo130] at hfr
            have hq133 := z_alen eG129
            have hq134 : ab_slots G129 = ab_slots G111 + w128 := z_asl eG129 hq132
            change ab_W _ _ _ (G111 ++ [za w128 (fun _ => 0)]) 106 [some (vR a), some (vR q), some (vR s), some (vz hw), some (vz from_), some (vR sp), some (vz v114)] [.ref G111.length, vR a] _
            rw [← eG129, ← ea131]
            change ab_W _ _ _ G129 106 [some (vR a), some (vR q), some (vR s), some (vz hw), some (vz from_), some (vR sp), some (vz v114)] [vR a131, vR a] _
            refine ab_putf (fs := [vR sp, vR wk, vR mk, vz ((cnt + 31) / 32), vz from_, vR stk, vz dp, vz fo, vz 1, vz hw, vR q, vR s, vj stp]) f_MK_18 (Or.inl rfl) d_MK_begin_106 ha.2.2 (Nat.le_of_ble_eq_true rfl) (fun _ => ⟨rfl, rfl⟩) (ha.2.1 (by decide)) ?_
            obtain ⟨G135, eG135⟩ : ∃ z : ab_G, z = List.set G129 a (ab_ob 2 [vR sp, vR wk, vR a131, vz ((cnt + 31) / 32), vz from_, vR stk, vz dp, vz fo, vz 1, vz hw, vR q, vR s, vj stp]) := ⟨_, rfl⟩
            have hmk := hmk.keep ha eG135 (by decide)
            have hq := hq.keep ha eG135 (by omega)
            have hs := hs.keep ha eG135 (by decide)
            have ha131 := ha131.keep ha eG135 (by decide)
            have hq136 := z_len eG135
            have hq137 := z_sl ha eG135 rfl
            have hfr := hfr.wr ha eG135 (by decide)
            have ha := ha.kept eG135
            change ab_W _ _ _ (List.set G129 a (ab_ob 2 [vR sp, vR wk, vR a131, vz ((cnt + 31) / 32), vz from_, vR stk, vz dp, vz fo, vz 1, vz hw, vR q, vR s, vj stp])) 109 [some (vR a), some (vR q), some (vR s), some (vz hw), some (vz from_), some (vR sp), some (vz v114)] [] _
            rw [← eG135]
            refine ab_vret rfl d_MK_begin_109 ?_
            rw [hQ]; exact ⟨_, _, _, _, _, _, rfl, hfr, ha, ha131, (by omega), (by omega), (by omega), (by omega), (by unfold fst; omega), (by omega), (by unfold zT; (repeat' split) <;> omega)⟩
          · obtain ⟨w138, hw138⟩ : ∃ z : Nat, (z : Int) = v114 := ⟨Int.toNat v114, by omega⟩
            refine zz_newI (w := w138) a_int d_MK_begin_104 (by omega) (by omega) (by omega) (by omega) ?_
            obtain ⟨G139, eG139⟩ : ∃ z : ab_G, z = G111 ++ [za w138 (fun _ => 0)] := ⟨_, rfl⟩
            obtain ⟨o140, eo140⟩ : ∃ z : Nat → Nat, z = ol o G111.length 46 := ⟨_, rfl⟩
            obtain ⟨a141, ea141⟩ : ∃ z : Nat, z = G111.length := ⟨_, rfl⟩
            have hq142 := hs.n0 (by first | decide | omega)
            have ne_a141_a : nq a141 a := by have hlt := ha.lt; unfold nq; omega
            have ne_a141_mk : nq a141 mk := by have hlt := hmk.lt; unfold nq; omega
            have ne_a141_q : nq a141 q := by have hlt := hq.lt; unfold nq; omega
            have ne_a141_s : nq a141 s := by have hlt := hs.lt; unfold nq; omega
            have ha := ha.akeep (k := 46) eG139
            rw [← eo140] at ha
            have hmk := hmk.akeep (k := 46) eG139
            rw [← eo140] at hmk
            have hq := hq.akeep (k := 46) eG139
            rw [← eo140] at hq
            have hs := hs.akeep (k := 46) eG139
            rw [← eo140] at hs
            have ha141 := cc.anew (o := o) 46 eG139 hq142
            rw [← eo140, ← ea141] at ha141
            have hfr := hfr.ap (k := 46) eG139
            rw [← eo140] at hfr
            have hq143 := z_alen eG139
            have hq144 : ab_slots G139 = ab_slots G111 + w138 := z_asl eG139 hq142
            change ab_W _ _ _ (G111 ++ [za w138 (fun _ => 0)]) 106 [some (vR a), some (vR q), some (vR s), some (vz hw), some (vz from_), some (vR sp), some (vz v114)] [.ref G111.length, vR a] _
            rw [← eG139, ← ea141]
            change ab_W _ _ _ G139 106 [some (vR a), some (vR q), some (vR s), some (vz hw), some (vz from_), some (vR sp), some (vz v114)] [vR a141, vR a] _
            refine ab_putf (fs := [vR sp, vR wk, vR mk, vz ((cnt + 31) / 32), vz from_, vR stk, vz dp, vz fo, vz 1, vz hw, vR q, vR s, vj stp]) f_MK_18 (Or.inl rfl) d_MK_begin_106 ha.2.2 (Nat.le_of_ble_eq_true rfl) (fun _ => ⟨rfl, rfl⟩) (ha.2.1 (by decide)) ?_
            obtain ⟨G145, eG145⟩ : ∃ z : ab_G, z = List.set G139 a (ab_ob 2 [vR sp, vR wk, vR a141, vz ((cnt + 31) / 32), vz from_, vR stk, vz dp, vz fo, vz 1, vz hw, vR q, vR s, vj stp]) := ⟨_, rfl⟩
            have hmk := hmk.keep ha eG145 (by decide)
            have hq := hq.keep ha eG145 (by omega)
            have hs := hs.keep ha eG145 (by decide)
            have ha141 := ha141.keep ha eG145 (by decide)
            have hq146 := z_len eG145
            have hq147 := z_sl ha eG145 rfl
            have hfr := hfr.wr ha eG145 (by decide)
            have ha := ha.kept eG145
            change ab_W _ _ _ (List.set G139 a (ab_ob 2 [vR sp, vR wk, vR a141, vz ((cnt + 31) / 32), vz from_, vR stk, vz dp, vz fo, vz 1, vz hw, vR q, vR s, vj stp])) 109 [some (vR a), some (vR q), some (vR s), some (vz hw), some (vz from_), some (vR sp), some (vz v114)] [] _
            rw [← eG145]
            refine ab_vret rfl d_MK_begin_109 ?_
            rw [hQ]; exact ⟨_, _, _, _, _, _, rfl, hfr, ha, ha141, (by omega), (by omega), (by omega), (by omega), (by unfold fst; omega), (by omega), (by unfold zT; (repeat' split) <;> omega)⟩
