set_option maxRecDepth 100000 in
set_option maxHeartbeats 4000000 in
theorem y_OM_isNewTaker_102 {X : ab_X} {d : Nat} {Q : Outcome → ab_G → Prop} {o0 : Nat → Nat} {G0 : ab_G} {a : Nat} {wk : Nat} {onw : Nat} {tkn : Nat} {se_ : Nat} {cle : Nat} {stk : Nat} {dp : Int} {fo : Int} {chn : Int} {hw : Int} {fy : Int} {stp : Int} {q : Nat} {lq : Nat} {ki : Nat} {ne : Nat} {ot : Nat} {cnt : Int} {fi : Int} {la : Int} {ra : Nat} {ru : Int} {gr : Int} {wi : Int} {sz : Int} {fl : Int} {ve : Int} {mi : Int} {na : Nat} {nl : Nat} {K : Int → Int} {O : Int → Int} {RR : Int → Int} {nr : Nat} {sp0 : Value} {s0 : Value} {x : Int} {n0 : Nat} {bh : Int} (cq : 100 ≤ lq ∧ 0 ≤ cnt ∧ cnt ≤ 808 ∧ ↑nr ≤ (100000 : Int)) (hr : ∀ k : Int, 0 ≤ k → k < ↑nr → 0 ≤ RR k ∧ RR k ≤ 1114111) (cru : 0 ≤ ru ∧ ru ≤ ↑nr ∧ ru ≤ 50000) (cx : 0 ≤ x ∧ x < cnt ∧ K x = 1) (hrec : recok RR ru (O x)) (hrx : 0 ≤ O x ∧ 0 ≤ RR (O x) ∧ O x + 2 * RR (O x) + 1 ≤ ru) (cbh : bh = O x + 2 * RR (O x)) (rc : G0.length + 1700 ≤ ab_n0 + room_1.cells) (rs : ab_slots G0 + 208000 ≤ room_1.slots + 2 * n0) (hd : 5 ≤ d) : ∀ (mz : Nat) {G : ab_G} {o : Nat → Nat} {nw : Int} {i_ : Int} {u : Int} {nt : Nat} {ct : Int} {P : Int → Prop}, (cc o G a 50 (ab_ob 3 [sp0, vR wk, vR onw, vR tkn, vR se_, vR cle, vR stk, vz dp, vz fo, vz chn, vR q, s0, vz hw, vz fy, vj stp])) → (cc o G q lq (ab_ob 5 [vR ki, vR ne, vR ot, vz cnt, vz fi, vz la, vR ra, vz ru, vz gr, vz wi, vz sz, vz fl, vz ve, vz mi, vR na, vR nl])) → (cc o G ki (lq + 1) (za 808 K)) → (cc o G ot (lq + 3) (za 808 O)) → (cc o G ra (lq + 4) (za nr RR)) → (csI o G tkn 53 54 nt ct P) → (i_ = O x + 1 + 2 * u) → (0 ≤ u ∧ u ≤ RR (O x) ∧ 0 ≤ nw ∧ nw ≤ 1) → (nt ≤ 104000) → (64 * G.length + n0 ≤ 64 * G0.length + nt) → (ab_slots G + 2 * n0 ≤ ab_slots G0 + 2 * nt) → (olfe O RR cnt ru P) → (fx o0 o [53, 54] G0 G) → (Int.toNat (RR (O x) - u) < mz) → (∀ (G2 : ab_G) (o2 : Nat → Nat) (nw2 : Int) (n2 : Nat) (c2 : Int) (P2 : Int → Prop), (csI o2 G2 tkn 53 54 n2 c2 P2) → (0 ≤ nw2 ∧ nw2 ≤ 1) → (n2 ≤ 104000) → (64 * G2.length + n0 ≤ 64 * G0.length + n2) → (ab_slots G2 + 2 * n0 ≤ ab_slots G0 + 2 * n2) → (olfe O RR cnt ru P2) → (fx o0 o2 [53, 54] G0 G2) → ab_W X (ab_pl y_OM_isNewTaker b_OM_isNewTaker 6 (some (.boolean))) d G2 186 [none, none, none, some (vz nw2), none, none] [] Q) → ab_W X (ab_pl y_OM_isNewTaker b_OM_isNewTaker 6 (some (.boolean))) d G 102 [some (vR a), none, none, some (vz nw), some (vz bh), some (vz i_)] [] Q := by
  intro mz
  induction mz with
  | zero => intro G o nw i_ u nt ct P ha hq hki hot hra pcsI_tkn ci cu hn hg hs jlf hfr hm hk0; exact absurd hm (Nat.not_lt_zero _)
  | succ mz ih =>
    intro G o nw i_ u nt ct P ha hq hki hot hra pcsI_tkn ci cu hn hg hs jlf hfr hm hk0
    subst ci
    refine ab_iload d_OM_isNewTaker_102 rfl ?_
    refine ab_iload d_OM_isNewTaker_104 rfl ?_
    refine zz_icmp_ge (tgt := 186) d_OM_isNewTaker_106 (by decide) (by omega) (by omega) (fun c1 => ?_) (fun c1 => ?_)
    · refine ab_less (L' := [none, none, none, some (vz nw), none, none]) (fun i v h => by rcases i with _ | _ | _ | _ | _ | _ | i <;> first | exact h | (simp at h)) ?_
      exact hk0 _ _ _ _ _ _ pcsI_tkn (by omega) (by omega) (by omega) (by omega) (by exact jlf) hfr
    · refine ab_iload_n d_OM_isNewTaker_109 rfl ?_
      refine zz_if_eq (tgt := 186) d_OM_isNewTaker_110 (by decide) (by omega) (fun c2 => ?_) (fun c2 => ?_)
      · refine ab_less (L' := [none, none, none, some (vz nw), none, none]) (fun i v h => by rcases i with _ | _ | _ | _ | _ | _ | i <;> first | exact h | (simp at h)) ?_
        exact hk0 _ _ _ _ _ _ pcsI_tkn (by omega) (by omega) (by omega) (by omega) (by exact jlf) hfr
      · have hql0 := hrec.2.2.2.1 u (by omega) (by omega)
        have hql : 0 ≤ RR (O x + 1 + 2 * u) ∧ RR (O x + 1 + 2 * u) ≤ RR (O x + 1 + 2 * u + 1) ∧ RR (O x + 1 + 2 * u + 1) ≤ 1114111 := by rw [show O x + 1 + 2 * u + 1 = O x + 1 + (2 * u + 1) by omega]; exact ⟨hql0.1, hql0.2.1, hql0.2.2.1⟩
        have hfew := pcsI_tkn.few jlf (by omega) (by omega)
        refine ab_aload_n d_OM_isNewTaker_113 rfl ?_
        refine ab_getf (fs := [sp0, vR wk, vR onw, vR tkn, vR se_, vR cle, vR stk, vz dp, vz fo, vz chn, vR q, s0, vz hw, vz fy, vj stp]) f_OM_24 d_OM_isNewTaker_114 ha.2.2 rfl ?_
        refine ab_aload_n d_OM_isNewTaker_117 rfl ?_
        refine ab_getf (fs := [sp0, vR wk, vR onw, vR tkn, vR se_, vR cle, vR stk, vz dp, vz fo, vz chn, vR q, s0, vz hw, vz fy, vj stp]) f_OM_47 d_OM_isNewTaker_118 ha.2.2 rfl ?_
        refine ab_getf (fs := [vR ki, vR ne, vR ot, vz cnt, vz fi, vz la, vR ra, vz ru, vz gr, vz wi, vz sz, vz fl, vz ve, vz mi, vR na, vR nl]) f_OM_101 d_OM_isNewTaker_121 hq.2.2 rfl ?_
        refine ab_iload d_OM_isNewTaker_124 rfl ?_
        refine zz_iald d_OM_isNewTaker_126 hra (by omega) ?_
        have hq3 := hr (O x + 1 + 2 * u) (by omega) (by omega)
        refine ab_aload_n d_OM_isNewTaker_127 rfl ?_
        refine ab_getf (fs := [sp0, vR wk, vR onw, vR tkn, vR se_, vR cle, vR stk, vz dp, vz fo, vz chn, vR q, s0, vz hw, vz fy, vj stp]) f_OM_47 d_OM_isNewTaker_128 ha.2.2 rfl ?_
        refine ab_getf (fs := [vR ki, vR ne, vR ot, vz cnt, vz fi, vz la, vR ra, vz ru, vz gr, vz wi, vz sz, vz fl, vz ve, vz mi, vR na, vR nl]) f_OM_101 d_OM_isNewTaker_131 hq.2.2 rfl ?_
        refine ab_iload d_OM_isNewTaker_134 rfl ?_
        refine zz_iconst d_OM_isNewTaker_136 ?_
        refine zz_iadd d_OM_isNewTaker_137 ?_
        refine zz_iald d_OM_isNewTaker_138 hra (by omega) ?_
        have hq4 := hr ((O x + 1 + 2 * u) + 1) (by omega) (by omega)
        obtain ⟨fsR, hR⟩ := pcsI_tkn.recv
        refine ab_callV (d' := d - 1) (as := [vz (RR (O x + 1 + 2 * u)), vz (RR ((O x + 1 + 2 * u) + 1))]) (st := []) (r := _) (c_CS_meets (o := o) (r := tkn) (lr := 53) (lb := 54) (n := nt) (cnt := ct) (P := P) (lo := (RR (O x + 1 + 2 * u))) (hi := (RR ((O x + 1 + 2 * u) + 1))) pcsI_tkn (by omega) (by omega)) (fun oc G2 h => by rcases h with ⟨h, _⟩ | ⟨h, _⟩ <;> exact ⟨_, h⟩) (by omega) m_CS_meets ml_OM_93 im_CS_meets se_CS_meets c_CS hR (Nat.le_of_ble_eq_true rfl) d_OM_isNewTaker_139 rfl ?_
        intro v G5 hq
        rcases hq with ⟨hv, hfk, hlk, hsk, pNcsI_tkn⟩ | ⟨hv, hfk, hlk, hsk, pNcsI_tkn⟩
        · cases hv
          have ha := hfk.get ha (by decide)
          have hq := hfk.get hq (by simp)
          have hki := hfk.get hki (by simp)
          have hot := hfk.get hot (by simp)
          have hra := hfk.get hra (by simp)
          have pcsI_tkn := pNcsI_tkn
          have hfr := hfr.tr hfk (by decide)
          have hq6 := hlk
          have hq7 := hsk
          change ab_W _ _ _ G5 142 [some (vR a), none, none, some (vz nw), some (vz bh), some (vz (O x + 1 + 2 * u))] [vz 1] _
          refine zz_if_ne (tgt := 149) d_OM_isNewTaker_142 (by decide) (by decide) (fun c10 => ?_) (fun c10 => absurd c10 (by decide))
          refine zz_iconst d_OM_isNewTaker_149 ?_
          refine ab_istore_n d_OM_isNewTaker_150 (Nat.le_of_ble_eq_true rfl) (Nat.le_of_ble_eq_true rfl) rfl ?_
          change ab_W _ _ _ G5 151 [some (vR a), none, none, some (vz 0), some (vz bh), some (vz (O x + 1 + 2 * u))] [] _
          refine ab_aload_n d_OM_isNewTaker_151 rfl ?_
          refine ab_getf (fs := [sp0, vR wk, vR onw, vR tkn, vR se_, vR cle, vR stk, vz dp, vz fo, vz chn, vR q, s0, vz hw, vz fy, vj stp]) f_OM_24 d_OM_isNewTaker_152 ha.2.2 rfl ?_
          refine ab_aload_n d_OM_isNewTaker_155 rfl ?_
          refine ab_getf (fs := [sp0, vR wk, vR onw, vR tkn, vR se_, vR cle, vR stk, vz dp, vz fo, vz chn, vR q, s0, vz hw, vz fy, vj stp]) f_OM_47 d_OM_isNewTaker_156 ha.2.2 rfl ?_
          refine ab_getf (fs := [vR ki, vR ne, vR ot, vz cnt, vz fi, vz la, vR ra, vz ru, vz gr, vz wi, vz sz, vz fl, vz ve, vz mi, vR na, vR nl]) f_OM_101 d_OM_isNewTaker_159 hq.2.2 rfl ?_
          refine ab_iload d_OM_isNewTaker_162 rfl ?_
          refine zz_iald d_OM_isNewTaker_164 hra (by omega) ?_
          have hq11 := hr (O x + 1 + 2 * u) (by omega) (by omega)
          refine ab_aload_n d_OM_isNewTaker_165 rfl ?_
          refine ab_getf (fs := [sp0, vR wk, vR onw, vR tkn, vR se_, vR cle, vR stk, vz dp, vz fo, vz chn, vR q, s0, vz hw, vz fy, vj stp]) f_OM_47 d_OM_isNewTaker_166 ha.2.2 rfl ?_
          refine ab_getf (fs := [vR ki, vR ne, vR ot, vz cnt, vz fi, vz la, vR ra, vz ru, vz gr, vz wi, vz sz, vz fl, vz ve, vz mi, vR na, vR nl]) f_OM_101 d_OM_isNewTaker_169 hq.2.2 rfl ?_
          refine ab_iload d_OM_isNewTaker_172 rfl ?_
          refine zz_iconst d_OM_isNewTaker_174 ?_
          refine zz_iadd d_OM_isNewTaker_175 ?_
          refine zz_iald d_OM_isNewTaker_176 hra (by omega) ?_
          have hq12 := hr ((O x + 1 + 2 * u) + 1) (by omega) (by omega)
          obtain ⟨fsR, hR⟩ := pcsI_tkn.recv
          refine ab_callV (d' := d - 1) (as := [vz (RR (O x + 1 + 2 * u)), vz (RR ((O x + 1 + 2 * u) + 1))]) (st := []) (r := _) (c_CS_add (o := o) (r := tkn) (lr := 53) (lb := 54) (n := nt) (cnt := ct) (P := P) (lo := (RR (O x + 1 + 2 * u))) (hi := (RR ((O x + 1 + 2 * u) + 1))) pcsI_tkn (by omega) (by omega) (by omega) (by omega) (by omega)) (fun oc G2 h => by rcases h with ⟨_, _, _, _, h, _⟩ <;> exact ⟨_, h⟩) (by omega) m_CS_add ml_OM_97 im_CS_add se_CS_add c_CS hR (Nat.le_of_ble_eq_true rfl) d_OM_isNewTaker_177 rfl ?_
          intro v G13 hq
          rcases hq with ⟨o14, n215, c216, P217, hv, hfk, pNcsI_tkn, hq18, hq19, hq20, hq21⟩
          cases hv
          have ha := hfk.get ha (by decide)
          have hq := hfk.get hq (by simp only [List.mem_cons, List.not_mem_nil, or_false]; omega)
          have hki := hfk.get hki (by simp only [List.mem_cons, List.not_mem_nil, or_false]; omega)
          have hot := hfk.get hot (by simp only [List.mem_cons, List.not_mem_nil, or_false]; omega)
          have hra := hfk.get hra (by simp only [List.mem_cons, List.not_mem_nil, or_false]; omega)
          have pcsI_tkn := pNcsI_tkn
          have hfr := hfr.tr hfk (by decide)
          have hq22 := hfk.1
          change ab_W _ _ _ G13 180 [some (vR a), none, none, some (vz 0), some (vz bh), some (vz (O x + 1 + 2 * u))] [] _
          refine zz_iinc d_OM_isNewTaker_180 rfl (Nat.le_of_ble_eq_true rfl) (Nat.le_of_ble_eq_true rfl) rfl ?_
          change ab_W _ _ _ G13 183 [some (vR a), none, none, some (vz 0), some (vz bh), some (vz ((O x + 1 + 2 * u) + 2))] [] _
          refine ab_goto (tgt := 102) d_OM_isNewTaker_183 (by decide) ?_
          exact ih (nw := 0) (i_ := ((O x + 1 + 2 * u) + 2)) (u := (u + 1)) (nt := n215) (ct := c216) (P := P217) ha hq hki hot hra pcsI_tkn (by omega) (by omega) (by omega) (by omega) (by omega) (olfe_add jlf (Or.inr ⟨O x, u, hrec, by omega, by omega, rfl⟩) hq18) hfr (by omega) hk0
        · cases hv
          have ha := hfk.get ha (by decide)
          have hq := hfk.get hq (by simp)
          have hki := hfk.get hki (by simp)
          have hot := hfk.get hot (by simp)
          have hra := hfk.get hra (by simp)
          have pcsI_tkn := pNcsI_tkn
          have hfr := hfr.tr hfk (by decide)
          have hq8 := hlk
          have hq9 := hsk
          change ab_W _ _ _ G5 142 [some (vR a), none, none, some (vz nw), some (vz bh), some (vz (O x + 1 + 2 * u))] [vz 0] _
          refine zz_if_ne (tgt := 149) d_OM_isNewTaker_142 (by decide) (by decide) (fun c23 => absurd c23 (by decide)) (fun c23 => ?_)
          refine zz_iconst d_OM_isNewTaker_145 ?_
          refine ab_goto (tgt := 150) d_OM_isNewTaker_146 (by decide) ?_
          refine ab_istore_n d_OM_isNewTaker_150 (Nat.le_of_ble_eq_true rfl) (Nat.le_of_ble_eq_true rfl) rfl ?_
          change ab_W _ _ _ G5 151 [some (vR a), none, none, some (vz 1), some (vz bh), some (vz (O x + 1 + 2 * u))] [] _
          refine ab_aload_n d_OM_isNewTaker_151 rfl ?_
          refine ab_getf (fs := [sp0, vR wk, vR onw, vR tkn, vR se_, vR cle, vR stk, vz dp, vz fo, vz chn, vR q, s0, vz hw, vz fy, vj stp]) f_OM_24 d_OM_isNewTaker_152 ha.2.2 rfl ?_
          refine ab_aload_n d_OM_isNewTaker_155 rfl ?_
          refine ab_getf (fs := [sp0, vR wk, vR onw, vR tkn, vR se_, vR cle, vR stk, vz dp, vz fo, vz chn, vR q, s0, vz hw, vz fy, vj stp]) f_OM_47 d_OM_isNewTaker_156 ha.2.2 rfl ?_
          refine ab_getf (fs := [vR ki, vR ne, vR ot, vz cnt, vz fi, vz la, vR ra, vz ru, vz gr, vz wi, vz sz, vz fl, vz ve, vz mi, vR na, vR nl]) f_OM_101 d_OM_isNewTaker_159 hq.2.2 rfl ?_
          refine ab_iload d_OM_isNewTaker_162 rfl ?_
          refine zz_iald d_OM_isNewTaker_164 hra (by omega) ?_
          have hq24 := hr (O x + 1 + 2 * u) (by omega) (by omega)
          refine ab_aload_n d_OM_isNewTaker_165 rfl ?_
          refine ab_getf (fs := [sp0, vR wk, vR onw, vR tkn, vR se_, vR cle, vR stk, vz dp, vz fo, vz chn, vR q, s0, vz hw, vz fy, vj stp]) f_OM_47 d_OM_isNewTaker_166 ha.2.2 rfl ?_
          refine ab_getf (fs := [vR ki, vR ne, vR ot, vz cnt, vz fi, vz la, vR ra, vz ru, vz gr, vz wi, vz sz, vz fl, vz ve, vz mi, vR na, vR nl]) f_OM_101 d_OM_isNewTaker_169 hq.2.2 rfl ?_
          refine ab_iload d_OM_isNewTaker_172 rfl ?_
          refine zz_iconst d_OM_isNewTaker_174 ?_
          refine zz_iadd d_OM_isNewTaker_175 ?_
          refine zz_iald d_OM_isNewTaker_176 hra (by omega) ?_
          have hq25 := hr ((O x + 1 + 2 * u) + 1) (by omega) (by omega)
          obtain ⟨fsR, hR⟩ := pcsI_tkn.recv
          refine ab_callV (d' := d - 1) (as := [vz (RR (O x + 1 + 2 * u)), vz (RR ((O x + 1 + 2 * u) + 1))]) (st := []) (r := _) (c_CS_add (o := o) (r := tkn) (lr := 53) (lb := 54) (n := nt) (cnt := ct) (P := P) (lo := (RR (O x + 1 + 2 * u))) (hi := (RR ((O x + 1 + 2 * u) + 1))) pcsI_tkn (by omega) (by omega) (by omega) (by omega) (by omega)) (fun oc G2 h => by rcases h with ⟨_, _, _, _, h, _⟩ <;> exact ⟨_, h⟩) (by omega) m_CS_add ml_OM_97 im_CS_add se_CS_add c_CS hR (Nat.le_of_ble_eq_true rfl) d_OM_isNewTaker_177 rfl ?_
          intro v G26 hq
          rcases hq with ⟨o27, n228, c229, P230, hv, hfk, pNcsI_tkn, hq31, hq32, hq33, hq34⟩
          cases hv
          have ha := hfk.get ha (by decide)
          have hq := hfk.get hq (by simp only [List.mem_cons, List.not_mem_nil, or_false]; omega)
          have hki := hfk.get hki (by simp only [List.mem_cons, List.not_mem_nil, or_false]; omega)
          have hot := hfk.get hot (by simp only [List.mem_cons, List.not_mem_nil, or_false]; omega)
          have hra := hfk.get hra (by simp only [List.mem_cons, List.not_mem_nil, or_false]; omega)
          have pcsI_tkn := pNcsI_tkn
          have hfr := hfr.tr hfk (by decide)
          have hq35 := hfk.1
          change ab_W _ _ _ G26 180 [some (vR a), none, none, some (vz 1), some (vz bh), some (vz (O x + 1 + 2 * u))] [] _
          refine zz_iinc d_OM_isNewTaker_180 rfl (Nat.le_of_ble_eq_true rfl) (Nat.le_of_ble_eq_true rfl) rfl ?_
          change ab_W _ _ _ G26 183 [some (vR a), none, none, some (vz 1), some (vz bh), some (vz ((O x + 1 + 2 * u) + 2))] [] _
          refine ab_goto (tgt := 102) d_OM_isNewTaker_183 (by decide) ?_
          exact ih (nw := 1) (i_ := ((O x + 1 + 2 * u) + 2)) (u := (u + 1)) (nt := n228) (ct := c229) (P := P230) ha hq hki hot hra pcsI_tkn (by omega) (by omega) (by omega) (by omega) (by omega) (olfe_add jlf (Or.inr ⟨O x, u, hrec, by omega, by omega, rfl⟩) hq31) hfr (by omega) hk0
set_option maxRecDepth 100000 in
set_option maxHeartbeats 4000000 in
theorem z_OM_isNewTaker {X : ab_X} {d : Nat} {o : Nat → Nat} {G : ab_G} {a : Nat} {wk : Nat} {onw : Nat} {tkn : Nat} {se_ : Nat} {cle : Nat} {stk : Nat} {dp : Int} {fo : Int} {chn : Int} {hw : Int} {fy : Int} {stp : Int} {q : Nat} {lq : Nat} {ki : Nat} {ne : Nat} {ot : Nat} {cnt : Int} {fi : Int} {la : Int} {ra : Nat} {ru : Int} {gr : Int} {wi : Int} {sz : Int} {fl : Int} {ve : Int} {mi : Int} {na : Nat} {nl : Nat} {K : Int → Int} {N : Int → Int} {O : Int → Int} {RR : Int → Int} {nr : Nat} {sp0 : Value} {s0 : Value} {x : Int} {nt : Nat} {ct : Int} {P : Int → Prop} (ha : cc o G a 50 (ab_ob 3 [sp0, vR wk, vR onw, vR tkn, vR se_, vR cle, vR stk, vz dp, vz fo, vz chn, vR q, s0, vz hw, vz fy, vj stp])) (hq : cc o G q lq (ab_ob 5 [vR ki, vR ne, vR ot, vz cnt, vz fi, vz la, vR ra, vz ru, vz gr, vz wi, vz sz, vz fl, vz ve, vz mi, vR na, vR nl])) (hki : cc o G ki (lq + 1) (za 808 K)) (hot : cc o G ot (lq + 3) (za 808 O)) (hra : cc o G ra (lq + 4) (za nr RR)) (pcsI_tkn : csI o G tkn 53 54 nt ct P) (cq : 100 ≤ lq ∧ 0 ≤ cnt ∧ cnt ≤ 808 ∧ ↑nr ≤ (100000 : Int)) (hp : prok K N O RR cnt ↑nr wi) (hpu : prok K N O RR cnt ru wi) (hr : ∀ k : Int, 0 ≤ k → k < ↑nr → 0 ≤ RR k ∧ RR k ≤ 1114111) (cru : 0 ≤ ru ∧ ru ≤ ↑nr ∧ ru ≤ 50000) (cx : 0 ≤ x ∧ x < cnt ∧ K x ≤ 2) (hn : nt ≤ 104000) (jlf : olfe O RR cnt ru P) (rc : G.length + 1700 ≤ ab_n0 + room_1.cells) (rs : ab_slots G + 208000 ≤ room_1.slots + 2 * nt) (hd : 6 ≤ d) : ab_F X d y_OM_isNewTaker (.code y_OM_isNewTaker b_OM_isNewTaker 6 (some (.boolean))) [vR a, vz x] G (fun oc G2 => (∃ v : Int, oc = .returned (some (vz v)) ∧ G2 = G ∧ (0 ≤ v ∧ v ≤ 1)) ∨ (∃ o2 : Nat → Nat, ∃ v : Int, ∃ n2 : Nat, ∃ c2 : Int, ∃ P2 : Int → Prop, oc = .returned (some (vz v)) ∧ fx o o2 [53, 54] G G2 ∧ csI o2 G2 tkn 53 54 n2 c2 P2 ∧ (0 ≤ v ∧ v ≤ 1) ∧ (n2 ≤ 104000) ∧ (64 * G2.length + nt ≤ 64 * G.length + n2) ∧ (ab_slots G2 + 2 * nt ≤ ab_slots G + 2 * n2) ∧ (olfe O RR cnt ru P2))) := by
  refine ab_F_of (by decide +kernel) (Nat.le_of_ble_eq_true rfl) ?_
  obtain ⟨Q, hQ⟩ : ∃ z : Outcome → ab_G → Prop, z = (fun oc G2 => (∃ v : Int, oc = .returned (some (vz v)) ∧ G2 = G ∧ (0 ≤ v ∧ v ≤ 1)) ∨ (∃ o2 : Nat → Nat, ∃ v : Int, ∃ n2 : Nat, ∃ c2 : Int, ∃ P2 : Int → Prop, oc = .returned (some (vz v)) ∧ fx o o2 [53, 54] G G2 ∧ csI o2 G2 tkn 53 54 n2 c2 P2 ∧ (0 ≤ v ∧ v ≤ 1) ∧ (n2 ≤ 104000) ∧ (64 * G2.length + nt ≤ 64 * G.length + n2) ∧ (ab_slots G2 + 2 * nt ≤ ab_slots G + 2 * n2) ∧ (olfe O RR cnt ru P2))) := ⟨_, rfl⟩
  rw [← hQ]
  change ab_W X (ab_pl y_OM_isNewTaker b_OM_isNewTaker 6 (some (.boolean))) d G 0 [some (vR a), some (vz x), none, none, none, none] [] Q
  have hfr : fx o o [53, 54] G G := fx.rf
  refine ab_aload_n d_OM_isNewTaker_0 rfl ?_
  refine ab_getf (fs := [sp0, vR wk, vR onw, vR tkn, vR se_, vR cle, vR stk, vz dp, vz fo, vz chn, vR q, s0, vz hw, vz fy, vj stp]) f_OM_47 d_OM_isNewTaker_1 ha.2.2 rfl ?_
  refine ab_getf (fs := [vR ki, vR ne, vR ot, vz cnt, vz fi, vz la, vR ra, vz ru, vz gr, vz wi, vz sz, vz fl, vz ve, vz mi, vR na, vR nl]) f_OM_89 d_OM_isNewTaker_4 hq.2.2 rfl ?_
  refine ab_iload_n d_OM_isNewTaker_7 rfl ?_
  refine zz_iald d_OM_isNewTaker_8 hot (by omega) ?_
  refine ab_istore_n d_OM_isNewTaker_9 (Nat.le_of_ble_eq_true rfl) (Nat.le_of_ble_eq_true rfl) rfl ?_
  change ab_W _ _ _ G 10 [some (vR a), some (vz x), some (vz (O x)), none, none, none] [] _
  refine ab_aload_n d_OM_isNewTaker_10 rfl ?_
  refine ab_getf (fs := [sp0, vR wk, vR onw, vR tkn, vR se_, vR cle, vR stk, vz dp, vz fo, vz chn, vR q, s0, vz hw, vz fy, vj stp]) f_OM_47 d_OM_isNewTaker_11 ha.2.2 rfl ?_
  refine ab_getf (fs := [vR ki, vR ne, vR ot, vz cnt, vz fi, vz la, vR ra, vz ru, vz gr, vz wi, vz sz, vz fl, vz ve, vz mi, vR na, vR nl]) f_OM_83 d_OM_isNewTaker_14 hq.2.2 rfl ?_
  refine ab_iload_n d_OM_isNewTaker_17 rfl ?_
  refine zz_iald d_OM_isNewTaker_18 hki (by omega) ?_
  have hq1 := hp.k x (by omega) (by omega)
  refine zz_iconst d_OM_isNewTaker_19 ?_
  refine zz_icmp_ne (tgt := 39) d_OM_isNewTaker_20 (by decide) (by omega) (by decide) (fun c2 => ?_) (fun c2 => ?_)
  · refine ab_aload_n d_OM_isNewTaker_39 rfl ?_
    refine ab_getf (fs := [sp0, vR wk, vR onw, vR tkn, vR se_, vR cle, vR stk, vz dp, vz fo, vz chn, vR q, s0, vz hw, vz fy, vj stp]) f_OM_47 d_OM_isNewTaker_40 ha.2.2 rfl ?_
    refine ab_getf (fs := [vR ki, vR ne, vR ot, vz cnt, vz fi, vz la, vR ra, vz ru, vz gr, vz wi, vz sz, vz fl, vz ve, vz mi, vR na, vR nl]) f_OM_83 d_OM_isNewTaker_43 hq.2.2 rfl ?_
    refine ab_iload_n d_OM_isNewTaker_46 rfl ?_
    refine zz_iald d_OM_isNewTaker_47 hki (by omega) ?_
    have hq3 := hp.k x (by omega) (by omega)
    refine zz_if_ne (tgt := 80) d_OM_isNewTaker_48 (by decide) (by omega) (fun c4 => ?_) (fun c4 => ?_)
    · have hrec := hpu.o1 x (by omega) (by omega) (by omega)
      obtain ⟨hr0, hr1, hr2, _⟩ := id hrec
      refine zz_iconst d_OM_isNewTaker_80 ?_
      refine ab_istore_n d_OM_isNewTaker_81 (Nat.le_of_ble_eq_true rfl) (Nat.le_of_ble_eq_true rfl) rfl ?_
      change ab_W _ _ _ G 82 [some (vR a), some (vz x), some (vz (O x)), some (vz 1), none, none] [] _
      refine ab_iload_n d_OM_isNewTaker_82 rfl ?_
      refine zz_iconst d_OM_isNewTaker_83 ?_
      refine ab_aload_n d_OM_isNewTaker_84 rfl ?_
      refine ab_getf (fs := [sp0, vR wk, vR onw, vR tkn, vR se_, vR cle, vR stk, vz dp, vz fo, vz chn, vR q, s0, vz hw, vz fy, vj stp]) f_OM_47 d_OM_isNewTaker_85 ha.2.2 rfl ?_
      refine ab_getf (fs := [vR ki, vR ne, vR ot, vz cnt, vz fi, vz la, vR ra, vz ru, vz gr, vz wi, vz sz, vz fl, vz ve, vz mi, vR na, vR nl]) f_OM_101 d_OM_isNewTaker_88 hq.2.2 rfl ?_
      refine ab_iload_n d_OM_isNewTaker_91 rfl ?_
      refine zz_iald d_OM_isNewTaker_92 hra (by omega) ?_
      have hq5 := hr (O x) (by omega) (by omega)
      refine zz_imul d_OM_isNewTaker_93 ?_
      refine zz_iadd d_OM_isNewTaker_94 ?_
      refine ab_istore d_OM_isNewTaker_95 (Nat.le_of_ble_eq_true rfl) (Nat.le_of_ble_eq_true rfl) rfl ?_
      change ab_W _ _ _ G 97 [some (vR a), some (vz x), some (vz (O x)), some (vz 1), some (vz ((O x) + (2 * (RR (O x))))), none] [] _
      refine ab_iload_n d_OM_isNewTaker_97 rfl ?_
      refine zz_iconst d_OM_isNewTaker_98 ?_
      refine zz_iadd d_OM_isNewTaker_99 ?_
      refine ab_istore d_OM_isNewTaker_100 (Nat.le_of_ble_eq_true rfl) (Nat.le_of_ble_eq_true rfl) rfl ?_
      change ab_W _ _ _ G 102 [some (vR a), some (vz x), some (vz (O x)), some (vz 1), some (vz ((O x) + (2 * (RR (O x))))), some (vz ((O x) + 1))] [] _
      refine ab_less (L' := [some (vR a), none, none, some (vz 1), some (vz ((O x) + (2 * (RR (O x))))), some (vz ((O x) + 1))]) (fun i v h => by rcases i with _ | _ | _ | _ | _ | _ | i <;> first | exact h | (simp at h)) ?_
      refine y_OM_isNewTaker_102 (a := a) (wk := wk) (onw := onw) (tkn := tkn) (se_ := se_) (cle := cle) (stk := stk) (dp := dp) (fo := fo) (chn := chn) (hw := hw) (fy := fy) (stp := stp) (q := q) (lq := lq) (ki := ki) (ne := ne) (ot := ot) (cnt := cnt) (fi := fi) (la := la) (ra := ra) (ru := ru) (gr := gr) (wi := wi) (sz := sz) (fl := fl) (ve := ve) (mi := mi) (na := na) (nl := nl) (K := K) (O := O) (RR := RR) (nr := nr) (sp0 := sp0) (s0 := s0) (n0 := nt) (bh := ((O x) + (2 * (RR (O x))))) (nw := 1) (i_ := ((O x) + 1)) (u := 0) (nt := nt) (ct := ct) (P := P) (by omega) hr (by omega) (by omega) hrec (by omega) (by omega) (by omega) (by omega) (by omega) (Int.toNat (RR (O x) - 0) + 1) ha hq hki hot hra pcsI_tkn (by omega) (by omega) (by omega) (by omega) (by omega) jlf hfr (by omega) (fun G6 o7 nw28 n29 c210 P211 pcsI_tkn hq12 hq13 hq14 hq15 hq16 hfr => ?_)
      · change ab_W _ _ _ G6 186 [none, none, none, some (vz nw28), none, none] [] _
        refine ab_iload_n d_OM_isNewTaker_186 rfl ?_
        refine zz_bret rfl (by omega) d_OM_isNewTaker_187 ?_
        rw [hQ]; exact (Or.inr ⟨_, _, _, _, _, rfl, hfr, pcsI_tkn, (by omega), (by omega), (by omega), (by omega), (by exact hq16)⟩)
    · have ho0 := hp.o0 x (by omega) (by omega) (by omega)
      have hfew := pcsI_tkn.few jlf (by omega) (by omega)
      refine ab_aload_n d_OM_isNewTaker_51 rfl ?_
      refine ab_getf (fs := [sp0, vR wk, vR onw, vR tkn, vR se_, vR cle, vR stk, vz dp, vz fo, vz chn, vR q, s0, vz hw, vz fy, vj stp]) f_OM_24 d_OM_isNewTaker_52 ha.2.2 rfl ?_
      refine ab_iload_n d_OM_isNewTaker_55 rfl ?_
      refine ab_iload_n d_OM_isNewTaker_56 rfl ?_
      obtain ⟨fsR, hR⟩ := pcsI_tkn.recv
      refine ab_callV (d' := d - 1) (as := [vz (O x), vz (O x)]) (st := []) (r := _) (c_CS_meets (o := o) (r := tkn) (lr := 53) (lb := 54) (n := nt) (cnt := ct) (P := P) (lo := (O x)) (hi := (O x)) pcsI_tkn (by omega) (by omega)) (fun oc G2 h => by rcases h with ⟨h, _⟩ | ⟨h, _⟩ <;> exact ⟨_, h⟩) (by omega) m_CS_meets ml_OM_93 im_CS_meets se_CS_meets c_CS hR (Nat.le_of_ble_eq_true rfl) d_OM_isNewTaker_57 rfl ?_
      intro v G17 hq
      rcases hq with ⟨hv, hfk, hlk, hsk, pNcsI_tkn⟩ | ⟨hv, hfk, hlk, hsk, pNcsI_tkn⟩
      · cases hv
        have ha := hfk.get ha (by decide)
        have hq := hfk.get hq (by simp)
        have hki := hfk.get hki (by simp)
        have hot := hfk.get hot (by simp)
        have hra := hfk.get hra (by simp)
        have pcsI_tkn := pNcsI_tkn
        have hfr := hfr.tr hfk (by decide)
        have hq18 := hlk
        have hq19 := hsk
        change ab_W _ _ _ G17 60 [some (vR a), some (vz x), some (vz (O x)), none, none, none] [vz 1] _
        refine zz_if_ne (tgt := 67) d_OM_isNewTaker_60 (by decide) (by decide) (fun c22 => ?_) (fun c22 => absurd c22 (by decide))
        refine zz_iconst d_OM_isNewTaker_67 ?_
        refine ab_istore_n d_OM_isNewTaker_68 (Nat.le_of_ble_eq_true rfl) (Nat.le_of_ble_eq_true rfl) rfl ?_
        change ab_W _ _ _ G17 69 [some (vR a), some (vz x), some (vz (O x)), some (vz 0), none, none] [] _
        refine ab_aload_n d_OM_isNewTaker_69 rfl ?_
        refine ab_getf (fs := [sp0, vR wk, vR onw, vR tkn, vR se_, vR cle, vR stk, vz dp, vz fo, vz chn, vR q, s0, vz hw, vz fy, vj stp]) f_OM_24 d_OM_isNewTaker_70 ha.2.2 rfl ?_
        refine ab_iload_n d_OM_isNewTaker_73 rfl ?_
        refine ab_iload_n d_OM_isNewTaker_74 rfl ?_
        obtain ⟨fsR, hR⟩ := pcsI_tkn.recv
        refine ab_callV (d' := d - 1) (as := [vz (O x), vz (O x)]) (st := []) (r := _) (c_CS_add (o := o) (r := tkn) (lr := 53) (lb := 54) (n := nt) (cnt := ct) (P := P) (lo := (O x)) (hi := (O x)) pcsI_tkn (by omega) (by omega) (by omega) (by omega) (by omega)) (fun oc G2 h => by rcases h with ⟨_, _, _, _, h, _⟩ <;> exact ⟨_, h⟩) (by omega) m_CS_add ml_OM_97 im_CS_add se_CS_add c_CS hR (Nat.le_of_ble_eq_true rfl) d_OM_isNewTaker_75 rfl ?_
        intro v G23 hq
        rcases hq with ⟨o24, n225, c226, P227, hv, hfk, pNcsI_tkn, hq28, hq29, hq30, hq31⟩
        cases hv
        have ha := hfk.get ha (by decide)
        have hq := hfk.get hq (by simp only [List.mem_cons, List.not_mem_nil, or_false]; omega)
        have hki := hfk.get hki (by simp only [List.mem_cons, List.not_mem_nil, or_false]; omega)
        have hot := hfk.get hot (by simp only [List.mem_cons, List.not_mem_nil, or_false]; omega)
        have hra := hfk.get hra (by simp only [List.mem_cons, List.not_mem_nil, or_false]; omega)
        have pcsI_tkn := pNcsI_tkn
        have hfr := hfr.tr hfk (by decide)
        have hq32 := hfk.1
        change ab_W _ _ _ G23 78 [some (vR a), some (vz x), some (vz (O x)), some (vz 0), none, none] [] _
        refine ab_iload_n d_OM_isNewTaker_78 rfl ?_
        refine zz_bret rfl (by decide) d_OM_isNewTaker_79 ?_
        rw [hQ]; exact (Or.inr ⟨_, _, _, _, _, rfl, hfr, pcsI_tkn, (by omega), (by omega), (by omega), (by omega), (by exact olfe_add jlf (Or.inl ⟨x, by omega, by omega, rfl⟩) hq28)⟩)
      · cases hv
        have ha := hfk.get ha (by decide)
        have hq := hfk.get hq (by simp)
        have hki := hfk.get hki (by simp)
        have hot := hfk.get hot (by simp)
        have hra := hfk.get hra (by simp)
        have pcsI_tkn := pNcsI_tkn
        have hfr := hfr.tr hfk (by decide)
        have hq20 := hlk
        have hq21 := hsk
        change ab_W _ _ _ G17 60 [some (vR a), some (vz x), some (vz (O x)), none, none, none] [vz 0] _
        refine zz_if_ne (tgt := 67) d_OM_isNewTaker_60 (by decide) (by decide) (fun c33 => absurd c33 (by decide)) (fun c33 => ?_)
        refine zz_iconst d_OM_isNewTaker_63 ?_
        refine ab_goto (tgt := 68) d_OM_isNewTaker_64 (by decide) ?_
        refine ab_istore_n d_OM_isNewTaker_68 (Nat.le_of_ble_eq_true rfl) (Nat.le_of_ble_eq_true rfl) rfl ?_
        change ab_W _ _ _ G17 69 [some (vR a), some (vz x), some (vz (O x)), some (vz 1), none, none] [] _
        refine ab_aload_n d_OM_isNewTaker_69 rfl ?_
        refine ab_getf (fs := [sp0, vR wk, vR onw, vR tkn, vR se_, vR cle, vR stk, vz dp, vz fo, vz chn, vR q, s0, vz hw, vz fy, vj stp]) f_OM_24 d_OM_isNewTaker_70 ha.2.2 rfl ?_
        refine ab_iload_n d_OM_isNewTaker_73 rfl ?_
        refine ab_iload_n d_OM_isNewTaker_74 rfl ?_
        obtain ⟨fsR, hR⟩ := pcsI_tkn.recv
        refine ab_callV (d' := d - 1) (as := [vz (O x), vz (O x)]) (st := []) (r := _) (c_CS_add (o := o) (r := tkn) (lr := 53) (lb := 54) (n := nt) (cnt := ct) (P := P) (lo := (O x)) (hi := (O x)) pcsI_tkn (by omega) (by omega) (by omega) (by omega) (by omega)) (fun oc G2 h => by rcases h with ⟨_, _, _, _, h, _⟩ <;> exact ⟨_, h⟩) (by omega) m_CS_add ml_OM_97 im_CS_add se_CS_add c_CS hR (Nat.le_of_ble_eq_true rfl) d_OM_isNewTaker_75 rfl ?_
        intro v G34 hq
        rcases hq with ⟨o35, n236, c237, P238, hv, hfk, pNcsI_tkn, hq39, hq40, hq41, hq42⟩
        cases hv
        have ha := hfk.get ha (by decide)
        have hq := hfk.get hq (by simp only [List.mem_cons, List.not_mem_nil, or_false]; omega)
        have hki := hfk.get hki (by simp only [List.mem_cons, List.not_mem_nil, or_false]; omega)
        have hot := hfk.get hot (by simp only [List.mem_cons, List.not_mem_nil, or_false]; omega)
        have hra := hfk.get hra (by simp only [List.mem_cons, List.not_mem_nil, or_false]; omega)
        have pcsI_tkn := pNcsI_tkn
        have hfr := hfr.tr hfk (by decide)
        have hq43 := hfk.1
        change ab_W _ _ _ G34 78 [some (vR a), some (vz x), some (vz (O x)), some (vz 1), none, none] [] _
        refine ab_iload_n d_OM_isNewTaker_78 rfl ?_
        refine zz_bret rfl (by decide) d_OM_isNewTaker_79 ?_
        rw [hQ]; exact (Or.inr ⟨_, _, _, _, _, rfl, hfr, pcsI_tkn, (by omega), (by omega), (by omega), (by omega), (by exact olfe_add jlf (Or.inl ⟨x, by omega, by omega, rfl⟩) hq39)⟩)
  · refine ab_aload_n d_OM_isNewTaker_23 rfl ?_
    refine ab_getf (fs := [sp0, vR wk, vR onw, vR tkn, vR se_, vR cle, vR stk, vz dp, vz fo, vz chn, vR q, s0, vz hw, vz fy, vj stp]) f_OM_24 d_OM_isNewTaker_24 ha.2.2 rfl ?_
    obtain ⟨b_, f_, htk, hb_, hcan, hPm, hok, hl1, hl2, hl3⟩ := pcsI_tkn
    refine ab_getf (fs := [vR b_, vz ct]) f_OM_92 d_OM_isNewTaker_27 htk.2.2 rfl ?_
    refine zz_if_ne (tgt := 37) d_OM_isNewTaker_30 (by decide) (by omega) (fun c44 => ?_) (fun c44 => ?_)
    · refine zz_iconst d_OM_isNewTaker_37 ?_
      refine zz_bret rfl (by decide) d_OM_isNewTaker_38 ?_
      rw [hQ]; exact (Or.inl ⟨_, rfl, rfl, (by omega)⟩)
    · refine zz_iconst d_OM_isNewTaker_33 ?_
      refine ab_goto (tgt := 38) d_OM_isNewTaker_34 (by decide) ?_
      refine zz_bret rfl (by decide) d_OM_isNewTaker_38 ?_
      rw [hQ]; exact (Or.inl ⟨_, rfl, rfl, (by omega)⟩)
set_option maxRecDepth 100000 in
set_option maxHeartbeats 4000000 in
theorem y_OM_isClearFrom_30 {X : ab_X} {d : Nat} {Q : Outcome → ab_G → Prop} {o0 : Nat → Nat} {G0 : ab_G} {a : Nat} {wk : Nat} {onw : Nat} {tkn : Nat} {se_ : Nat} {cle : Nat} {stk : Nat} {fo : Int} {chn : Int} {hw : Int} {fy : Int} {q : Nat} {lq : Nat} {ki : Nat} {ne : Nat} {ot : Nat} {cnt : Int} {fi : Int} {la : Int} {ra : Nat} {ru : Int} {gr : Int} {wi : Int} {sz : Int} {fl : Int} {ve : Int} {mi : Int} {na : Nat} {nl : Nat} {K : Int → Int} {N : Int → Int} {O : Int → Int} {RR : Int → Int} {nr : Nat} {sp0 : Value} {s0 : Value} {CL : Int → Int} {b0 : Int} {SE0 : Int → Int} {n0 : Nat} (cq : 100 ≤ lq ∧ 0 ≤ cnt ∧ cnt ≤ 808 ∧ ↑nr ≤ (100000 : Int)) (hp : prok K N O RR cnt ↑nr wi) (hpu : prok K N O RR cnt ru wi) (hr : ∀ k : Int, 0 ≤ k → k < ↑nr → 0 ≤ RR k ∧ RR k ≤ 1114111) (cru : 0 ≤ ru ∧ ru ≤ ↑nr ∧ ru ≤ 50000) (ck9 : K 0 = 9) (cb : 0 ≤ b0 ∧ b0 < cnt) (rc : G0.length + 3400 ≤ ab_n0 + room_1.cells) (rs : ab_slots G0 + 208000 ≤ room_1.slots + 2 * n0) (hd : 7 ≤ d) : ∀ (mz : Nat) {G : ab_G} {o : Nat → Nat} {dp : Int} {stp : Int} {SK : Int → Int} {SE : Int → Int} {any_ : Int} {tu : Int} {nt : Nat} {ct : Int} {P : Int → Prop}, (cc o G a 50 (ab_ob 3 [sp0, vR wk, vR onw, vR tkn, vR se_, vR cle, vR stk, vz dp, vz fo, vz chn, vR q, s0, vz hw, vz fy, vj stp])) → (cc o G se_ 55 (za 808 SE)) → (cc o G stk 57 (za 809 SK)) → (cc o G q lq (ab_ob 5 [vR ki, vR ne, vR ot, vz cnt, vz fi, vz la, vR ra, vz ru, vz gr, vz wi, vz sz, vz fl, vz ve, vz mi, vR na, vR nl])) → (cc o G ki (lq + 1) (za 808 K)) → (cc o G ne (lq + 2) (za 808 N)) → (cc o G ot (lq + 3) (za 808 O)) → (cc o G ra (lq + 4) (za nr RR)) → (cc o G cle 56 (za 808 CL)) → (csI o G tkn 53 54 nt ct P) → (0 ≤ tu ∧ 0 ≤ dp ∧ 0 ≤ any_ ∧ any_ ≤ 1) → (rgs SE 808 (-1) 808) → (osame SE0 SE b0) → (oI K N O SE SK b0 cnt dp tu) → (nt ≤ 104000) → (64 * G.length + n0 ≤ 64 * G0.length + nt) → (ab_slots G + 2 * n0 ≤ ab_slots G0 + 2 * nt) → (olfe O RR cnt ru P) → (fx o0 o [50, 53, 54, 55, 56, 57] G0 G) → (Int.toNat (1616 - tu) < mz) → (∀ (G2 : ab_G) (o2 : Nat → Nat) (dp2 : Int) (st2 : Int) (SK2 : Int → Int) (SE2 : Int → Int) (n2 : Nat) (c2 : Int) (P2 : Int → Prop), (cc o2 G2 a 50 (ab_ob 3 [sp0, vR wk, vR onw, vR tkn, vR se_, vR cle, vR stk, vz dp2, vz fo, vz chn, vR q, s0, vz hw, vz fy, vj st2])) → (cc o2 G2 se_ 55 (za 808 SE2)) → (cc o2 G2 stk 57 (za 809 SK2)) → (cc o2 G2 cle 56 (za 808 CL)) → (csI o2 G2 tkn 53 54 n2 c2 P2) → (rgs SE2 808 (-1) 808) → (osame SE0 SE2 b0) → (n2 ≤ 104000) → (64 * G2.length + n0 ≤ 64 * G0.length + n2) → (ab_slots G2 + 2 * n0 ≤ ab_slots G0 + 2 * n2) → (fx o0 o2 [50, 53, 54, 55, 56, 57] G0 G2) → Q (.returned (some (vz 0))) G2) → (∀ (G2 : ab_G) (o2 : Nat → Nat) (dp2 : Int) (st2 : Int) (SK2 : Int → Int) (SE2 : Int → Int) (n2 : Nat) (c2 : Int) (P2 : Int → Prop), (cc o2 G2 a 50 (ab_ob 3 [sp0, vR wk, vR onw, vR tkn, vR se_, vR cle, vR stk, vz dp2, vz fo, vz chn, vR q, s0, vz hw, vz fy, vj st2])) → (cc o2 G2 se_ 55 (za 808 SE2)) → (cc o2 G2 stk 57 (za 809 SK2)) → (cc o2 G2 cle 56 (za 808 CL)) → (csI o2 G2 tkn 53 54 n2 c2 P2) → (rgs SE2 808 (-1) 808) → (osame SE0 SE2 b0) → (n2 ≤ 104000) → (64 * G2.length + n0 ≤ 64 * G0.length + n2) → (ab_slots G2 + 2 * n0 ≤ ab_slots G0 + 2 * n2) → (oclear K N O cnt b0) → (fx o0 o2 [50, 53, 54, 55, 56, 57] G0 G2) → Q (.returned (some (vz 1))) G2) → ab_W X (ab_pl y_OM_isClearFrom b_OM_isClearFrom 8 (some (.boolean))) d G 30 [some (vR a), some (vz b0), some (vz any_), some (vz tu), none, none, none, none] [] Q := by
  intro mz
  induction mz with
  | zero => intro G o dp stp SK SE any_ tu nt ct P ha hse_ hstk hq hki hne hot hra hcle pcsI_tkn ci jsr jsa jin hn hg hs jlf hfr hm hk0 hk1; exact absurd hm (Nat.not_lt_zero _)
  | succ mz ih =>
    intro G o dp stp SK SE any_ tu nt ct P ha hse_ hstk hq hki hne hot hra hcle pcsI_tkn ci jsr jsa jin hn hg hs jlf hfr hm hk0 hk1
    have hbq := jin.b ck9 (by omega)
    refine ab_iload_n d_OM_isClearFrom_30 rfl ?_
    refine zz_sipush d_OM_isClearFrom_31 (by decide) ?_
    refine zz_icmp_ge (tgt := 269) d_OM_isClearFrom_34 (by decide) (by omega) (by decide) (fun c1 => absurd c1 (by omega)) (fun c1 => ?_)
    refine ab_aload_n d_OM_isClearFrom_37 rfl ?_
    refine ab_getf (fs := [sp0, vR wk, vR onw, vR tkn, vR se_, vR cle, vR stk, vz dp, vz fo, vz chn, vR q, s0, vz hw, vz fy, vj stp]) f_OM_76 d_OM_isClearFrom_38 ha.2.2 rfl ?_
    refine zz_if_le (tgt := 269) d_OM_isClearFrom_41 (by decide) (by omega) (fun c2 => ?_) (fun c2 => ?_)
    · refine zz_iconst d_OM_isClearFrom_269 ?_
      refine zz_bret rfl (by decide) d_OM_isClearFrom_270 ?_
      exact hk1 _ _ _ _ _ _ _ _ _ ha hse_ hstk hcle pcsI_tkn (by first | exact jsr | exact rgs_w jsr (by omega)) (by exact jsa) (by omega) (by omega) (by omega) (by exact jin.fin ck9 (by omega) (by omega)) hfr
    · refine ab_aload_n d_OM_isClearFrom_44 rfl ?_
      refine ab_dup d_OM_isClearFrom_45 rfl ?_
      refine ab_getf (fs := [sp0, vR wk, vR onw, vR tkn, vR se_, vR cle, vR stk, vz dp, vz fo, vz chn, vR q, s0, vz hw, vz fy, vj stp]) f_OM_79 d_OM_isClearFrom_46 ha.2.2 rfl ?_
      refine zz_lconst d_OM_isClearFrom_49 ?_
      change ab_W _ _ _ G 50 [some (vR a), some (vz b0), some (vz any_), some (vz tu), none, none, none, none] [vj 1, vj stp, vR a] _
      refine zz_ladd d_OM_isClearFrom_50 ?_
      refine ab_putf (fs := [sp0, vR wk, vR onw, vR tkn, vR se_, vR cle, vR stk, vz dp, vz fo, vz chn, vR q, s0, vz hw, vz fy, vj stp]) f_OM_79 (Or.inl rfl) d_OM_isClearFrom_51 ha.2.2 (Nat.le_of_ble_eq_true rfl) (fun _ => ⟨rfl, rfl⟩) (ha.2.1 (by decide)) ?_
      obtain ⟨G3, eG3⟩ : ∃ z : ab_G, z = List.set G a (ab_ob 3 [sp0, vR wk, vR onw, vR tkn, vR se_, vR cle, vR stk, vz dp, vz fo, vz chn, vR q, s0, vz hw, vz fy, vj (stp + 1)]) := ⟨_, rfl⟩
      have hse_ := hse_.keep ha eG3 (by decide)
      have hstk := hstk.keep ha eG3 (by decide)
      have hq := hq.keep ha eG3 (by omega)
      have hki := hki.keep ha eG3 (by omega)
      have hne := hne.keep ha eG3 (by omega)
      have hot := hot.keep ha eG3 (by omega)
      have hra := hra.keep ha eG3 (by omega)
      have hcle := hcle.keep ha eG3 (by decide)
      have hst := (fx.rf (o := o) (S := [50]) (G := G)).wr ha eG3 (List.mem_singleton.mpr rfl)
      have pcsI_tkn := csI.fr hst pcsI_tkn (by decide) (by decide)
      have hq4 := z_len eG3
      have hq5 := z_sl ha eG3 rfl
      have hfr := hfr.wr ha eG3 (by decide)
      have ha := ha.kept eG3
      change ab_W _ _ _ (List.set G a (ab_ob 3 [sp0, vR wk, vR onw, vR tkn, vR se_, vR cle, vR stk, vz dp, vz fo, vz chn, vR q, s0, vz hw, vz fy, vj (stp + 1)])) 54 [some (vR a), some (vz b0), some (vz any_), some (vz tu), none, none, none, none] [] _
      rw [← eG3]
      refine ab_aload_n d_OM_isClearFrom_54 rfl ?_
      refine ab_dup d_OM_isClearFrom_55 rfl ?_
      refine ab_getf (fs := [sp0, vR wk, vR onw, vR tkn, vR se_, vR cle, vR stk, vz dp, vz fo, vz chn, vR q, s0, vz hw, vz fy, vj (stp + 1)]) f_OM_76 d_OM_isClearFrom_56 ha.2.2 rfl ?_
      refine zz_iconst d_OM_isClearFrom_59 ?_
      refine zz_isub d_OM_isClearFrom_60 ?_
      refine ab_putf (fs := [sp0, vR wk, vR onw, vR tkn, vR se_, vR cle, vR stk, vz dp, vz fo, vz chn, vR q, s0, vz hw, vz fy, vj (stp + 1)]) f_OM_76 (Or.inl rfl) d_OM_isClearFrom_61 ha.2.2 (Nat.le_of_ble_eq_true rfl) (fun _ => ⟨rfl, rfl⟩) (ha.2.1 (by decide)) ?_
      obtain ⟨G6, eG6⟩ : ∃ z : ab_G, z = List.set G3 a (ab_ob 3 [sp0, vR wk, vR onw, vR tkn, vR se_, vR cle, vR stk, vz (dp - 1), vz fo, vz chn, vR q, s0, vz hw, vz fy, vj (stp + 1)]) := ⟨_, rfl⟩
      have hse_ := hse_.keep ha eG6 (by decide)
      have hstk := hstk.keep ha eG6 (by decide)
      have hq := hq.keep ha eG6 (by omega)
      have hki := hki.keep ha eG6 (by omega)
      have hne := hne.keep ha eG6 (by omega)
      have hot := hot.keep ha eG6 (by omega)
      have hra := hra.keep ha eG6 (by omega)
      have hcle := hcle.keep ha eG6 (by decide)
      have hst := (fx.rf (o := o) (S := [50]) (G := G3)).wr ha eG6 (List.mem_singleton.mpr rfl)
      have pcsI_tkn := csI.fr hst pcsI_tkn (by decide) (by decide)
      have hq7 := z_len eG6
      have hq8 := z_sl ha eG6 rfl
      have hfr := hfr.wr ha eG6 (by decide)
      have ha := ha.kept eG6
      change ab_W _ _ _ (List.set G3 a (ab_ob 3 [sp0, vR wk, vR onw, vR tkn, vR se_, vR cle, vR stk, vz (dp - 1), vz fo, vz chn, vR q, s0, vz hw, vz fy, vj (stp + 1)])) 64 [some (vR a), some (vz b0), some (vz any_), some (vz tu), none, none, none, none] [] _
      rw [← eG6]
      refine ab_aload_n d_OM_isClearFrom_64 rfl ?_
      refine ab_getf (fs := [sp0, vR wk, vR onw, vR tkn, vR se_, vR cle, vR stk, vz (dp - 1), vz fo, vz chn, vR q, s0, vz hw, vz fy, vj (stp + 1)]) f_OM_34 d_OM_isClearFrom_65 ha.2.2 rfl ?_
      refine ab_aload_n d_OM_isClearFrom_68 rfl ?_
      refine ab_getf (fs := [sp0, vR wk, vR onw, vR tkn, vR se_, vR cle, vR stk, vz (dp - 1), vz fo, vz chn, vR q, s0, vz hw, vz fy, vj (stp + 1)]) f_OM_76 d_OM_isClearFrom_69 ha.2.2 rfl ?_
      refine zz_iald d_OM_isClearFrom_72 hstk (by omega) ?_
      have hxr := jin.x (by omega)
      obtain ⟨x_, hx_⟩ : ∃ z : Int, z = SK (dp - 1) := ⟨_, rfl⟩
      rw [← hx_] at hxr ⊢
      change ab_W _ _ _ G6 73 [some (vR a), some (vz b0), some (vz any_), some (vz tu), none, none, none, none] [vz x_] _
      refine ab_istore d_OM_isClearFrom_73 (Nat.le_of_ble_eq_true rfl) (Nat.le_of_ble_eq_true rfl) rfl ?_
      change ab_W _ _ _ G6 75 [some (vR a), some (vz b0), some (vz any_), some (vz tu), some (vz x_), none, none, none] [] _
      refine ab_aload_n d_OM_isClearFrom_75 rfl ?_
      refine ab_getf (fs := [sp0, vR wk, vR onw, vR tkn, vR se_, vR cle, vR stk, vz (dp - 1), vz fo, vz chn, vR q, s0, vz hw, vz fy, vj (stp + 1)]) f_OM_47 d_OM_isClearFrom_76 ha.2.2 rfl ?_
      refine ab_getf (fs := [vR ki, vR ne, vR ot, vz cnt, vz fi, vz la, vR ra, vz ru, vz gr, vz wi, vz sz, vz fl, vz ve, vz mi, vR na, vR nl]) f_OM_83 d_OM_isClearFrom_79 hq.2.2 rfl ?_
      refine ab_iload d_OM_isClearFrom_82 rfl ?_
      refine zz_iald d_OM_isClearFrom_84 hki (by omega) ?_
      have hq9 := hp.k x_ (by omega) (by omega)
      refine ab_istore d_OM_isClearFrom_85 (Nat.le_of_ble_eq_true rfl) (Nat.le_of_ble_eq_true rfl) rfl ?_
      change ab_W _ _ _ G6 87 [some (vR a), some (vz b0), some (vz any_), some (vz tu), some (vz x_), some (vz (K x_)), none, none] [] _
      refine ab_aload_n d_OM_isClearFrom_87 rfl ?_
      refine ab_getf (fs := [sp0, vR wk, vR onw, vR tkn, vR se_, vR cle, vR stk, vz (dp - 1), vz fo, vz chn, vR q, s0, vz hw, vz fy, vj (stp + 1)]) f_OM_28 d_OM_isClearFrom_88 ha.2.2 rfl ?_
      refine ab_iload d_OM_isClearFrom_91 rfl ?_
      refine zz_iald d_OM_isClearFrom_93 hse_ (by omega) ?_
      have hq10 := jsr x_ (by omega) (by omega)
      refine ab_iload_n d_OM_isClearFrom_94 rfl ?_
      refine zz_icmp_ne (tgt := 109) d_OM_isClearFrom_95 (by decide) (by omega) (by omega) (fun c11 => ?_) (fun c11 => ?_)
      · refine zz_iconst d_OM_isClearFrom_109 ?_
        refine ab_istore d_OM_isClearFrom_110 (Nat.le_of_ble_eq_true rfl) (Nat.le_of_ble_eq_true rfl) rfl ?_
        change ab_W _ _ _ G6 112 [some (vR a), some (vz b0), some (vz any_), some (vz tu), some (vz x_), some (vz (K x_)), some (vz 0), none] [] _
        refine ab_aload_n d_OM_isClearFrom_112 rfl ?_
        refine ab_getf (fs := [sp0, vR wk, vR onw, vR tkn, vR se_, vR cle, vR stk, vz (dp - 1), vz fo, vz chn, vR q, s0, vz hw, vz fy, vj (stp + 1)]) f_OM_47 d_OM_isClearFrom_113 ha.2.2 rfl ?_
        refine ab_iload d_OM_isClearFrom_116 rfl ?_
        refine ab_callV (d' := d - 1) (as := [vz x_]) (st := []) (r := _) (zq_PR_takes (o := o) (q := q) (lq := lq) (ki := ki) (ne := ne) (ot := ot) (cnt := cnt) (fi := fi) (la := la) (ra := ra) (ru := ru) (gr := gr) (wi := wi) (sz := sz) (fl := fl) (ve := ve) (mi := mi) (na := na) (nl := nl) (K := K) (x := x_) hq hki (by omega) hp (by omega)) (fun oc G2 h => by rcases h with ⟨h, _⟩ | ⟨h, _⟩ <;> exact ⟨_, h⟩) (by omega) m_PR_takes ml_OM_70 im_PR_takes se_PR_takes c_PR hq.2.2 (Nat.le_of_ble_eq_true rfl) d_OM_isClearFrom_118 rfl ?_
        intro v G12 hq
        rcases hq with ⟨hv, hGe, hq13⟩ | ⟨hv, hGe, hq14⟩
        · cases hv
          rw [hGe]
          change ab_W _ _ _ G6 121 [some (vR a), some (vz b0), some (vz any_), some (vz tu), some (vz x_), some (vz (K x_)), some (vz 0), none] [vz 1] _
          refine zz_if_eq (tgt := 141) d_OM_isClearFrom_121 (by decide) (by decide) (fun c15 => absurd c15 (by decide)) (fun c15 => ?_)
          refine ab_iload_n d_OM_isClearFrom_124 rfl ?_
          refine zz_if_ne (tgt := 137) d_OM_isClearFrom_125 (by decide) (by omega) (fun c16 => ?_) (fun c16 => ?_)
          · refine zz_iconst d_OM_isClearFrom_137 ?_
            refine ab_goto (tgt := 142) d_OM_isClearFrom_138 (by decide) ?_
            refine ab_istore d_OM_isClearFrom_142 (Nat.le_of_ble_eq_true rfl) (Nat.le_of_ble_eq_true rfl) rfl ?_
            change ab_W _ _ _ G6 144 [some (vR a), some (vz b0), some (vz any_), some (vz tu), some (vz x_), some (vz (K x_)), some (vz 0), some (vz 1)] [] _
            refine ab_iload d_OM_isClearFrom_144 rfl ?_
            refine zz_if_ne (tgt := 154) d_OM_isClearFrom_146 (by decide) (by decide) (fun c17 => absurd c17 (by decide)) (fun c17 => ?_)
            refine ab_iload d_OM_isClearFrom_149 rfl ?_
            refine zz_if_eq (tgt := 156) d_OM_isClearFrom_151 (by decide) (by decide) (fun c18 => absurd c18 (by decide)) (fun c18 => ?_)
            refine zz_iconst d_OM_isClearFrom_154 ?_
            refine zz_bret rfl (by decide) d_OM_isClearFrom_155 ?_
            exact hk0 _ _ _ _ _ _ _ _ _ ha hse_ hstk hcle pcsI_tkn (by first | exact jsr | exact rgs_w jsr (by omega)) (by exact jsa) (by omega) (by omega) (by omega) hfr
          · refine ab_aload_n d_OM_isClearFrom_128 rfl ?_
            refine ab_iload d_OM_isClearFrom_129 rfl ?_
            refine ab_callV (d' := d - 1) (as := [vz x_]) (st := []) (r := _) (z_OM_isNewTaker (o := o) (a := a) (wk := wk) (onw := onw) (tkn := tkn) (se_ := se_) (cle := cle) (stk := stk) (dp := (dp - 1)) (fo := fo) (chn := chn) (hw := hw) (fy := fy) (stp := (stp + 1)) (q := q) (lq := lq) (ki := ki) (ne := ne) (ot := ot) (cnt := cnt) (fi := fi) (la := la) (ra := ra) (ru := ru) (gr := gr) (wi := wi) (sz := sz) (fl := fl) (ve := ve) (mi := mi) (na := na) (nl := nl) (K := K) (O := O) (RR := RR) (nr := nr) (sp0 := sp0) (s0 := s0) (x := x_) (nt := nt) (ct := ct) (P := P) ha hq hki hot hra pcsI_tkn (by omega) hp hpu hr (by omega) (by omega) (by omega) jlf (by omega) (by omega) (by omega)) (fun oc G2 h => by rcases h with ⟨_, h, _⟩ | ⟨_, _, _, _, _, h, _⟩ <;> exact ⟨_, h⟩) (by omega) m_OM_isNewTaker ml_OM_86 im_OM_isNewTaker se_OM_isNewTaker c_OM ha.2.2 (Nat.le_of_ble_eq_true rfl) d_OM_isClearFrom_131 rfl ?_
            intro v G19 hq
            rcases hq with ⟨v20, hv, hGe, hq21⟩ | ⟨o22, v23, n224, c225, P226, hv, hfk, pNcsI_tkn, hq27, hq28, hq29, hq30, hq31⟩
            · cases hv
              rw [hGe]
              change ab_W _ _ _ G6 134 [some (vR a), some (vz b0), some (vz any_), some (vz tu), some (vz x_), some (vz (K x_)), some (vz 0), none] [vz v20] _
              refine zz_if_ne (tgt := 141) d_OM_isClearFrom_134 (by decide) (by omega) (fun c33 => ?_) (fun c33 => ?_)
              · refine zz_iconst d_OM_isClearFrom_141 ?_
                refine ab_istore d_OM_isClearFrom_142 (Nat.le_of_ble_eq_true rfl) (Nat.le_of_ble_eq_true rfl) rfl ?_
                change ab_W _ _ _ G6 144 [some (vR a), some (vz b0), some (vz any_), some (vz tu), some (vz x_), some (vz (K x_)), some (vz 0), some (vz 0)] [] _
                refine ab_iload d_OM_isClearFrom_144 rfl ?_
                refine zz_if_ne (tgt := 154) d_OM_isClearFrom_146 (by decide) (by decide) (fun c34 => absurd c34 (by decide)) (fun c34 => ?_)
                refine ab_iload d_OM_isClearFrom_149 rfl ?_
                refine zz_if_eq (tgt := 156) d_OM_isClearFrom_151 (by decide) (by decide) (fun c35 => ?_) (fun c35 => absurd c35 (by decide))
                refine ab_aload_n d_OM_isClearFrom_156 rfl ?_
                refine ab_getf (fs := [sp0, vR wk, vR onw, vR tkn, vR se_, vR cle, vR stk, vz (dp - 1), vz fo, vz chn, vR q, s0, vz hw, vz fy, vj (stp + 1)]) f_OM_28 d_OM_isClearFrom_157 ha.2.2 rfl ?_
                refine ab_iload d_OM_isClearFrom_160 rfl ?_
                refine ab_iload_n d_OM_isClearFrom_162 rfl ?_
                refine zz_iast d_OM_isClearFrom_163 hse_ (by omega) (hse_.2.1 (by decide)) ?_
                obtain ⟨G36, eG36⟩ : ∃ z : ab_G, z = List.set G6 se_ (za 808 (zu SE x_ b0)) := ⟨_, rfl⟩
                have ha := ha.keep hse_ eG36 (by decide)
                have hstk := hstk.keep hse_ eG36 (by decide)
                have hq := hq.keep hse_ eG36 (by omega)
                have hki := hki.keep hse_ eG36 (by omega)
                have hne := hne.keep hse_ eG36 (by omega)
                have hot := hot.keep hse_ eG36 (by omega)
                have hra := hra.keep hse_ eG36 (by omega)
                have hcle := hcle.keep hse_ eG36 (by decide)
                have hst := (fx.rf (o := o) (S := [55]) (G := G6)).wr hse_ eG36 (List.mem_singleton.mpr rfl)
                have pcsI_tkn := csI.fr hst pcsI_tkn (by decide) (by decide)
                have hq37 := z_len eG36
                have hq38 := z_sl hse_ eG36 rfl
                have hfr := hfr.wr hse_ eG36 (by decide)
                have hse_ := hse_.kept eG36
                change ab_W _ _ _ (List.set G6 se_ (za 808 (zu SE x_ b0))) 164 [some (vR a), some (vz b0), some (vz any_), some (vz tu), some (vz x_), some (vz (K x_)), some (vz 0), some (vz 0)] [] _
                rw [← eG36]
                refine ab_iload_n d_OM_isClearFrom_164 rfl ?_
                refine ab_iload d_OM_isClearFrom_165 rfl ?_
                refine zz_iconst d_OM_isClearFrom_167 ?_
                refine zz_icmp_ne (tgt := 175) d_OM_isClearFrom_168 (by decide) (by omega) (by decide) (fun c39 => ?_) (fun c39 => ?_)
                · refine zz_iconst d_OM_isClearFrom_175 ?_
                  refine zz_ior01 d_OM_isClearFrom_176 (by omega) (by omega) ?_
                  obtain ⟨v40, hv40⟩ : ∃ z : Int, z = (max any_ 0) := ⟨_, rfl⟩
                  rw [← hv40]
                  have hv40b : v40 = 0 ∨ v40 = 1 := by omega
                  change ab_W _ _ _ G36 177 [some (vR a), some (vz b0), some (vz any_), some (vz tu), some (vz x_), some (vz (K x_)), some (vz 0), some (vz 0)] [vz v40] _
                  refine ab_istore_n d_OM_isClearFrom_177 (Nat.le_of_ble_eq_true rfl) (Nat.le_of_ble_eq_true rfl) rfl ?_
                  change ab_W _ _ _ G36 178 [some (vR a), some (vz b0), some (vz v40), some (vz tu), some (vz x_), some (vz (K x_)), some (vz 0), some (vz 0)] [] _
                  refine ab_iload d_OM_isClearFrom_178 rfl ?_
                  refine zz_bipush d_OM_isClearFrom_180 (by decide) ?_
                  refine zz_icmp_ne (tgt := 214) d_OM_isClearFrom_182 (by decide) (by omega) (by decide) (fun c41 => ?_) (fun c41 => absurd c41 (by omega))
                  refine ab_iload d_OM_isClearFrom_214 rfl ?_
                  refine zz_bipush d_OM_isClearFrom_216 (by decide) ?_
                  refine zz_icmp_eq (tgt := 234) d_OM_isClearFrom_218 (by decide) (by omega) (by decide) (fun c42 => absurd c42 (by omega)) (fun c42 => ?_)
                  refine ab_iload d_OM_isClearFrom_221 rfl ?_
                  refine zz_bipush d_OM_isClearFrom_223 (by decide) ?_
                  refine zz_icmp_eq (tgt := 234) d_OM_isClearFrom_225 (by decide) (by omega) (by decide) (fun c43 => absurd c43 (by omega)) (fun c43 => ?_)
                  refine ab_iload d_OM_isClearFrom_228 rfl ?_
                  refine zz_iconst d_OM_isClearFrom_230 ?_
                  refine zz_icmp_ne (tgt := 263) d_OM_isClearFrom_231 (by decide) (by omega) (by decide) (fun c44 => ?_) (fun c44 => absurd c44 (by omega))
                  refine zz_iinc d_OM_isClearFrom_263 rfl (Nat.le_of_ble_eq_true rfl) (Nat.le_of_ble_eq_true rfl) rfl ?_
                  change ab_W _ _ _ G36 266 [some (vR a), some (vz b0), some (vz v40), some (vz (tu + 1)), some (vz x_), some (vz (K x_)), some (vz 0), some (vz 0)] [] _
                  refine ab_goto (tgt := 30) d_OM_isClearFrom_266 (by decide) ?_
                  refine ab_less (L' := [some (vR a), some (vz b0), some (vz v40), some (vz (tu + 1)), none, none, none, none]) (fun i v h => by rcases i with _ | _ | _ | _ | _ | _ | _ | _ | i <;> first | exact h | (simp at h)) ?_
                  exact ih (dp := (dp - 1)) (stp := (stp + 1)) (SK := SK) (SE := (zu SE x_ b0)) (any_ := v40) (tu := (tu + 1)) (nt := nt) (ct := ct) (P := P) ha hse_ hstk hq hki hne hot hra hcle pcsI_tkn (by omega) (rgs_zu jsr (by omega)) (osame_s jsa) (oI_leaf jin (by omega) hx_ (by omega) (by omega)) (by omega) (by omega) (by omega) jlf hfr (by omega) hk0 hk1
                · refine zz_iconst d_OM_isClearFrom_171 ?_
                  refine ab_goto (tgt := 176) d_OM_isClearFrom_172 (by decide) ?_
                  refine zz_ior01 d_OM_isClearFrom_176 (by omega) (by omega) ?_
                  obtain ⟨v45, hv45⟩ : ∃ z : Int, z = (max any_ 1) := ⟨_, rfl⟩
                  rw [← hv45]
                  have hv45b : v45 = 0 ∨ v45 = 1 := by omega
                  change ab_W _ _ _ G36 177 [some (vR a), some (vz b0), some (vz any_), some (vz tu), some (vz x_), some (vz (K x_)), some (vz 0), some (vz 0)] [vz v45] _
                  refine ab_istore_n d_OM_isClearFrom_177 (Nat.le_of_ble_eq_true rfl) (Nat.le_of_ble_eq_true rfl) rfl ?_
                  change ab_W _ _ _ G36 178 [some (vR a), some (vz b0), some (vz v45), some (vz tu), some (vz x_), some (vz (K x_)), some (vz 0), some (vz 0)] [] _
                  refine ab_iload d_OM_isClearFrom_178 rfl ?_
                  refine zz_bipush d_OM_isClearFrom_180 (by decide) ?_
                  refine zz_icmp_ne (tgt := 214) d_OM_isClearFrom_182 (by decide) (by omega) (by decide) (fun c46 => ?_) (fun c46 => absurd c46 (by omega))
                  refine ab_iload d_OM_isClearFrom_214 rfl ?_
                  refine zz_bipush d_OM_isClearFrom_216 (by decide) ?_
                  refine zz_icmp_eq (tgt := 234) d_OM_isClearFrom_218 (by decide) (by omega) (by decide) (fun c47 => absurd c47 (by omega)) (fun c47 => ?_)
                  refine ab_iload d_OM_isClearFrom_221 rfl ?_
                  refine zz_bipush d_OM_isClearFrom_223 (by decide) ?_
                  refine zz_icmp_eq (tgt := 234) d_OM_isClearFrom_225 (by decide) (by omega) (by decide) (fun c48 => absurd c48 (by omega)) (fun c48 => ?_)
                  refine ab_iload d_OM_isClearFrom_228 rfl ?_
                  refine zz_iconst d_OM_isClearFrom_230 ?_
                  refine zz_icmp_ne (tgt := 263) d_OM_isClearFrom_231 (by decide) (by omega) (by decide) (fun c49 => ?_) (fun c49 => absurd c49 (by omega))
                  refine zz_iinc d_OM_isClearFrom_263 rfl (Nat.le_of_ble_eq_true rfl) (Nat.le_of_ble_eq_true rfl) rfl ?_
                  change ab_W _ _ _ G36 266 [some (vR a), some (vz b0), some (vz v45), some (vz (tu + 1)), some (vz x_), some (vz (K x_)), some (vz 0), some (vz 0)] [] _
                  refine ab_goto (tgt := 30) d_OM_isClearFrom_266 (by decide) ?_
                  refine ab_less (L' := [some (vR a), some (vz b0), some (vz v45), some (vz (tu + 1)), none, none, none, none]) (fun i v h => by rcases i with _ | _ | _ | _ | _ | _ | _ | _ | i <;> first | exact h | (simp at h)) ?_
                  exact ih (dp := (dp - 1)) (stp := (stp + 1)) (SK := SK) (SE := (zu SE x_ b0)) (any_ := v45) (tu := (tu + 1)) (nt := nt) (ct := ct) (P := P) ha hse_ hstk hq hki hne hot hra hcle pcsI_tkn (by omega) (rgs_zu jsr (by omega)) (osame_s jsa) (oI_leaf jin (by omega) hx_ (by omega) (by omega)) (by omega) (by omega) (by omega) jlf hfr (by omega) hk0 hk1
              · refine zz_iconst d_OM_isClearFrom_137 ?_
                refine ab_goto (tgt := 142) d_OM_isClearFrom_138 (by decide) ?_
                refine ab_istore d_OM_isClearFrom_142 (Nat.le_of_ble_eq_true rfl) (Nat.le_of_ble_eq_true rfl) rfl ?_
                change ab_W _ _ _ G6 144 [some (vR a), some (vz b0), some (vz any_), some (vz tu), some (vz x_), some (vz (K x_)), some (vz 0), some (vz 1)] [] _
                refine ab_iload d_OM_isClearFrom_144 rfl ?_
                refine zz_if_ne (tgt := 154) d_OM_isClearFrom_146 (by decide) (by decide) (fun c50 => absurd c50 (by decide)) (fun c50 => ?_)
                refine ab_iload d_OM_isClearFrom_149 rfl ?_
                refine zz_if_eq (tgt := 156) d_OM_isClearFrom_151 (by decide) (by decide) (fun c51 => absurd c51 (by decide)) (fun c51 => ?_)
                refine zz_iconst d_OM_isClearFrom_154 ?_
                refine zz_bret rfl (by decide) d_OM_isClearFrom_155 ?_
                exact hk0 _ _ _ _ _ _ _ _ _ ha hse_ hstk hcle pcsI_tkn (by first | exact jsr | exact rgs_w jsr (by omega)) (by exact jsa) (by omega) (by omega) (by omega) hfr
            · cases hv
              have ha := hfk.get ha (by decide)
              have hse_ := hfk.get hse_ (by decide)
              have hstk := hfk.get hstk (by decide)
              have hq := hfk.get hq (by simp only [List.mem_cons, List.not_mem_nil, or_false]; omega)
              have hki := hfk.get hki (by simp only [List.mem_cons, List.not_mem_nil, or_false]; omega)
              have hne := hfk.get hne (by simp only [List.mem_cons, List.not_mem_nil, or_false]; omega)
              have hot := hfk.get hot (by simp only [List.mem_cons, List.not_mem_nil, or_false]; omega)
              have hra := hfk.get hra (by simp only [List.mem_cons, List.not_mem_nil, or_false]; omega)
              have hcle := hfk.get hcle (by decide)
              have pcsI_tkn := pNcsI_tkn
              have hfr := hfr.tr hfk (by decide)
              have hq32 := hfk.1
              change ab_W _ _ _ G19 134 [some (vR a), some (vz b0), some (vz any_), some (vz tu), some (vz x_), some (vz (K x_)), some (vz 0), none] [vz v23] _
              refine zz_if_ne (tgt := 141) d_OM_isClearFrom_134 (by decide) (by omega) (fun c52 => ?_) (fun c52 => ?_)
              · refine zz_iconst d_OM_isClearFrom_141 ?_
                refine ab_istore d_OM_isClearFrom_142 (Nat.le_of_ble_eq_true rfl) (Nat.le_of_ble_eq_true rfl) rfl ?_
                change ab_W _ _ _ G19 144 [some (vR a), some (vz b0), some (vz any_), some (vz tu), some (vz x_), some (vz (K x_)), some (vz 0), some (vz 0)] [] _
                refine ab_iload d_OM_isClearFrom_144 rfl ?_
                refine zz_if_ne (tgt := 154) d_OM_isClearFrom_146 (by decide) (by decide) (fun c53 => absurd c53 (by decide)) (fun c53 => ?_)
                refine ab_iload d_OM_isClearFrom_149 rfl ?_
                refine zz_if_eq (tgt := 156) d_OM_isClearFrom_151 (by decide) (by decide) (fun c54 => ?_) (fun c54 => absurd c54 (by decide))
                refine ab_aload_n d_OM_isClearFrom_156 rfl ?_
                refine ab_getf (fs := [sp0, vR wk, vR onw, vR tkn, vR se_, vR cle, vR stk, vz (dp - 1), vz fo, vz chn, vR q, s0, vz hw, vz fy, vj (stp + 1)]) f_OM_28 d_OM_isClearFrom_157 ha.2.2 rfl ?_
                refine ab_iload d_OM_isClearFrom_160 rfl ?_
                refine ab_iload_n d_OM_isClearFrom_162 rfl ?_
                refine zz_iast d_OM_isClearFrom_163 hse_ (by omega) (hse_.2.1 (by decide)) ?_
                obtain ⟨G55, eG55⟩ : ∃ z : ab_G, z = List.set G19 se_ (za 808 (zu SE x_ b0)) := ⟨_, rfl⟩
                have ha := ha.keep hse_ eG55 (by decide)
                have hstk := hstk.keep hse_ eG55 (by decide)
                have hq := hq.keep hse_ eG55 (by omega)
                have hki := hki.keep hse_ eG55 (by omega)
                have hne := hne.keep hse_ eG55 (by omega)
                have hot := hot.keep hse_ eG55 (by omega)
                have hra := hra.keep hse_ eG55 (by omega)
                have hcle := hcle.keep hse_ eG55 (by decide)
                have hst := (fx.rf (o := o22) (S := [55]) (G := G19)).wr hse_ eG55 (List.mem_singleton.mpr rfl)
                have pcsI_tkn := csI.fr hst pcsI_tkn (by decide) (by decide)
                have hq56 := z_len eG55
                have hq57 := z_sl hse_ eG55 rfl
                have hfr := hfr.wr hse_ eG55 (by decide)
                have hse_ := hse_.kept eG55
                change ab_W _ _ _ (List.set G19 se_ (za 808 (zu SE x_ b0))) 164 [some (vR a), some (vz b0), some (vz any_), some (vz tu), some (vz x_), some (vz (K x_)), some (vz 0), some (vz 0)] [] _
                rw [← eG55]
                refine ab_iload_n d_OM_isClearFrom_164 rfl ?_
                refine ab_iload d_OM_isClearFrom_165 rfl ?_
                refine zz_iconst d_OM_isClearFrom_167 ?_
                refine zz_icmp_ne (tgt := 175) d_OM_isClearFrom_168 (by decide) (by omega) (by decide) (fun c58 => ?_) (fun c58 => ?_)
                · refine zz_iconst d_OM_isClearFrom_175 ?_
                  refine zz_ior01 d_OM_isClearFrom_176 (by omega) (by omega) ?_
                  obtain ⟨v59, hv59⟩ : ∃ z : Int, z = (max any_ 0) := ⟨_, rfl⟩
                  rw [← hv59]
                  have hv59b : v59 = 0 ∨ v59 = 1 := by omega
                  change ab_W _ _ _ G55 177 [some (vR a), some (vz b0), some (vz any_), some (vz tu), some (vz x_), some (vz (K x_)), some (vz 0), some (vz 0)] [vz v59] _
                  refine ab_istore_n d_OM_isClearFrom_177 (Nat.le_of_ble_eq_true rfl) (Nat.le_of_ble_eq_true rfl) rfl ?_
                  change ab_W _ _ _ G55 178 [some (vR a), some (vz b0), some (vz v59), some (vz tu), some (vz x_), some (vz (K x_)), some (vz 0), some (vz 0)] [] _
                  refine ab_iload d_OM_isClearFrom_178 rfl ?_
                  refine zz_bipush d_OM_isClearFrom_180 (by decide) ?_
                  refine zz_icmp_ne (tgt := 214) d_OM_isClearFrom_182 (by decide) (by omega) (by decide) (fun c60 => ?_) (fun c60 => absurd c60 (by omega))
                  refine ab_iload d_OM_isClearFrom_214 rfl ?_
                  refine zz_bipush d_OM_isClearFrom_216 (by decide) ?_
                  refine zz_icmp_eq (tgt := 234) d_OM_isClearFrom_218 (by decide) (by omega) (by decide) (fun c61 => absurd c61 (by omega)) (fun c61 => ?_)
                  refine ab_iload d_OM_isClearFrom_221 rfl ?_
                  refine zz_bipush d_OM_isClearFrom_223 (by decide) ?_
                  refine zz_icmp_eq (tgt := 234) d_OM_isClearFrom_225 (by decide) (by omega) (by decide) (fun c62 => absurd c62 (by omega)) (fun c62 => ?_)
                  refine ab_iload d_OM_isClearFrom_228 rfl ?_
                  refine zz_iconst d_OM_isClearFrom_230 ?_
                  refine zz_icmp_ne (tgt := 263) d_OM_isClearFrom_231 (by decide) (by omega) (by decide) (fun c63 => ?_) (fun c63 => absurd c63 (by omega))
                  refine zz_iinc d_OM_isClearFrom_263 rfl (Nat.le_of_ble_eq_true rfl) (Nat.le_of_ble_eq_true rfl) rfl ?_
                  change ab_W _ _ _ G55 266 [some (vR a), some (vz b0), some (vz v59), some (vz (tu + 1)), some (vz x_), some (vz (K x_)), some (vz 0), some (vz 0)] [] _
                  refine ab_goto (tgt := 30) d_OM_isClearFrom_266 (by decide) ?_
                  refine ab_less (L' := [some (vR a), some (vz b0), some (vz v59), some (vz (tu + 1)), none, none, none, none]) (fun i v h => by rcases i with _ | _ | _ | _ | _ | _ | _ | _ | i <;> first | exact h | (simp at h)) ?_
                  exact ih (dp := (dp - 1)) (stp := (stp + 1)) (SK := SK) (SE := (zu SE x_ b0)) (any_ := v59) (tu := (tu + 1)) (nt := n224) (ct := c225) (P := P226) ha hse_ hstk hq hki hne hot hra hcle pcsI_tkn (by omega) (rgs_zu jsr (by omega)) (osame_s jsa) (oI_leaf jin (by omega) hx_ (by omega) (by omega)) (by omega) (by omega) (by omega) hq31 hfr (by omega) hk0 hk1
                · refine zz_iconst d_OM_isClearFrom_171 ?_
                  refine ab_goto (tgt := 176) d_OM_isClearFrom_172 (by decide) ?_
                  refine zz_ior01 d_OM_isClearFrom_176 (by omega) (by omega) ?_
                  obtain ⟨v64, hv64⟩ : ∃ z : Int, z = (max any_ 1) := ⟨_, rfl⟩
                  rw [← hv64]
                  have hv64b : v64 = 0 ∨ v64 = 1 := by omega
                  change ab_W _ _ _ G55 177 [some (vR a), some (vz b0), some (vz any_), some (vz tu), some (vz x_), some (vz (K x_)), some (vz 0), some (vz 0)] [vz v64] _
                  refine ab_istore_n d_OM_isClearFrom_177 (Nat.le_of_ble_eq_true rfl) (Nat.le_of_ble_eq_true rfl) rfl ?_
                  change ab_W _ _ _ G55 178 [some (vR a), some (vz b0), some (vz v64), some (vz tu), some (vz x_), some (vz (K x_)), some (vz 0), some (vz 0)] [] _
                  refine ab_iload d_OM_isClearFrom_178 rfl ?_
                  refine zz_bipush d_OM_isClearFrom_180 (by decide) ?_
                  refine zz_icmp_ne (tgt := 214) d_OM_isClearFrom_182 (by decide) (by omega) (by decide) (fun c65 => ?_) (fun c65 => absurd c65 (by omega))
                  refine ab_iload d_OM_isClearFrom_214 rfl ?_
                  refine zz_bipush d_OM_isClearFrom_216 (by decide) ?_
                  refine zz_icmp_eq (tgt := 234) d_OM_isClearFrom_218 (by decide) (by omega) (by decide) (fun c66 => absurd c66 (by omega)) (fun c66 => ?_)
                  refine ab_iload d_OM_isClearFrom_221 rfl ?_
                  refine zz_bipush d_OM_isClearFrom_223 (by decide) ?_
                  refine zz_icmp_eq (tgt := 234) d_OM_isClearFrom_225 (by decide) (by omega) (by decide) (fun c67 => absurd c67 (by omega)) (fun c67 => ?_)
                  refine ab_iload d_OM_isClearFrom_228 rfl ?_
                  refine zz_iconst d_OM_isClearFrom_230 ?_
                  refine zz_icmp_ne (tgt := 263) d_OM_isClearFrom_231 (by decide) (by omega) (by decide) (fun c68 => ?_) (fun c68 => absurd c68 (by omega))
                  refine zz_iinc d_OM_isClearFrom_263 rfl (Nat.le_of_ble_eq_true rfl) (Nat.le_of_ble_eq_true rfl) rfl ?_
                  change ab_W _ _ _ G55 266 [some (vR a), some (vz b0), some (vz v64), some (vz (tu + 1)), some (vz x_), some (vz (K x_)), some (vz 0), some (vz 0)] [] _
                  refine ab_goto (tgt := 30) d_OM_isClearFrom_266 (by decide) ?_
                  refine ab_less (L' := [some (vR a), some (vz b0), some (vz v64), some (vz (tu + 1)), none, none, none, none]) (fun i v h => by rcases i with _ | _ | _ | _ | _ | _ | _ | _ | i <;> first | exact h | (simp at h)) ?_
                  exact ih (dp := (dp - 1)) (stp := (stp + 1)) (SK := SK) (SE := (zu SE x_ b0)) (any_ := v64) (tu := (tu + 1)) (nt := n224) (ct := c225) (P := P226) ha hse_ hstk hq hki hne hot hra hcle pcsI_tkn (by omega) (rgs_zu jsr (by omega)) (osame_s jsa) (oI_leaf jin (by omega) hx_ (by omega) (by omega)) (by omega) (by omega) (by omega) hq31 hfr (by omega) hk0 hk1
              · refine zz_iconst d_OM_isClearFrom_137 ?_
                refine ab_goto (tgt := 142) d_OM_isClearFrom_138 (by decide) ?_
                refine ab_istore d_OM_isClearFrom_142 (Nat.le_of_ble_eq_true rfl) (Nat.le_of_ble_eq_true rfl) rfl ?_
                change ab_W _ _ _ G19 144 [some (vR a), some (vz b0), some (vz any_), some (vz tu), some (vz x_), some (vz (K x_)), some (vz 0), some (vz 1)] [] _
                refine ab_iload d_OM_isClearFrom_144 rfl ?_
                refine zz_if_ne (tgt := 154) d_OM_isClearFrom_146 (by decide) (by decide) (fun c69 => absurd c69 (by decide)) (fun c69 => ?_)
                refine ab_iload d_OM_isClearFrom_149 rfl ?_
                refine zz_if_eq (tgt := 156) d_OM_isClearFrom_151 (by decide) (by decide) (fun c70 => absurd c70 (by decide)) (fun c70 => ?_)
                refine zz_iconst d_OM_isClearFrom_154 ?_
                refine zz_bret rfl (by decide) d_OM_isClearFrom_155 ?_
                exact hk0 _ _ _ _ _ _ _ _ _ ha hse_ hstk hcle pcsI_tkn (by first | exact jsr | exact rgs_w jsr (by omega)) (by exact jsa) (by omega) (by omega) (by omega) hfr
        · cases hv
          rw [hGe]
          change ab_W _ _ _ G6 121 [some (vR a), some (vz b0), some (vz any_), some (vz tu), some (vz x_), some (vz (K x_)), some (vz 0), none] [vz 0] _
          refine zz_if_eq (tgt := 141) d_OM_isClearFrom_121 (by decide) (by decide) (fun c71 => ?_) (fun c71 => absurd c71 (by decide))
          refine zz_iconst d_OM_isClearFrom_141 ?_
          refine ab_istore d_OM_isClearFrom_142 (Nat.le_of_ble_eq_true rfl) (Nat.le_of_ble_eq_true rfl) rfl ?_
          change ab_W _ _ _ G6 144 [some (vR a), some (vz b0), some (vz any_), some (vz tu), some (vz x_), some (vz (K x_)), some (vz 0), some (vz 0)] [] _
          refine ab_iload d_OM_isClearFrom_144 rfl ?_
          refine zz_if_ne (tgt := 154) d_OM_isClearFrom_146 (by decide) (by decide) (fun c72 => absurd c72 (by decide)) (fun c72 => ?_)
          refine ab_iload d_OM_isClearFrom_149 rfl ?_
          refine zz_if_eq (tgt := 156) d_OM_isClearFrom_151 (by decide) (by decide) (fun c73 => ?_) (fun c73 => absurd c73 (by decide))
          refine ab_aload_n d_OM_isClearFrom_156 rfl ?_
          refine ab_getf (fs := [sp0, vR wk, vR onw, vR tkn, vR se_, vR cle, vR stk, vz (dp - 1), vz fo, vz chn, vR q, s0, vz hw, vz fy, vj (stp + 1)]) f_OM_28 d_OM_isClearFrom_157 ha.2.2 rfl ?_
          refine ab_iload d_OM_isClearFrom_160 rfl ?_
          refine ab_iload_n d_OM_isClearFrom_162 rfl ?_
          refine zz_iast d_OM_isClearFrom_163 hse_ (by omega) (hse_.2.1 (by decide)) ?_
          obtain ⟨G74, eG74⟩ : ∃ z : ab_G, z = List.set G6 se_ (za 808 (zu SE x_ b0)) := ⟨_, rfl⟩
          have ha := ha.keep hse_ eG74 (by decide)
          have hstk := hstk.keep hse_ eG74 (by decide)
          have hq := hq.keep hse_ eG74 (by omega)
          have hki := hki.keep hse_ eG74 (by omega)
          have hne := hne.keep hse_ eG74 (by omega)
          have hot := hot.keep hse_ eG74 (by omega)
          have hra := hra.keep hse_ eG74 (by omega)
          have hcle := hcle.keep hse_ eG74 (by decide)
          have hst := (fx.rf (o := o) (S := [55]) (G := G6)).wr hse_ eG74 (List.mem_singleton.mpr rfl)
          have pcsI_tkn := csI.fr hst pcsI_tkn (by decide) (by decide)
          have hq75 := z_len eG74
          have hq76 := z_sl hse_ eG74 rfl
          have hfr := hfr.wr hse_ eG74 (by decide)
          have hse_ := hse_.kept eG74
          change ab_W _ _ _ (List.set G6 se_ (za 808 (zu SE x_ b0))) 164 [some (vR a), some (vz b0), some (vz any_), some (vz tu), some (vz x_), some (vz (K x_)), some (vz 0), some (vz 0)] [] _
          rw [← eG74]
          refine ab_iload_n d_OM_isClearFrom_164 rfl ?_
          refine ab_iload d_OM_isClearFrom_165 rfl ?_
          refine zz_iconst d_OM_isClearFrom_167 ?_
          refine zz_icmp_ne (tgt := 175) d_OM_isClearFrom_168 (by decide) (by omega) (by decide) (fun c77 => ?_) (fun c77 => absurd c77 (by omega))
          refine zz_iconst d_OM_isClearFrom_175 ?_
          refine zz_ior01 d_OM_isClearFrom_176 (by omega) (by omega) ?_
          obtain ⟨v78, hv78⟩ : ∃ z : Int, z = (max any_ 0) := ⟨_, rfl⟩
          rw [← hv78]
          have hv78b : v78 = 0 ∨ v78 = 1 := by omega
          change ab_W _ _ _ G74 177 [some (vR a), some (vz b0), some (vz any_), some (vz tu), some (vz x_), some (vz (K x_)), some (vz 0), some (vz 0)] [vz v78] _
          refine ab_istore_n d_OM_isClearFrom_177 (Nat.le_of_ble_eq_true rfl) (Nat.le_of_ble_eq_true rfl) rfl ?_
          change ab_W _ _ _ G74 178 [some (vR a), some (vz b0), some (vz v78), some (vz tu), some (vz x_), some (vz (K x_)), some (vz 0), some (vz 0)] [] _
          refine ab_iload d_OM_isClearFrom_178 rfl ?_
          refine zz_bipush d_OM_isClearFrom_180 (by decide) ?_
          refine zz_icmp_ne (tgt := 214) d_OM_isClearFrom_182 (by decide) (by omega) (by decide) (fun c79 => ?_) (fun c79 => ?_)
          · refine ab_iload d_OM_isClearFrom_214 rfl ?_
            refine zz_bipush d_OM_isClearFrom_216 (by decide) ?_
            refine zz_icmp_eq (tgt := 234) d_OM_isClearFrom_218 (by decide) (by omega) (by decide) (fun c80 => absurd c80 (by omega)) (fun c80 => ?_)
            refine ab_iload d_OM_isClearFrom_221 rfl ?_
            refine zz_bipush d_OM_isClearFrom_223 (by decide) ?_
            refine zz_icmp_eq (tgt := 234) d_OM_isClearFrom_225 (by decide) (by omega) (by decide) (fun c81 => ?_) (fun c81 => ?_)
            · refine ab_aload_n d_OM_isClearFrom_234 rfl ?_
              refine ab_getf (fs := [sp0, vR wk, vR onw, vR tkn, vR se_, vR cle, vR stk, vz (dp - 1), vz fo, vz chn, vR q, s0, vz hw, vz fy, vj (stp + 1)]) f_OM_34 d_OM_isClearFrom_235 ha.2.2 rfl ?_
              refine ab_aload_n d_OM_isClearFrom_238 rfl ?_
              refine ab_getf (fs := [sp0, vR wk, vR onw, vR tkn, vR se_, vR cle, vR stk, vz (dp - 1), vz fo, vz chn, vR q, s0, vz hw, vz fy, vj (stp + 1)]) f_OM_76 d_OM_isClearFrom_239 ha.2.2 rfl ?_
              refine ab_aload_n d_OM_isClearFrom_242 rfl ?_
              refine ab_getf (fs := [sp0, vR wk, vR onw, vR tkn, vR se_, vR cle, vR stk, vz (dp - 1), vz fo, vz chn, vR q, s0, vz hw, vz fy, vj (stp + 1)]) f_OM_47 d_OM_isClearFrom_243 ha.2.2 rfl ?_
              refine ab_getf (fs := [vR ki, vR ne, vR ot, vz cnt, vz fi, vz la, vR ra, vz ru, vz gr, vz wi, vz sz, vz fl, vz ve, vz mi, vR na, vR nl]) f_OM_67 d_OM_isClearFrom_246 hq.2.2 rfl ?_
              refine ab_iload d_OM_isClearFrom_249 rfl ?_
              refine zz_iald d_OM_isClearFrom_251 hne (by omega) ?_
              have hq82 := hp.n x_ (by omega) (by omega)
              refine zz_iast d_OM_isClearFrom_252 hstk (by omega) (hstk.2.1 (by decide)) ?_
              obtain ⟨G83, eG83⟩ : ∃ z : ab_G, z = List.set G74 stk (za 809 (zu SK (dp - 1) (N x_))) := ⟨_, rfl⟩
              have ha := ha.keep hstk eG83 (by decide)
              have hse_ := hse_.keep hstk eG83 (by decide)
              have hq := hq.keep hstk eG83 (by omega)
              have hki := hki.keep hstk eG83 (by omega)
              have hne := hne.keep hstk eG83 (by omega)
              have hot := hot.keep hstk eG83 (by omega)
              have hra := hra.keep hstk eG83 (by omega)
              have hcle := hcle.keep hstk eG83 (by decide)
              have hst := (fx.rf (o := o) (S := [57]) (G := G74)).wr hstk eG83 (List.mem_singleton.mpr rfl)
              have pcsI_tkn := csI.fr hst pcsI_tkn (by decide) (by decide)
              have hq84 := z_len eG83
              have hq85 := z_sl hstk eG83 rfl
              have hfr := hfr.wr hstk eG83 (by decide)
              have hstk := hstk.kept eG83
              change ab_W _ _ _ (List.set G74 stk (za 809 (zu SK (dp - 1) (N x_)))) 253 [some (vR a), some (vz b0), some (vz v78), some (vz tu), some (vz x_), some (vz (K x_)), some (vz 0), some (vz 0)] [] _
              rw [← eG83]
              refine ab_aload_n d_OM_isClearFrom_253 rfl ?_
              refine ab_dup d_OM_isClearFrom_254 rfl ?_
              refine ab_getf (fs := [sp0, vR wk, vR onw, vR tkn, vR se_, vR cle, vR stk, vz (dp - 1), vz fo, vz chn, vR q, s0, vz hw, vz fy, vj (stp + 1)]) f_OM_76 d_OM_isClearFrom_255 ha.2.2 rfl ?_
              refine zz_iconst d_OM_isClearFrom_258 ?_
              refine zz_iadd d_OM_isClearFrom_259 ?_
              refine ab_putf (fs := [sp0, vR wk, vR onw, vR tkn, vR se_, vR cle, vR stk, vz (dp - 1), vz fo, vz chn, vR q, s0, vz hw, vz fy, vj (stp + 1)]) f_OM_76 (Or.inl rfl) d_OM_isClearFrom_260 ha.2.2 (Nat.le_of_ble_eq_true rfl) (fun _ => ⟨rfl, rfl⟩) (ha.2.1 (by decide)) ?_
              obtain ⟨G86, eG86⟩ : ∃ z : ab_G, z = List.set G83 a (ab_ob 3 [sp0, vR wk, vR onw, vR tkn, vR se_, vR cle, vR stk, vz ((dp - 1) + 1), vz fo, vz chn, vR q, s0, vz hw, vz fy, vj (stp + 1)]) := ⟨_, rfl⟩
              have hse_ := hse_.keep ha eG86 (by decide)
              have hstk := hstk.keep ha eG86 (by decide)
              have hq := hq.keep ha eG86 (by omega)
              have hki := hki.keep ha eG86 (by omega)
              have hne := hne.keep ha eG86 (by omega)
              have hot := hot.keep ha eG86 (by omega)
              have hra := hra.keep ha eG86 (by omega)
              have hcle := hcle.keep ha eG86 (by decide)
              have hst := (fx.rf (o := o) (S := [50]) (G := G83)).wr ha eG86 (List.mem_singleton.mpr rfl)
              have pcsI_tkn := csI.fr hst pcsI_tkn (by decide) (by decide)
              have hq87 := z_len eG86
              have hq88 := z_sl ha eG86 rfl
              have hfr := hfr.wr ha eG86 (by decide)
              have ha := ha.kept eG86
              change ab_W _ _ _ (List.set G83 a (ab_ob 3 [sp0, vR wk, vR onw, vR tkn, vR se_, vR cle, vR stk, vz ((dp - 1) + 1), vz fo, vz chn, vR q, s0, vz hw, vz fy, vj (stp + 1)])) 263 [some (vR a), some (vz b0), some (vz v78), some (vz tu), some (vz x_), some (vz (K x_)), some (vz 0), some (vz 0)] [] _
              rw [← eG86]
              refine zz_iinc d_OM_isClearFrom_263 rfl (Nat.le_of_ble_eq_true rfl) (Nat.le_of_ble_eq_true rfl) rfl ?_
              change ab_W _ _ _ G86 266 [some (vR a), some (vz b0), some (vz v78), some (vz (tu + 1)), some (vz x_), some (vz (K x_)), some (vz 0), some (vz 0)] [] _
              refine ab_goto (tgt := 30) d_OM_isClearFrom_266 (by decide) ?_
              refine ab_less (L' := [some (vR a), some (vz b0), some (vz v78), some (vz (tu + 1)), none, none, none, none]) (fun i v h => by rcases i with _ | _ | _ | _ | _ | _ | _ | _ | i <;> first | exact h | (simp at h)) ?_
              exact ih (dp := ((dp - 1) + 1)) (stp := (stp + 1)) (SK := (zu SK (dp - 1) (N x_))) (SE := (zu SE x_ b0)) (any_ := v78) (tu := (tu + 1)) (nt := nt) (ct := ct) (P := P) ha hse_ hstk hq hki hne hot hra hcle pcsI_tkn (by omega) (rgs_zu jsr (by omega)) (osame_s jsa) (oI_one jin (by omega) hx_ (by omega) (by omega) (hp.n x_ (by omega) (by omega))) (by omega) (by omega) (by omega) jlf hfr (by omega) hk0 hk1
            · refine ab_iload d_OM_isClearFrom_228 rfl ?_
              refine zz_iconst d_OM_isClearFrom_230 ?_
              refine zz_icmp_ne (tgt := 263) d_OM_isClearFrom_231 (by decide) (by omega) (by decide) (fun c89 => ?_) (fun c89 => ?_)
              · refine zz_iinc d_OM_isClearFrom_263 rfl (Nat.le_of_ble_eq_true rfl) (Nat.le_of_ble_eq_true rfl) rfl ?_
                change ab_W _ _ _ G74 266 [some (vR a), some (vz b0), some (vz v78), some (vz (tu + 1)), some (vz x_), some (vz (K x_)), some (vz 0), some (vz 0)] [] _
                refine ab_goto (tgt := 30) d_OM_isClearFrom_266 (by decide) ?_
                refine ab_less (L' := [some (vR a), some (vz b0), some (vz v78), some (vz (tu + 1)), none, none, none, none]) (fun i v h => by rcases i with _ | _ | _ | _ | _ | _ | _ | _ | i <;> first | exact h | (simp at h)) ?_
                exact ih (dp := (dp - 1)) (stp := (stp + 1)) (SK := SK) (SE := (zu SE x_ b0)) (any_ := v78) (tu := (tu + 1)) (nt := nt) (ct := ct) (P := P) ha hse_ hstk hq hki hne hot hra hcle pcsI_tkn (by omega) (rgs_zu jsr (by omega)) (osame_s jsa) (oI_leaf jin (by omega) hx_ (by omega) (by omega)) (by omega) (by omega) (by omega) jlf hfr (by omega) hk0 hk1
              · refine ab_aload_n d_OM_isClearFrom_234 rfl ?_
                refine ab_getf (fs := [sp0, vR wk, vR onw, vR tkn, vR se_, vR cle, vR stk, vz (dp - 1), vz fo, vz chn, vR q, s0, vz hw, vz fy, vj (stp + 1)]) f_OM_34 d_OM_isClearFrom_235 ha.2.2 rfl ?_
                refine ab_aload_n d_OM_isClearFrom_238 rfl ?_
                refine ab_getf (fs := [sp0, vR wk, vR onw, vR tkn, vR se_, vR cle, vR stk, vz (dp - 1), vz fo, vz chn, vR q, s0, vz hw, vz fy, vj (stp + 1)]) f_OM_76 d_OM_isClearFrom_239 ha.2.2 rfl ?_
                refine ab_aload_n d_OM_isClearFrom_242 rfl ?_
                refine ab_getf (fs := [sp0, vR wk, vR onw, vR tkn, vR se_, vR cle, vR stk, vz (dp - 1), vz fo, vz chn, vR q, s0, vz hw, vz fy, vj (stp + 1)]) f_OM_47 d_OM_isClearFrom_243 ha.2.2 rfl ?_
                refine ab_getf (fs := [vR ki, vR ne, vR ot, vz cnt, vz fi, vz la, vR ra, vz ru, vz gr, vz wi, vz sz, vz fl, vz ve, vz mi, vR na, vR nl]) f_OM_67 d_OM_isClearFrom_246 hq.2.2 rfl ?_
                refine ab_iload d_OM_isClearFrom_249 rfl ?_
                refine zz_iald d_OM_isClearFrom_251 hne (by omega) ?_
                have hq90 := hp.n x_ (by omega) (by omega)
                refine zz_iast d_OM_isClearFrom_252 hstk (by omega) (hstk.2.1 (by decide)) ?_
                obtain ⟨G91, eG91⟩ : ∃ z : ab_G, z = List.set G74 stk (za 809 (zu SK (dp - 1) (N x_))) := ⟨_, rfl⟩
                have ha := ha.keep hstk eG91 (by decide)
                have hse_ := hse_.keep hstk eG91 (by decide)
                have hq := hq.keep hstk eG91 (by omega)
                have hki := hki.keep hstk eG91 (by omega)
                have hne := hne.keep hstk eG91 (by omega)
                have hot := hot.keep hstk eG91 (by omega)
                have hra := hra.keep hstk eG91 (by omega)
                have hcle := hcle.keep hstk eG91 (by decide)
                have hst := (fx.rf (o := o) (S := [57]) (G := G74)).wr hstk eG91 (List.mem_singleton.mpr rfl)
                have pcsI_tkn := csI.fr hst pcsI_tkn (by decide) (by decide)
                have hq92 := z_len eG91
                have hq93 := z_sl hstk eG91 rfl
                have hfr := hfr.wr hstk eG91 (by decide)
                have hstk := hstk.kept eG91
                change ab_W _ _ _ (List.set G74 stk (za 809 (zu SK (dp - 1) (N x_)))) 253 [some (vR a), some (vz b0), some (vz v78), some (vz tu), some (vz x_), some (vz (K x_)), some (vz 0), some (vz 0)] [] _
                rw [← eG91]
                refine ab_aload_n d_OM_isClearFrom_253 rfl ?_
                refine ab_dup d_OM_isClearFrom_254 rfl ?_
                refine ab_getf (fs := [sp0, vR wk, vR onw, vR tkn, vR se_, vR cle, vR stk, vz (dp - 1), vz fo, vz chn, vR q, s0, vz hw, vz fy, vj (stp + 1)]) f_OM_76 d_OM_isClearFrom_255 ha.2.2 rfl ?_
                refine zz_iconst d_OM_isClearFrom_258 ?_
                refine zz_iadd d_OM_isClearFrom_259 ?_
                refine ab_putf (fs := [sp0, vR wk, vR onw, vR tkn, vR se_, vR cle, vR stk, vz (dp - 1), vz fo, vz chn, vR q, s0, vz hw, vz fy, vj (stp + 1)]) f_OM_76 (Or.inl rfl) d_OM_isClearFrom_260 ha.2.2 (Nat.le_of_ble_eq_true rfl) (fun _ => ⟨rfl, rfl⟩) (ha.2.1 (by decide)) ?_
                obtain ⟨G94, eG94⟩ : ∃ z : ab_G, z = List.set G91 a (ab_ob 3 [sp0, vR wk, vR onw, vR tkn, vR se_, vR cle, vR stk, vz ((dp - 1) + 1), vz fo, vz chn, vR q, s0, vz hw, vz fy, vj (stp + 1)]) := ⟨_, rfl⟩
                have hse_ := hse_.keep ha eG94 (by decide)
                have hstk := hstk.keep ha eG94 (by decide)
                have hq := hq.keep ha eG94 (by omega)
                have hki := hki.keep ha eG94 (by omega)
                have hne := hne.keep ha eG94 (by omega)
                have hot := hot.keep ha eG94 (by omega)
                have hra := hra.keep ha eG94 (by omega)
                have hcle := hcle.keep ha eG94 (by decide)
                have hst := (fx.rf (o := o) (S := [50]) (G := G91)).wr ha eG94 (List.mem_singleton.mpr rfl)
                have pcsI_tkn := csI.fr hst pcsI_tkn (by decide) (by decide)
                have hq95 := z_len eG94
                have hq96 := z_sl ha eG94 rfl
                have hfr := hfr.wr ha eG94 (by decide)
                have ha := ha.kept eG94
                change ab_W _ _ _ (List.set G91 a (ab_ob 3 [sp0, vR wk, vR onw, vR tkn, vR se_, vR cle, vR stk, vz ((dp - 1) + 1), vz fo, vz chn, vR q, s0, vz hw, vz fy, vj (stp + 1)])) 263 [some (vR a), some (vz b0), some (vz v78), some (vz tu), some (vz x_), some (vz (K x_)), some (vz 0), some (vz 0)] [] _
                rw [← eG94]
                refine zz_iinc d_OM_isClearFrom_263 rfl (Nat.le_of_ble_eq_true rfl) (Nat.le_of_ble_eq_true rfl) rfl ?_
                change ab_W _ _ _ G94 266 [some (vR a), some (vz b0), some (vz v78), some (vz (tu + 1)), some (vz x_), some (vz (K x_)), some (vz 0), some (vz 0)] [] _
                refine ab_goto (tgt := 30) d_OM_isClearFrom_266 (by decide) ?_
                refine ab_less (L' := [some (vR a), some (vz b0), some (vz v78), some (vz (tu + 1)), none, none, none, none]) (fun i v h => by rcases i with _ | _ | _ | _ | _ | _ | _ | _ | i <;> first | exact h | (simp at h)) ?_
                exact ih (dp := ((dp - 1) + 1)) (stp := (stp + 1)) (SK := (zu SK (dp - 1) (N x_))) (SE := (zu SE x_ b0)) (any_ := v78) (tu := (tu + 1)) (nt := nt) (ct := ct) (P := P) ha hse_ hstk hq hki hne hot hra hcle pcsI_tkn (by omega) (rgs_zu jsr (by omega)) (osame_s jsa) (oI_one jin (by omega) hx_ (by omega) (by omega) (hp.n x_ (by omega) (by omega))) (by omega) (by omega) (by omega) jlf hfr (by omega) hk0 hk1
          · have ho6 := hp.o6 x_ (by omega) (by omega) (by omega)
            have hd6 := jin.d6 ck9 (by omega) hxr (by omega) (by omega)
            refine ab_aload_n d_OM_isClearFrom_185 rfl ?_
            refine ab_getf (fs := [sp0, vR wk, vR onw, vR tkn, vR se_, vR cle, vR stk, vz (dp - 1), vz fo, vz chn, vR q, s0, vz hw, vz fy, vj (stp + 1)]) f_OM_34 d_OM_isClearFrom_186 ha.2.2 rfl ?_
            refine ab_aload_n d_OM_isClearFrom_189 rfl ?_
            refine ab_getf (fs := [sp0, vR wk, vR onw, vR tkn, vR se_, vR cle, vR stk, vz (dp - 1), vz fo, vz chn, vR q, s0, vz hw, vz fy, vj (stp + 1)]) f_OM_76 d_OM_isClearFrom_190 ha.2.2 rfl ?_
            refine ab_aload_n d_OM_isClearFrom_193 rfl ?_
            refine ab_getf (fs := [sp0, vR wk, vR onw, vR tkn, vR se_, vR cle, vR stk, vz (dp - 1), vz fo, vz chn, vR q, s0, vz hw, vz fy, vj (stp + 1)]) f_OM_47 d_OM_isClearFrom_194 ha.2.2 rfl ?_
            refine ab_getf (fs := [vR ki, vR ne, vR ot, vz cnt, vz fi, vz la, vR ra, vz ru, vz gr, vz wi, vz sz, vz fl, vz ve, vz mi, vR na, vR nl]) f_OM_89 d_OM_isClearFrom_197 hq.2.2 rfl ?_
            refine ab_iload d_OM_isClearFrom_200 rfl ?_
            refine zz_iald d_OM_isClearFrom_202 hot (by omega) ?_
            refine zz_iast d_OM_isClearFrom_203 hstk (by omega) (hstk.2.1 (by decide)) ?_
            obtain ⟨G97, eG97⟩ : ∃ z : ab_G, z = List.set G74 stk (za 809 (zu SK (dp - 1) (O x_))) := ⟨_, rfl⟩
            have ha := ha.keep hstk eG97 (by decide)
            have hse_ := hse_.keep hstk eG97 (by decide)
            have hq := hq.keep hstk eG97 (by omega)
            have hki := hki.keep hstk eG97 (by omega)
            have hne := hne.keep hstk eG97 (by omega)
            have hot := hot.keep hstk eG97 (by omega)
            have hra := hra.keep hstk eG97 (by omega)
            have hcle := hcle.keep hstk eG97 (by decide)
            have hst := (fx.rf (o := o) (S := [57]) (G := G74)).wr hstk eG97 (List.mem_singleton.mpr rfl)
            have pcsI_tkn := csI.fr hst pcsI_tkn (by decide) (by decide)
            have hq98 := z_len eG97
            have hq99 := z_sl hstk eG97 rfl
            have hfr := hfr.wr hstk eG97 (by decide)
            have hstk := hstk.kept eG97
            change ab_W _ _ _ (List.set G74 stk (za 809 (zu SK (dp - 1) (O x_)))) 204 [some (vR a), some (vz b0), some (vz v78), some (vz tu), some (vz x_), some (vz (K x_)), some (vz 0), some (vz 0)] [] _
            rw [← eG97]
            refine ab_aload_n d_OM_isClearFrom_204 rfl ?_
            refine ab_dup d_OM_isClearFrom_205 rfl ?_
            refine ab_getf (fs := [sp0, vR wk, vR onw, vR tkn, vR se_, vR cle, vR stk, vz (dp - 1), vz fo, vz chn, vR q, s0, vz hw, vz fy, vj (stp + 1)]) f_OM_76 d_OM_isClearFrom_206 ha.2.2 rfl ?_
            refine zz_iconst d_OM_isClearFrom_209 ?_
            refine zz_iadd d_OM_isClearFrom_210 ?_
            refine ab_putf (fs := [sp0, vR wk, vR onw, vR tkn, vR se_, vR cle, vR stk, vz (dp - 1), vz fo, vz chn, vR q, s0, vz hw, vz fy, vj (stp + 1)]) f_OM_76 (Or.inl rfl) d_OM_isClearFrom_211 ha.2.2 (Nat.le_of_ble_eq_true rfl) (fun _ => ⟨rfl, rfl⟩) (ha.2.1 (by decide)) ?_
            obtain ⟨G100, eG100⟩ : ∃ z : ab_G, z = List.set G97 a (ab_ob 3 [sp0, vR wk, vR onw, vR tkn, vR se_, vR cle, vR stk, vz ((dp - 1) + 1), vz fo, vz chn, vR q, s0, vz hw, vz fy, vj (stp + 1)]) := ⟨_, rfl⟩
            have hse_ := hse_.keep ha eG100 (by decide)
            have hstk := hstk.keep ha eG100 (by decide)
            have hq := hq.keep ha eG100 (by omega)
            have hki := hki.keep ha eG100 (by omega)
            have hne := hne.keep ha eG100 (by omega)
            have hot := hot.keep ha eG100 (by omega)
            have hra := hra.keep ha eG100 (by omega)
            have hcle := hcle.keep ha eG100 (by decide)
            have hst := (fx.rf (o := o) (S := [50]) (G := G97)).wr ha eG100 (List.mem_singleton.mpr rfl)
            have pcsI_tkn := csI.fr hst pcsI_tkn (by decide) (by decide)
            have hq101 := z_len eG100
            have hq102 := z_sl ha eG100 rfl
            have hfr := hfr.wr ha eG100 (by decide)
            have ha := ha.kept eG100
            change ab_W _ _ _ (List.set G97 a (ab_ob 3 [sp0, vR wk, vR onw, vR tkn, vR se_, vR cle, vR stk, vz ((dp - 1) + 1), vz fo, vz chn, vR q, s0, vz hw, vz fy, vj (stp + 1)])) 214 [some (vR a), some (vz b0), some (vz v78), some (vz tu), some (vz x_), some (vz (K x_)), some (vz 0), some (vz 0)] [] _
            rw [← eG100]
            refine ab_iload d_OM_isClearFrom_214 rfl ?_
            refine zz_bipush d_OM_isClearFrom_216 (by decide) ?_
            refine zz_icmp_eq (tgt := 234) d_OM_isClearFrom_218 (by decide) (by omega) (by decide) (fun c103 => ?_) (fun c103 => absurd c103 (by omega))
            refine ab_aload_n d_OM_isClearFrom_234 rfl ?_
            refine ab_getf (fs := [sp0, vR wk, vR onw, vR tkn, vR se_, vR cle, vR stk, vz ((dp - 1) + 1), vz fo, vz chn, vR q, s0, vz hw, vz fy, vj (stp + 1)]) f_OM_34 d_OM_isClearFrom_235 ha.2.2 rfl ?_
            refine ab_aload_n d_OM_isClearFrom_238 rfl ?_
            refine ab_getf (fs := [sp0, vR wk, vR onw, vR tkn, vR se_, vR cle, vR stk, vz ((dp - 1) + 1), vz fo, vz chn, vR q, s0, vz hw, vz fy, vj (stp + 1)]) f_OM_76 d_OM_isClearFrom_239 ha.2.2 rfl ?_
            refine ab_aload_n d_OM_isClearFrom_242 rfl ?_
            refine ab_getf (fs := [sp0, vR wk, vR onw, vR tkn, vR se_, vR cle, vR stk, vz ((dp - 1) + 1), vz fo, vz chn, vR q, s0, vz hw, vz fy, vj (stp + 1)]) f_OM_47 d_OM_isClearFrom_243 ha.2.2 rfl ?_
            refine ab_getf (fs := [vR ki, vR ne, vR ot, vz cnt, vz fi, vz la, vR ra, vz ru, vz gr, vz wi, vz sz, vz fl, vz ve, vz mi, vR na, vR nl]) f_OM_67 d_OM_isClearFrom_246 hq.2.2 rfl ?_
            refine ab_iload d_OM_isClearFrom_249 rfl ?_
            refine zz_iald d_OM_isClearFrom_251 hne (by omega) ?_
            have hq104 := hp.n x_ (by omega) (by omega)
            refine zz_iast d_OM_isClearFrom_252 hstk (by omega) (hstk.2.1 (by decide)) ?_
            obtain ⟨G105, eG105⟩ : ∃ z : ab_G, z = List.set G100 stk (za 809 (zu (zu SK (dp - 1) (O x_)) ((dp - 1) + 1) (N x_))) := ⟨_, rfl⟩
            have ha := ha.keep hstk eG105 (by decide)
            have hse_ := hse_.keep hstk eG105 (by decide)
            have hq := hq.keep hstk eG105 (by omega)
            have hki := hki.keep hstk eG105 (by omega)
            have hne := hne.keep hstk eG105 (by omega)
            have hot := hot.keep hstk eG105 (by omega)
            have hra := hra.keep hstk eG105 (by omega)
            have hcle := hcle.keep hstk eG105 (by decide)
            have hst := (fx.rf (o := o) (S := [57]) (G := G100)).wr hstk eG105 (List.mem_singleton.mpr rfl)
            have pcsI_tkn := csI.fr hst pcsI_tkn (by decide) (by decide)
            have hq106 := z_len eG105
            have hq107 := z_sl hstk eG105 rfl
            have hfr := hfr.wr hstk eG105 (by decide)
            have hstk := hstk.kept eG105
            change ab_W _ _ _ (List.set G100 stk (za 809 (zu (zu SK (dp - 1) (O x_)) ((dp - 1) + 1) (N x_)))) 253 [some (vR a), some (vz b0), some (vz v78), some (vz tu), some (vz x_), some (vz (K x_)), some (vz 0), some (vz 0)] [] _
            rw [← eG105]
            refine ab_aload_n d_OM_isClearFrom_253 rfl ?_
            refine ab_dup d_OM_isClearFrom_254 rfl ?_
            refine ab_getf (fs := [sp0, vR wk, vR onw, vR tkn, vR se_, vR cle, vR stk, vz ((dp - 1) + 1), vz fo, vz chn, vR q, s0, vz hw, vz fy, vj (stp + 1)]) f_OM_76 d_OM_isClearFrom_255 ha.2.2 rfl ?_
            refine zz_iconst d_OM_isClearFrom_258 ?_
            refine zz_iadd d_OM_isClearFrom_259 ?_
            refine ab_putf (fs := [sp0, vR wk, vR onw, vR tkn, vR se_, vR cle, vR stk, vz ((dp - 1) + 1), vz fo, vz chn, vR q, s0, vz hw, vz fy, vj (stp + 1)]) f_OM_76 (Or.inl rfl) d_OM_isClearFrom_260 ha.2.2 (Nat.le_of_ble_eq_true rfl) (fun _ => ⟨rfl, rfl⟩) (ha.2.1 (by decide)) ?_
            obtain ⟨G108, eG108⟩ : ∃ z : ab_G, z = List.set G105 a (ab_ob 3 [sp0, vR wk, vR onw, vR tkn, vR se_, vR cle, vR stk, vz (((dp - 1) + 1) + 1), vz fo, vz chn, vR q, s0, vz hw, vz fy, vj (stp + 1)]) := ⟨_, rfl⟩
            have hse_ := hse_.keep ha eG108 (by decide)
            have hstk := hstk.keep ha eG108 (by decide)
            have hq := hq.keep ha eG108 (by omega)
            have hki := hki.keep ha eG108 (by omega)
            have hne := hne.keep ha eG108 (by omega)
            have hot := hot.keep ha eG108 (by omega)
            have hra := hra.keep ha eG108 (by omega)
            have hcle := hcle.keep ha eG108 (by decide)
            have hst := (fx.rf (o := o) (S := [50]) (G := G105)).wr ha eG108 (List.mem_singleton.mpr rfl)
            have pcsI_tkn := csI.fr hst pcsI_tkn (by decide) (by decide)
            have hq109 := z_len eG108
            have hq110 := z_sl ha eG108 rfl
            have hfr := hfr.wr ha eG108 (by decide)
            have ha := ha.kept eG108
            change ab_W _ _ _ (List.set G105 a (ab_ob 3 [sp0, vR wk, vR onw, vR tkn, vR se_, vR cle, vR stk, vz (((dp - 1) + 1) + 1), vz fo, vz chn, vR q, s0, vz hw, vz fy, vj (stp + 1)])) 263 [some (vR a), some (vz b0), some (vz v78), some (vz tu), some (vz x_), some (vz (K x_)), some (vz 0), some (vz 0)] [] _
            rw [← eG108]
            refine zz_iinc d_OM_isClearFrom_263 rfl (Nat.le_of_ble_eq_true rfl) (Nat.le_of_ble_eq_true rfl) rfl ?_
            change ab_W _ _ _ G108 266 [some (vR a), some (vz b0), some (vz v78), some (vz (tu + 1)), some (vz x_), some (vz (K x_)), some (vz 0), some (vz 0)] [] _
            refine ab_goto (tgt := 30) d_OM_isClearFrom_266 (by decide) ?_
            refine ab_less (L' := [some (vR a), some (vz b0), some (vz v78), some (vz (tu + 1)), none, none, none, none]) (fun i v h => by rcases i with _ | _ | _ | _ | _ | _ | _ | _ | i <;> first | exact h | (simp at h)) ?_
            exact ih (dp := (((dp - 1) + 1) + 1)) (stp := (stp + 1)) (SK := (zu (zu SK (dp - 1) (O x_)) ((dp - 1) + 1) (N x_))) (SE := (zu SE x_ b0)) (any_ := v78) (tu := (tu + 1)) (nt := nt) (ct := ct) (P := P) ha hse_ hstk hq hki hne hot hra hcle pcsI_tkn (by omega) (rgs_zu jsr (by omega)) (osame_s jsa) (oI_split jin (by omega) hx_ (by omega) (by omega) (hp.n x_ (by omega) (by omega)) ho6) (by omega) (by omega) (by omega) jlf hfr (by omega) hk0 hk1
      · refine ab_iload d_OM_isClearFrom_98 rfl ?_
        refine zz_bipush d_OM_isClearFrom_100 (by decide) ?_
        refine zz_icmp_eq (tgt := 109) d_OM_isClearFrom_102 (by decide) (by omega) (by decide) (fun c111 => ?_) (fun c111 => ?_)
        · refine zz_iconst d_OM_isClearFrom_109 ?_
          refine ab_istore d_OM_isClearFrom_110 (Nat.le_of_ble_eq_true rfl) (Nat.le_of_ble_eq_true rfl) rfl ?_
          change ab_W _ _ _ G6 112 [some (vR a), some (vz b0), some (vz any_), some (vz tu), some (vz x_), some (vz (K x_)), some (vz 0), none] [] _
          refine ab_aload_n d_OM_isClearFrom_112 rfl ?_
          refine ab_getf (fs := [sp0, vR wk, vR onw, vR tkn, vR se_, vR cle, vR stk, vz (dp - 1), vz fo, vz chn, vR q, s0, vz hw, vz fy, vj (stp + 1)]) f_OM_47 d_OM_isClearFrom_113 ha.2.2 rfl ?_
          refine ab_iload d_OM_isClearFrom_116 rfl ?_
          refine ab_callV (d' := d - 1) (as := [vz x_]) (st := []) (r := _) (zq_PR_takes (o := o) (q := q) (lq := lq) (ki := ki) (ne := ne) (ot := ot) (cnt := cnt) (fi := fi) (la := la) (ra := ra) (ru := ru) (gr := gr) (wi := wi) (sz := sz) (fl := fl) (ve := ve) (mi := mi) (na := na) (nl := nl) (K := K) (x := x_) hq hki (by omega) hp (by omega)) (fun oc G2 h => by rcases h with ⟨h, _⟩ | ⟨h, _⟩ <;> exact ⟨_, h⟩) (by omega) m_PR_takes ml_OM_70 im_PR_takes se_PR_takes c_PR hq.2.2 (Nat.le_of_ble_eq_true rfl) d_OM_isClearFrom_118 rfl ?_
          intro v G112 hq
          rcases hq with ⟨hv, hGe, hq113⟩ | ⟨hv, hGe, hq114⟩
          · cases hv
            rw [hGe]
            change ab_W _ _ _ G6 121 [some (vR a), some (vz b0), some (vz any_), some (vz tu), some (vz x_), some (vz (K x_)), some (vz 0), none] [vz 1] _
            exfalso; omega
          · cases hv
            rw [hGe]
            change ab_W _ _ _ G6 121 [some (vR a), some (vz b0), some (vz any_), some (vz tu), some (vz x_), some (vz (K x_)), some (vz 0), none] [vz 0] _
            refine zz_if_eq (tgt := 141) d_OM_isClearFrom_121 (by decide) (by decide) (fun c115 => ?_) (fun c115 => absurd c115 (by decide))
            refine zz_iconst d_OM_isClearFrom_141 ?_
            refine ab_istore d_OM_isClearFrom_142 (Nat.le_of_ble_eq_true rfl) (Nat.le_of_ble_eq_true rfl) rfl ?_
            change ab_W _ _ _ G6 144 [some (vR a), some (vz b0), some (vz any_), some (vz tu), some (vz x_), some (vz (K x_)), some (vz 0), some (vz 0)] [] _
            refine ab_iload d_OM_isClearFrom_144 rfl ?_
            refine zz_if_ne (tgt := 154) d_OM_isClearFrom_146 (by decide) (by decide) (fun c116 => absurd c116 (by decide)) (fun c116 => ?_)
            refine ab_iload d_OM_isClearFrom_149 rfl ?_
            refine zz_if_eq (tgt := 156) d_OM_isClearFrom_151 (by decide) (by decide) (fun c117 => ?_) (fun c117 => absurd c117 (by decide))
            refine ab_aload_n d_OM_isClearFrom_156 rfl ?_
            refine ab_getf (fs := [sp0, vR wk, vR onw, vR tkn, vR se_, vR cle, vR stk, vz (dp - 1), vz fo, vz chn, vR q, s0, vz hw, vz fy, vj (stp + 1)]) f_OM_28 d_OM_isClearFrom_157 ha.2.2 rfl ?_
            refine ab_iload d_OM_isClearFrom_160 rfl ?_
            refine ab_iload_n d_OM_isClearFrom_162 rfl ?_
            refine zz_iast d_OM_isClearFrom_163 hse_ (by omega) (hse_.2.1 (by decide)) ?_
            obtain ⟨G118, eG118⟩ : ∃ z : ab_G, z = List.set G6 se_ (za 808 (zu SE x_ b0)) := ⟨_, rfl⟩
            have ha := ha.keep hse_ eG118 (by decide)
            have hstk := hstk.keep hse_ eG118 (by decide)
            have hq := hq.keep hse_ eG118 (by omega)
            have hki := hki.keep hse_ eG118 (by omega)
            have hne := hne.keep hse_ eG118 (by omega)
            have hot := hot.keep hse_ eG118 (by omega)
            have hra := hra.keep hse_ eG118 (by omega)
            have hcle := hcle.keep hse_ eG118 (by decide)
            have hst := (fx.rf (o := o) (S := [55]) (G := G6)).wr hse_ eG118 (List.mem_singleton.mpr rfl)
            have pcsI_tkn := csI.fr hst pcsI_tkn (by decide) (by decide)
            have hq119 := z_len eG118
            have hq120 := z_sl hse_ eG118 rfl
            have hfr := hfr.wr hse_ eG118 (by decide)
            have hse_ := hse_.kept eG118
            change ab_W _ _ _ (List.set G6 se_ (za 808 (zu SE x_ b0))) 164 [some (vR a), some (vz b0), some (vz any_), some (vz tu), some (vz x_), some (vz (K x_)), some (vz 0), some (vz 0)] [] _
            rw [← eG118]
            refine ab_iload_n d_OM_isClearFrom_164 rfl ?_
            refine ab_iload d_OM_isClearFrom_165 rfl ?_
            refine zz_iconst d_OM_isClearFrom_167 ?_
            refine zz_icmp_ne (tgt := 175) d_OM_isClearFrom_168 (by decide) (by omega) (by decide) (fun c121 => ?_) (fun c121 => absurd c121 (by omega))
            refine zz_iconst d_OM_isClearFrom_175 ?_
            refine zz_ior01 d_OM_isClearFrom_176 (by omega) (by omega) ?_
            obtain ⟨v122, hv122⟩ : ∃ z : Int, z = (max any_ 0) := ⟨_, rfl⟩
            rw [← hv122]
            have hv122b : v122 = 0 ∨ v122 = 1 := by omega
            change ab_W _ _ _ G118 177 [some (vR a), some (vz b0), some (vz any_), some (vz tu), some (vz x_), some (vz (K x_)), some (vz 0), some (vz 0)] [vz v122] _
            refine ab_istore_n d_OM_isClearFrom_177 (Nat.le_of_ble_eq_true rfl) (Nat.le_of_ble_eq_true rfl) rfl ?_
            change ab_W _ _ _ G118 178 [some (vR a), some (vz b0), some (vz v122), some (vz tu), some (vz x_), some (vz (K x_)), some (vz 0), some (vz 0)] [] _
            refine ab_iload d_OM_isClearFrom_178 rfl ?_
            refine zz_bipush d_OM_isClearFrom_180 (by decide) ?_
            refine zz_icmp_ne (tgt := 214) d_OM_isClearFrom_182 (by decide) (by omega) (by decide) (fun c123 => ?_) (fun c123 => absurd c123 (by omega))
            refine ab_iload d_OM_isClearFrom_214 rfl ?_
            refine zz_bipush d_OM_isClearFrom_216 (by decide) ?_
            refine zz_icmp_eq (tgt := 234) d_OM_isClearFrom_218 (by decide) (by omega) (by decide) (fun c124 => absurd c124 (by omega)) (fun c124 => ?_)
            refine ab_iload d_OM_isClearFrom_221 rfl ?_
            refine zz_bipush d_OM_isClearFrom_223 (by decide) ?_
            refine zz_icmp_eq (tgt := 234) d_OM_isClearFrom_225 (by decide) (by omega) (by decide) (fun c125 => absurd c125 (by omega)) (fun c125 => ?_)
            refine ab_iload d_OM_isClearFrom_228 rfl ?_
            refine zz_iconst d_OM_isClearFrom_230 ?_
            refine zz_icmp_ne (tgt := 263) d_OM_isClearFrom_231 (by decide) (by omega) (by decide) (fun c126 => ?_) (fun c126 => absurd c126 (by omega))
            refine zz_iinc d_OM_isClearFrom_263 rfl (Nat.le_of_ble_eq_true rfl) (Nat.le_of_ble_eq_true rfl) rfl ?_
            change ab_W _ _ _ G118 266 [some (vR a), some (vz b0), some (vz v122), some (vz (tu + 1)), some (vz x_), some (vz (K x_)), some (vz 0), some (vz 0)] [] _
            refine ab_goto (tgt := 30) d_OM_isClearFrom_266 (by decide) ?_
            refine ab_less (L' := [some (vR a), some (vz b0), some (vz v122), some (vz (tu + 1)), none, none, none, none]) (fun i v h => by rcases i with _ | _ | _ | _ | _ | _ | _ | _ | i <;> first | exact h | (simp at h)) ?_
            exact ih (dp := (dp - 1)) (stp := (stp + 1)) (SK := SK) (SE := (zu SE x_ b0)) (any_ := v122) (tu := (tu + 1)) (nt := nt) (ct := ct) (P := P) ha hse_ hstk hq hki hne hot hra hcle pcsI_tkn (by omega) (rgs_zu jsr (by omega)) (osame_s jsa) (oI_leaf jin (by omega) hx_ (by omega) (by omega)) (by omega) (by omega) (by omega) jlf hfr (by omega) hk0 hk1
        · refine zz_iconst d_OM_isClearFrom_105 ?_
          refine ab_goto (tgt := 110) d_OM_isClearFrom_106 (by decide) ?_
          refine ab_istore d_OM_isClearFrom_110 (Nat.le_of_ble_eq_true rfl) (Nat.le_of_ble_eq_true rfl) rfl ?_
          change ab_W _ _ _ G6 112 [some (vR a), some (vz b0), some (vz any_), some (vz tu), some (vz x_), some (vz (K x_)), some (vz 1), none] [] _
          refine ab_aload_n d_OM_isClearFrom_112 rfl ?_
          refine ab_getf (fs := [sp0, vR wk, vR onw, vR tkn, vR se_, vR cle, vR stk, vz (dp - 1), vz fo, vz chn, vR q, s0, vz hw, vz fy, vj (stp + 1)]) f_OM_47 d_OM_isClearFrom_113 ha.2.2 rfl ?_
          refine ab_iload d_OM_isClearFrom_116 rfl ?_
          refine ab_callV (d' := d - 1) (as := [vz x_]) (st := []) (r := _) (zq_PR_takes (o := o) (q := q) (lq := lq) (ki := ki) (ne := ne) (ot := ot) (cnt := cnt) (fi := fi) (la := la) (ra := ra) (ru := ru) (gr := gr) (wi := wi) (sz := sz) (fl := fl) (ve := ve) (mi := mi) (na := na) (nl := nl) (K := K) (x := x_) hq hki (by omega) hp (by omega)) (fun oc G2 h => by rcases h with ⟨h, _⟩ | ⟨h, _⟩ <;> exact ⟨_, h⟩) (by omega) m_PR_takes ml_OM_70 im_PR_takes se_PR_takes c_PR hq.2.2 (Nat.le_of_ble_eq_true rfl) d_OM_isClearFrom_118 rfl ?_
          intro v G127 hq
          rcases hq with ⟨hv, hGe, hq128⟩ | ⟨hv, hGe, hq129⟩
          · cases hv
            rw [hGe]
            change ab_W _ _ _ G6 121 [some (vR a), some (vz b0), some (vz any_), some (vz tu), some (vz x_), some (vz (K x_)), some (vz 1), none] [vz 1] _
            refine zz_if_eq (tgt := 141) d_OM_isClearFrom_121 (by decide) (by decide) (fun c130 => absurd c130 (by decide)) (fun c130 => ?_)
            refine ab_iload_n d_OM_isClearFrom_124 rfl ?_
            refine zz_if_ne (tgt := 137) d_OM_isClearFrom_125 (by decide) (by omega) (fun c131 => ?_) (fun c131 => ?_)
            · refine zz_iconst d_OM_isClearFrom_137 ?_
              refine ab_goto (tgt := 142) d_OM_isClearFrom_138 (by decide) ?_
              refine ab_istore d_OM_isClearFrom_142 (Nat.le_of_ble_eq_true rfl) (Nat.le_of_ble_eq_true rfl) rfl ?_
              change ab_W _ _ _ G6 144 [some (vR a), some (vz b0), some (vz any_), some (vz tu), some (vz x_), some (vz (K x_)), some (vz 1), some (vz 1)] [] _
              refine ab_iload d_OM_isClearFrom_144 rfl ?_
              refine zz_if_ne (tgt := 154) d_OM_isClearFrom_146 (by decide) (by decide) (fun c132 => ?_) (fun c132 => absurd c132 (by decide))
              refine zz_iconst d_OM_isClearFrom_154 ?_
              refine zz_bret rfl (by decide) d_OM_isClearFrom_155 ?_
              exact hk0 _ _ _ _ _ _ _ _ _ ha hse_ hstk hcle pcsI_tkn (by first | exact jsr | exact rgs_w jsr (by omega)) (by exact jsa) (by omega) (by omega) (by omega) hfr
            · refine ab_aload_n d_OM_isClearFrom_128 rfl ?_
              refine ab_iload d_OM_isClearFrom_129 rfl ?_
              refine ab_callV (d' := d - 1) (as := [vz x_]) (st := []) (r := _) (z_OM_isNewTaker (o := o) (a := a) (wk := wk) (onw := onw) (tkn := tkn) (se_ := se_) (cle := cle) (stk := stk) (dp := (dp - 1)) (fo := fo) (chn := chn) (hw := hw) (fy := fy) (stp := (stp + 1)) (q := q) (lq := lq) (ki := ki) (ne := ne) (ot := ot) (cnt := cnt) (fi := fi) (la := la) (ra := ra) (ru := ru) (gr := gr) (wi := wi) (sz := sz) (fl := fl) (ve := ve) (mi := mi) (na := na) (nl := nl) (K := K) (O := O) (RR := RR) (nr := nr) (sp0 := sp0) (s0 := s0) (x := x_) (nt := nt) (ct := ct) (P := P) ha hq hki hot hra pcsI_tkn (by omega) hp hpu hr (by omega) (by omega) (by omega) jlf (by omega) (by omega) (by omega)) (fun oc G2 h => by rcases h with ⟨_, h, _⟩ | ⟨_, _, _, _, _, h, _⟩ <;> exact ⟨_, h⟩) (by omega) m_OM_isNewTaker ml_OM_86 im_OM_isNewTaker se_OM_isNewTaker c_OM ha.2.2 (Nat.le_of_ble_eq_true rfl) d_OM_isClearFrom_131 rfl ?_
              intro v G133 hq
              rcases hq with ⟨v134, hv, hGe, hq135⟩ | ⟨o136, v137, n2138, c2139, P2140, hv, hfk, pNcsI_tkn, hq141, hq142, hq143, hq144, hq145⟩
              · cases hv
                rw [hGe]
                change ab_W _ _ _ G6 134 [some (vR a), some (vz b0), some (vz any_), some (vz tu), some (vz x_), some (vz (K x_)), some (vz 1), none] [vz v134] _
                refine zz_if_ne (tgt := 141) d_OM_isClearFrom_134 (by decide) (by omega) (fun c147 => ?_) (fun c147 => ?_)
                · refine zz_iconst d_OM_isClearFrom_141 ?_
                  refine ab_istore d_OM_isClearFrom_142 (Nat.le_of_ble_eq_true rfl) (Nat.le_of_ble_eq_true rfl) rfl ?_
                  change ab_W _ _ _ G6 144 [some (vR a), some (vz b0), some (vz any_), some (vz tu), some (vz x_), some (vz (K x_)), some (vz 1), some (vz 0)] [] _
                  refine ab_iload d_OM_isClearFrom_144 rfl ?_
                  refine zz_if_ne (tgt := 154) d_OM_isClearFrom_146 (by decide) (by decide) (fun c148 => ?_) (fun c148 => absurd c148 (by decide))
                  refine zz_iconst d_OM_isClearFrom_154 ?_
                  refine zz_bret rfl (by decide) d_OM_isClearFrom_155 ?_
                  exact hk0 _ _ _ _ _ _ _ _ _ ha hse_ hstk hcle pcsI_tkn (by first | exact jsr | exact rgs_w jsr (by omega)) (by exact jsa) (by omega) (by omega) (by omega) hfr
                · refine zz_iconst d_OM_isClearFrom_137 ?_
                  refine ab_goto (tgt := 142) d_OM_isClearFrom_138 (by decide) ?_
                  refine ab_istore d_OM_isClearFrom_142 (Nat.le_of_ble_eq_true rfl) (Nat.le_of_ble_eq_true rfl) rfl ?_
                  change ab_W _ _ _ G6 144 [some (vR a), some (vz b0), some (vz any_), some (vz tu), some (vz x_), some (vz (K x_)), some (vz 1), some (vz 1)] [] _
                  refine ab_iload d_OM_isClearFrom_144 rfl ?_
                  refine zz_if_ne (tgt := 154) d_OM_isClearFrom_146 (by decide) (by decide) (fun c149 => ?_) (fun c149 => absurd c149 (by decide))
                  refine zz_iconst d_OM_isClearFrom_154 ?_
                  refine zz_bret rfl (by decide) d_OM_isClearFrom_155 ?_
                  exact hk0 _ _ _ _ _ _ _ _ _ ha hse_ hstk hcle pcsI_tkn (by first | exact jsr | exact rgs_w jsr (by omega)) (by exact jsa) (by omega) (by omega) (by omega) hfr
              · cases hv
                have ha := hfk.get ha (by decide)
                have hse_ := hfk.get hse_ (by decide)
                have hstk := hfk.get hstk (by decide)
                have hq := hfk.get hq (by simp only [List.mem_cons, List.not_mem_nil, or_false]; omega)
                have hki := hfk.get hki (by simp only [List.mem_cons, List.not_mem_nil, or_false]; omega)
                have hne := hfk.get hne (by simp only [List.mem_cons, List.not_mem_nil, or_false]; omega)
                have hot := hfk.get hot (by simp only [List.mem_cons, List.not_mem_nil, or_false]; omega)
                have hra := hfk.get hra (by simp only [List.mem_cons, List.not_mem_nil, or_false]; omega)
                have hcle := hfk.get hcle (by decide)
                have pcsI_tkn := pNcsI_tkn
                have hfr := hfr.tr hfk (by decide)
                have hq146 := hfk.1
                change ab_W _ _ _ G133 134 [some (vR a), some (vz b0), some (vz any_), some (vz tu), some (vz x_), some (vz (K x_)), some (vz 1), none] [vz v137] _
                refine zz_if_ne (tgt := 141) d_OM_isClearFrom_134 (by decide) (by omega) (fun c150 => ?_) (fun c150 => ?_)
                · refine zz_iconst d_OM_isClearFrom_141 ?_
                  refine ab_istore d_OM_isClearFrom_142 (Nat.le_of_ble_eq_true rfl) (Nat.le_of_ble_eq_true rfl) rfl ?_
                  change ab_W _ _ _ G133 144 [some (vR a), some (vz b0), some (vz any_), some (vz tu), some (vz x_), some (vz (K x_)), some (vz 1), some (vz 0)] [] _
                  refine ab_iload d_OM_isClearFrom_144 rfl ?_
                  refine zz_if_ne (tgt := 154) d_OM_isClearFrom_146 (by decide) (by decide) (fun c151 => ?_) (fun c151 => absurd c151 (by decide))
                  refine zz_iconst d_OM_isClearFrom_154 ?_
                  refine zz_bret rfl (by decide) d_OM_isClearFrom_155 ?_
                  exact hk0 _ _ _ _ _ _ _ _ _ ha hse_ hstk hcle pcsI_tkn (by first | exact jsr | exact rgs_w jsr (by omega)) (by exact jsa) (by omega) (by omega) (by omega) hfr
                · refine zz_iconst d_OM_isClearFrom_137 ?_
                  refine ab_goto (tgt := 142) d_OM_isClearFrom_138 (by decide) ?_
                  refine ab_istore d_OM_isClearFrom_142 (Nat.le_of_ble_eq_true rfl) (Nat.le_of_ble_eq_true rfl) rfl ?_
                  change ab_W _ _ _ G133 144 [some (vR a), some (vz b0), some (vz any_), some (vz tu), some (vz x_), some (vz (K x_)), some (vz 1), some (vz 1)] [] _
                  refine ab_iload d_OM_isClearFrom_144 rfl ?_
                  refine zz_if_ne (tgt := 154) d_OM_isClearFrom_146 (by decide) (by decide) (fun c152 => ?_) (fun c152 => absurd c152 (by decide))
                  refine zz_iconst d_OM_isClearFrom_154 ?_
                  refine zz_bret rfl (by decide) d_OM_isClearFrom_155 ?_
                  exact hk0 _ _ _ _ _ _ _ _ _ ha hse_ hstk hcle pcsI_tkn (by first | exact jsr | exact rgs_w jsr (by omega)) (by exact jsa) (by omega) (by omega) (by omega) hfr
          · cases hv
            rw [hGe]
            change ab_W _ _ _ G6 121 [some (vR a), some (vz b0), some (vz any_), some (vz tu), some (vz x_), some (vz (K x_)), some (vz 1), none] [vz 0] _
            refine zz_if_eq (tgt := 141) d_OM_isClearFrom_121 (by decide) (by decide) (fun c153 => ?_) (fun c153 => absurd c153 (by decide))
            refine zz_iconst d_OM_isClearFrom_141 ?_
            refine ab_istore d_OM_isClearFrom_142 (Nat.le_of_ble_eq_true rfl) (Nat.le_of_ble_eq_true rfl) rfl ?_
            change ab_W _ _ _ G6 144 [some (vR a), some (vz b0), some (vz any_), some (vz tu), some (vz x_), some (vz (K x_)), some (vz 1), some (vz 0)] [] _
            refine ab_iload d_OM_isClearFrom_144 rfl ?_
            refine zz_if_ne (tgt := 154) d_OM_isClearFrom_146 (by decide) (by decide) (fun c154 => ?_) (fun c154 => absurd c154 (by decide))
            refine zz_iconst d_OM_isClearFrom_154 ?_
            refine zz_bret rfl (by decide) d_OM_isClearFrom_155 ?_
            exact hk0 _ _ _ _ _ _ _ _ _ ha hse_ hstk hcle pcsI_tkn (by first | exact jsr | exact rgs_w jsr (by omega)) (by exact jsa) (by omega) (by omega) (by omega) hfr
set_option maxRecDepth 100000 in
set_option maxHeartbeats 4000000 in
theorem z_OM_isClearFrom {X : ab_X} {d : Nat} {o : Nat → Nat} {G : ab_G} {a : Nat} {wk : Nat} {onw : Nat} {tkn : Nat} {se_ : Nat} {cle : Nat} {stk : Nat} {dp : Int} {fo : Int} {chn : Int} {hw : Int} {fy : Int} {stp : Int} {SK : Int → Int} {q : Nat} {lq : Nat} {ki : Nat} {ne : Nat} {ot : Nat} {cnt : Int} {fi : Int} {la : Int} {ra : Nat} {ru : Int} {gr : Int} {wi : Int} {sz : Int} {fl : Int} {ve : Int} {mi : Int} {na : Nat} {nl : Nat} {K : Int → Int} {N : Int → Int} {O : Int → Int} {RR : Int → Int} {nr : Nat} {sp0 : Value} {s0 : Value} {SE : Int → Int} {CL : Int → Int} {b0 : Int} {nt : Nat} {ct : Int} {P : Int → Prop} (ha : cc o G a 50 (ab_ob 3 [sp0, vR wk, vR onw, vR tkn, vR se_, vR cle, vR stk, vz dp, vz fo, vz chn, vR q, s0, vz hw, vz fy, vj stp])) (hse_ : cc o G se_ 55 (za 808 SE)) (hstk : cc o G stk 57 (za 809 SK)) (hq : cc o G q lq (ab_ob 5 [vR ki, vR ne, vR ot, vz cnt, vz fi, vz la, vR ra, vz ru, vz gr, vz wi, vz sz, vz fl, vz ve, vz mi, vR na, vR nl])) (hki : cc o G ki (lq + 1) (za 808 K)) (hne : cc o G ne (lq + 2) (za 808 N)) (hot : cc o G ot (lq + 3) (za 808 O)) (hra : cc o G ra (lq + 4) (za nr RR)) (hcle : cc o G cle 56 (za 808 CL)) (pcsI_tkn : csI o G tkn 53 54 nt ct P) (cq : 100 ≤ lq ∧ 0 ≤ cnt ∧ cnt ≤ 808 ∧ ↑nr ≤ (100000 : Int)) (hp : prok K N O RR cnt ↑nr wi) (hpu : prok K N O RR cnt ru wi) (hr : ∀ k : Int, 0 ≤ k → k < ↑nr → 0 ≤ RR k ∧ RR k ≤ 1114111) (cru : 0 ≤ ru ∧ ru ≤ ↑nr ∧ ru ≤ 50000) (ck9 : K 0 = 9) (cb : 0 ≤ b0 ∧ b0 < cnt) (jsr : rgs SE 808 (-1) 808) (jse : onew SE b0 cnt) (hn : nt ≤ 104000) (rc : G.length + 3400 ≤ ab_n0 + room_1.cells) (rs : ab_slots G + 208000 ≤ room_1.slots + 2 * nt) (hd : 8 ≤ d) : ab_F X d y_OM_isClearFrom (.code y_OM_isClearFrom b_OM_isClearFrom 8 (some (.boolean))) [vR a, vz b0] G (fun oc G2 => (∃ o2 : Nat → Nat, ∃ dp2 : Int, ∃ st2 : Int, ∃ SK2 : Int → Int, ∃ SE2 : Int → Int, ∃ n2 : Nat, ∃ c2 : Int, ∃ P2 : Int → Prop, oc = .returned (some (vz 0)) ∧ fx o o2 [50, 53, 54, 55, 56, 57] G G2 ∧ cc o2 G2 a 50 (ab_ob 3 [sp0, vR wk, vR onw, vR tkn, vR se_, vR cle, vR stk, vz dp2, vz fo, vz chn, vR q, s0, vz hw, vz fy, vj st2]) ∧ cc o2 G2 se_ 55 (za 808 SE2) ∧ cc o2 G2 stk 57 (za 809 SK2) ∧ cc o2 G2 cle 56 (za 808 (zu CL b0 1)) ∧ csI o2 G2 tkn 53 54 n2 c2 P2 ∧ (rgs SE2 808 (-1) 808) ∧ (osame SE SE2 b0) ∧ (n2 ≤ 104000) ∧ (64 * G2.length + nt ≤ 64 * G.length + n2) ∧ (ab_slots G2 + 2 * nt ≤ ab_slots G + 2 * n2)) ∨ (∃ o2 : Nat → Nat, ∃ dp2 : Int, ∃ st2 : Int, ∃ SK2 : Int → Int, ∃ SE2 : Int → Int, ∃ n2 : Nat, ∃ c2 : Int, ∃ P2 : Int → Prop, oc = .returned (some (vz 1)) ∧ fx o o2 [50, 53, 54, 55, 56, 57] G G2 ∧ cc o2 G2 a 50 (ab_ob 3 [sp0, vR wk, vR onw, vR tkn, vR se_, vR cle, vR stk, vz dp2, vz fo, vz chn, vR q, s0, vz hw, vz fy, vj st2]) ∧ cc o2 G2 se_ 55 (za 808 SE2) ∧ cc o2 G2 stk 57 (za 809 SK2) ∧ cc o2 G2 cle 56 (za 808 (zu CL b0 1)) ∧ csI o2 G2 tkn 53 54 n2 c2 P2 ∧ (rgs SE2 808 (-1) 808) ∧ (osame SE SE2 b0) ∧ (n2 ≤ 104000) ∧ (64 * G2.length + nt ≤ 64 * G.length + n2) ∧ (ab_slots G2 + 2 * nt ≤ ab_slots G + 2 * n2) ∧ (oclear K N O cnt b0))) := by
  refine ab_F_of (by decide +kernel) (Nat.le_of_ble_eq_true rfl) ?_
  obtain ⟨Q, hQ⟩ : ∃ z : Outcome → ab_G → Prop, z = (fun oc G2 => (∃ o2 : Nat → Nat, ∃ dp2 : Int, ∃ st2 : Int, ∃ SK2 : Int → Int, ∃ SE2 : Int → Int, ∃ n2 : Nat, ∃ c2 : Int, ∃ P2 : Int → Prop, oc = .returned (some (vz 0)) ∧ fx o o2 [50, 53, 54, 55, 56, 57] G G2 ∧ cc o2 G2 a 50 (ab_ob 3 [sp0, vR wk, vR onw, vR tkn, vR se_, vR cle, vR stk, vz dp2, vz fo, vz chn, vR q, s0, vz hw, vz fy, vj st2]) ∧ cc o2 G2 se_ 55 (za 808 SE2) ∧ cc o2 G2 stk 57 (za 809 SK2) ∧ cc o2 G2 cle 56 (za 808 (zu CL b0 1)) ∧ csI o2 G2 tkn 53 54 n2 c2 P2 ∧ (rgs SE2 808 (-1) 808) ∧ (osame SE SE2 b0) ∧ (n2 ≤ 104000) ∧ (64 * G2.length + nt ≤ 64 * G.length + n2) ∧ (ab_slots G2 + 2 * nt ≤ ab_slots G + 2 * n2)) ∨ (∃ o2 : Nat → Nat, ∃ dp2 : Int, ∃ st2 : Int, ∃ SK2 : Int → Int, ∃ SE2 : Int → Int, ∃ n2 : Nat, ∃ c2 : Int, ∃ P2 : Int → Prop, oc = .returned (some (vz 1)) ∧ fx o o2 [50, 53, 54, 55, 56, 57] G G2 ∧ cc o2 G2 a 50 (ab_ob 3 [sp0, vR wk, vR onw, vR tkn, vR se_, vR cle, vR stk, vz dp2, vz fo, vz chn, vR q, s0, vz hw, vz fy, vj st2]) ∧ cc o2 G2 se_ 55 (za 808 SE2) ∧ cc o2 G2 stk 57 (za 809 SK2) ∧ cc o2 G2 cle 56 (za 808 (zu CL b0 1)) ∧ csI o2 G2 tkn 53 54 n2 c2 P2 ∧ (rgs SE2 808 (-1) 808) ∧ (osame SE SE2 b0) ∧ (n2 ≤ 104000) ∧ (64 * G2.length + nt ≤ 64 * G.length + n2) ∧ (ab_slots G2 + 2 * nt ≤ ab_slots G + 2 * n2) ∧ (oclear K N O cnt b0))) := ⟨_, rfl⟩
  rw [← hQ]
  change ab_W X (ab_pl y_OM_isClearFrom b_OM_isClearFrom 8 (some (.boolean))) d G 0 [some (vR a), some (vz b0), none, none, none, none, none, none] [] Q
  have hfr : fx o o [50, 53, 54, 55, 56, 57] G G := fx.rf
  refine ab_aload_n d_OM_isClearFrom_0 rfl ?_
  refine ab_getf (fs := [sp0, vR wk, vR onw, vR tkn, vR se_, vR cle, vR stk, vz dp, vz fo, vz chn, vR q, s0, vz hw, vz fy, vj stp]) f_OM_31 d_OM_isClearFrom_1 ha.2.2 rfl ?_
  refine ab_iload_n d_OM_isClearFrom_4 rfl ?_
  refine zz_iconst d_OM_isClearFrom_5 ?_
  refine zz_iast d_OM_isClearFrom_6 hcle (by omega) (hcle.2.1 (by decide)) ?_
  obtain ⟨G1, eG1⟩ : ∃ z : ab_G, z = List.set G cle (za 808 (zu CL b0 1)) := ⟨_, rfl⟩
  have ha := ha.keep hcle eG1 (by decide)
  have hse_ := hse_.keep hcle eG1 (by decide)
  have hstk := hstk.keep hcle eG1 (by decide)
  have hq := hq.keep hcle eG1 (by omega)
  have hki := hki.keep hcle eG1 (by omega)
  have hne := hne.keep hcle eG1 (by omega)
  have hot := hot.keep hcle eG1 (by omega)
  have hra := hra.keep hcle eG1 (by omega)
  have hst := (fx.rf (o := o) (S := [56]) (G := G)).wr hcle eG1 (List.mem_singleton.mpr rfl)
  have pcsI_tkn := csI.fr hst pcsI_tkn (by decide) (by decide)
  have hq2 := z_len eG1
  have hq3 := z_sl hcle eG1 rfl
  have hfr := hfr.wr hcle eG1 (by decide)
  have hcle := hcle.kept eG1
  change ab_W _ _ _ (List.set G cle (za 808 (zu CL b0 1))) 7 [some (vR a), some (vz b0), none, none, none, none, none, none] [] _
  rw [← eG1]
  refine ab_aload_n d_OM_isClearFrom_7 rfl ?_
  refine ab_getf (fs := [sp0, vR wk, vR onw, vR tkn, vR se_, vR cle, vR stk, vz dp, vz fo, vz chn, vR q, s0, vz hw, vz fy, vj stp]) f_OM_24 d_OM_isClearFrom_8 ha.2.2 rfl ?_
  obtain ⟨fsR, hR⟩ := pcsI_tkn.recv
  refine ab_callV (d' := d - 1) (as := []) (st := []) (r := _) (c_CS_clear (o := o) (r := tkn) (lr := 53) (lb := 54) (n := nt) (cnt := ct) (P := P) pcsI_tkn) (fun oc G2 h => by rcases h with ⟨h, _⟩ <;> exact ⟨_, h⟩) (by omega) m_CS_clear ml_OM_73 im_CS_clear se_CS_clear c_CS hR (Nat.le_of_ble_eq_true rfl) d_OM_isClearFrom_11 rfl ?_
  intro v G4 hq
  rcases hq with ⟨hv, hfk, hlk, hsk, pNcsI_tkn⟩
  cases hv
  have ha := hfk.get ha (by decide)
  have hse_ := hfk.get hse_ (by decide)
  have hstk := hfk.get hstk (by decide)
  have hq := hfk.get hq (by simp only [List.mem_cons, List.not_mem_nil, or_false]; omega)
  have hki := hfk.get hki (by simp only [List.mem_cons, List.not_mem_nil, or_false]; omega)
  have hne := hfk.get hne (by simp only [List.mem_cons, List.not_mem_nil, or_false]; omega)
  have hot := hfk.get hot (by simp only [List.mem_cons, List.not_mem_nil, or_false]; omega)
  have hra := hfk.get hra (by simp only [List.mem_cons, List.not_mem_nil, or_false]; omega)
  have hcle := hfk.get hcle (by decide)
  have pcsI_tkn := pNcsI_tkn
  have hfr := hfr.tr hfk (by decide)
  have hq5 := hlk
  have hq6 := hsk
  change ab_W _ _ _ G4 14 [some (vR a), some (vz b0), none, none, none, none, none, none] [] _
  refine zz_iconst d_OM_isClearFrom_14 ?_
  refine ab_istore_n d_OM_isClearFrom_15 (Nat.le_of_ble_eq_true rfl) (Nat.le_of_ble_eq_true rfl) rfl ?_
  change ab_W _ _ _ G4 16 [some (vR a), some (vz b0), some (vz 0), none, none, none, none, none] [] _
  refine ab_aload_n d_OM_isClearFrom_16 rfl ?_
  refine ab_getf (fs := [sp0, vR wk, vR onw, vR tkn, vR se_, vR cle, vR stk, vz dp, vz fo, vz chn, vR q, s0, vz hw, vz fy, vj stp]) f_OM_34 d_OM_isClearFrom_17 ha.2.2 rfl ?_
  refine zz_iconst d_OM_isClearFrom_20 ?_
  refine ab_iload_n d_OM_isClearFrom_21 rfl ?_
  refine zz_iast d_OM_isClearFrom_22 hstk (by omega) (hstk.2.1 (by decide)) ?_
  obtain ⟨G7, eG7⟩ : ∃ z : ab_G, z = List.set G4 stk (za 809 (zu SK 0 b0)) := ⟨_, rfl⟩
  have ha := ha.keep hstk eG7 (by decide)
  have hse_ := hse_.keep hstk eG7 (by decide)
  have hq := hq.keep hstk eG7 (by omega)
  have hki := hki.keep hstk eG7 (by omega)
  have hne := hne.keep hstk eG7 (by omega)
  have hot := hot.keep hstk eG7 (by omega)
  have hra := hra.keep hstk eG7 (by omega)
  have hcle := hcle.keep hstk eG7 (by decide)
  have hst := (fx.rf (o := o) (S := [57]) (G := G4)).wr hstk eG7 (List.mem_singleton.mpr rfl)
  have pcsI_tkn := csI.fr hst pcsI_tkn (by decide) (by decide)
  have hq8 := z_len eG7
  have hq9 := z_sl hstk eG7 rfl
  have hfr := hfr.wr hstk eG7 (by decide)
  have hstk := hstk.kept eG7
  change ab_W _ _ _ (List.set G4 stk (za 809 (zu SK 0 b0))) 23 [some (vR a), some (vz b0), some (vz 0), none, none, none, none, none] [] _
  rw [← eG7]
  refine ab_aload_n d_OM_isClearFrom_23 rfl ?_
  refine zz_iconst d_OM_isClearFrom_24 ?_
  refine ab_putf (fs := [sp0, vR wk, vR onw, vR tkn, vR se_, vR cle, vR stk, vz dp, vz fo, vz chn, vR q, s0, vz hw, vz fy, vj stp]) f_OM_76 (Or.inl rfl) d_OM_isClearFrom_25 ha.2.2 (Nat.le_of_ble_eq_true rfl) (fun _ => ⟨rfl, rfl⟩) (ha.2.1 (by decide)) ?_
  obtain ⟨G10, eG10⟩ : ∃ z : ab_G, z = List.set G7 a (ab_ob 3 [sp0, vR wk, vR onw, vR tkn, vR se_, vR cle, vR stk, vz 1, vz fo, vz chn, vR q, s0, vz hw, vz fy, vj stp]) := ⟨_, rfl⟩
  have hse_ := hse_.keep ha eG10 (by decide)
  have hstk := hstk.keep ha eG10 (by decide)
  have hq := hq.keep ha eG10 (by omega)
  have hki := hki.keep ha eG10 (by omega)
  have hne := hne.keep ha eG10 (by omega)
  have hot := hot.keep ha eG10 (by omega)
  have hra := hra.keep ha eG10 (by omega)
  have hcle := hcle.keep ha eG10 (by decide)
  have hst := (fx.rf (o := o) (S := [50]) (G := G7)).wr ha eG10 (List.mem_singleton.mpr rfl)
  have pcsI_tkn := csI.fr hst pcsI_tkn (by decide) (by decide)
  have hq11 := z_len eG10
  have hq12 := z_sl ha eG10 rfl
  have hfr := hfr.wr ha eG10 (by decide)
  have ha := ha.kept eG10
  change ab_W _ _ _ (List.set G7 a (ab_ob 3 [sp0, vR wk, vR onw, vR tkn, vR se_, vR cle, vR stk, vz 1, vz fo, vz chn, vR q, s0, vz hw, vz fy, vj stp])) 28 [some (vR a), some (vz b0), some (vz 0), none, none, none, none, none] [] _
  rw [← eG10]
  refine zz_iconst d_OM_isClearFrom_28 ?_
  refine ab_istore_n d_OM_isClearFrom_29 (Nat.le_of_ble_eq_true rfl) (Nat.le_of_ble_eq_true rfl) rfl ?_
  change ab_W _ _ _ G10 30 [some (vR a), some (vz b0), some (vz 0), some (vz 0), none, none, none, none] [] _
  refine y_OM_isClearFrom_30 (a := a) (wk := wk) (onw := onw) (tkn := tkn) (se_ := se_) (cle := cle) (stk := stk) (fo := fo) (chn := chn) (hw := hw) (fy := fy) (q := q) (lq := lq) (ki := ki) (ne := ne) (ot := ot) (cnt := cnt) (fi := fi) (la := la) (ra := ra) (ru := ru) (gr := gr) (wi := wi) (sz := sz) (fl := fl) (ve := ve) (mi := mi) (na := na) (nl := nl) (K := K) (N := N) (O := O) (RR := RR) (nr := nr) (sp0 := sp0) (s0 := s0) (CL := (zu CL b0 1)) (b0 := b0) (SE0 := SE) (n0 := nt) (dp := 1) (stp := stp) (SK := (zu SK 0 b0)) (SE := SE) (any_ := 0) (tu := 0) (nt := nt) (ct := 0) (P := (fun _ => False)) (by omega) hp hpu hr (by omega) (by omega) (by omega) (by omega) (by omega) (by omega) (Int.toNat (1616 - 0) + 1) ha hse_ hstk hq hki hne hot hra hcle pcsI_tkn (by omega) jsr osame_0 (oI_0 (by omega) jse) (by omega) (by omega) (by omega) olfe_0 hfr (by omega) (fun G13 o14 dp215 st216 SK217 SE218 n219 c220 P221 ha hse_ hstk hcle pcsI_tkn hq22 hq23 hq24 hq25 hq26 hfr => ?_) (fun G27 o28 dp229 st230 SK231 SE232 n233 c234 P235 ha hse_ hstk hcle pcsI_tkn hq36 hq37 hq38 hq39 hq40 hq41 hfr => ?_)
  · rw [hQ]; exact (Or.inl ⟨_, _, _, _, _, _, _, _, rfl, hfr, ha, hse_, hstk, hcle, pcsI_tkn, (by first | exact hq22 | exact rgs_w hq22 (by omega)), (by exact hq23), (by omega), (by omega), (by omega)⟩)
  · rw [hQ]; exact (Or.inr ⟨_, _, _, _, _, _, _, _, rfl, hfr, ha, hse_, hstk, hcle, pcsI_tkn, (by first | exact hq36 | exact rgs_w hq36 (by omega)), (by exact hq37), (by omega), (by omega), (by omega), (by exact hq41)⟩)
