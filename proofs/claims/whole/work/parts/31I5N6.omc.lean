set_option maxRecDepth 100000 in
set_option maxHeartbeats 4000000 in
theorem y_OM_isNewTaker_102 {X : ab_X} {d : Nat} {Q : Outcome → ab_G → Prop} {o0 : Nat → Nat} {G0 : ab_G} {a : Nat} {wk : Nat} {onw : Nat} {tkn : Nat} {se_ : Nat} {cle : Nat} {stk : Nat} {dp : Int} {fo : Int} {chn : Int} {hw : Int} {fy : Int} {stp : Int} {q : Nat} {lq : Nat} {ki : Nat} {ne : Nat} {ot : Nat} {cnt : Int} {fi : Int} {la : Int} {ra : Nat} {ru : Int} {gr : Int} {wi : Int} {sz : Int} {fl : Int} {ve : Int} {mi : Int} {na : Nat} {nl : Nat} {K : Int → Int} {O : Int → Int} {RR : Int → Int} {nr : Nat} {sp0 : Value} {s0 : Value} {x : Int} {n0 : Nat} {bh : Int} {P0 : Int → Prop} (cq : 100 ≤ lq ∧ 0 ≤ cnt ∧ cnt ≤ 808 ∧ ↑nr ≤ (100000 : Int)) (hr : ∀ k : Int, 0 ≤ k → k < ↑nr → 0 ≤ RR k ∧ RR k ≤ 1114111) (cru : 0 ≤ ru ∧ ru ≤ ↑nr ∧ ru ≤ 50000) (cx : 0 ≤ x ∧ x < cnt ∧ K x = 1) (hrec : recok RR ru (O x)) (hrx : 0 ≤ O x ∧ 0 ≤ RR (O x) ∧ O x + 2 * RR (O x) + 1 ≤ ru) (cbh : bh = O x + 2 * RR (O x)) (rc : G0.length + 1700 ≤ ab_n0 + room_1.cells) (rs : ab_slots G0 + 208000 ≤ room_1.slots + 2 * n0) (hd : 5 ≤ d) : ∀ (mz : Nat) {G : ab_G} {o : Nat → Nat} {nw : Int} {i_ : Int} {u : Int} {nt : Nat} {ct : Int} {P : Int → Prop}, (cc o G a 50 (ab_ob 3 [sp0, vR wk, vR onw, vR tkn, vR se_, vR cle, vR stk, vz dp, vz fo, vz chn, vR q, s0, vz hw, vz fy, vj stp])) → (cc o G q lq (ab_ob 5 [vR ki, vR ne, vR ot, vz cnt, vz fi, vz la, vR ra, vz ru, vz gr, vz wi, vz sz, vz fl, vz ve, vz mi, vR na, vR nl])) → (cc o G ki (lq + 1) (za 808 K)) → (cc o G ot (lq + 3) (za 808 O)) → (cc o G ra (lq + 4) (za nr RR)) → (csI o G tkn 53 54 nt ct P) → (i_ = O x + 1 + 2 * u) → (0 ≤ u ∧ u ≤ RR (O x) ∧ 0 ≤ nw ∧ nw ≤ 1) → (nt ≤ 104000) → (64 * G.length + n0 ≤ 64 * G0.length + nt) → (ab_slots G + 2 * n0 ≤ ab_slots G0 + 2 * nt) → (olfe O RR cnt ru P) → (ntI RR (O x) u nw P0 P) → (fx o0 o [53, 54] G0 G) → (Int.toNat (RR (O x) - u) < mz) → (∀ (G2 : ab_G) (o2 : Nat → Nat) (nw2 : Int) (n2 : Nat) (c2 : Int) (P2 : Int → Prop), (csI o2 G2 tkn 53 54 n2 c2 P2) → (0 ≤ nw2 ∧ nw2 ≤ 1) → (n2 ≤ 104000) → (64 * G2.length + n0 ≤ 64 * G0.length + n2) → (ab_slots G2 + 2 * n0 ≤ ab_slots G0 + 2 * n2) → (olfe O RR cnt ru P2) → (ntX K O RR x P0 P2 nw2) → (fx o0 o2 [53, 54] G0 G2) → ab_W X (ab_pl y_OM_isNewTaker b_OM_isNewTaker 6 (some (.boolean))) d G2 186 [none, none, none, some (vz nw2), none, none] [] Q) → ab_W X (ab_pl y_OM_isNewTaker b_OM_isNewTaker 6 (some (.boolean))) d G 102 [some (vR a), none, none, some (vz nw), some (vz bh), some (vz i_)] [] Q := by
  intro mz
  induction mz with
  | zero => intro G o nw i_ u nt ct P ha hq hki hot hra pcsI_tkn ci cu hn hg hs jlf jnt hfr hm hk0; exact absurd hm (Nat.not_lt_zero _)
  | succ mz ih =>
    intro G o nw i_ u nt ct P ha hq hki hot hra pcsI_tkn ci cu hn hg hs jlf jnt hfr hm hk0
    subst ci
    refine ab_iload d_OM_isNewTaker_102 rfl ?_
    refine ab_iload d_OM_isNewTaker_104 rfl ?_
    refine zz_icmp_ge (tgt := 186) d_OM_isNewTaker_106 (by decide) (by omega) (by omega) (fun c1 => ?_) (fun c1 => ?_)
    · refine ab_less (L' := [none, none, none, some (vz nw), none, none]) (fun i v h => by rcases i with _ | _ | _ | _ | _ | _ | i <;> first | exact h | (simp at h)) ?_
      exact hk0 _ _ _ _ _ _ pcsI_tkn (by omega) (by omega) (by omega) (by omega) (by exact jlf) (by exact ntI.xx jnt (by omega) (fun _ => by omega)) hfr
    · refine ab_iload_n d_OM_isNewTaker_109 rfl ?_
      refine zz_if_eq (tgt := 186) d_OM_isNewTaker_110 (by decide) (by omega) (fun c2 => ?_) (fun c2 => ?_)
      · refine ab_less (L' := [none, none, none, some (vz nw), none, none]) (fun i v h => by rcases i with _ | _ | _ | _ | _ | _ | i <;> first | exact h | (simp at h)) ?_
        exact hk0 _ _ _ _ _ _ pcsI_tkn (by omega) (by omega) (by omega) (by omega) (by exact jlf) (by exact ntI.xx jnt (by omega) (fun _ => by omega)) hfr
      · have hql0 := hrec.2.2.2.1 u (by omega) (by omega)
        have hql : 0 ≤ RR (O x + 1 + 2 * u) ∧ RR (O x + 1 + 2 * u) ≤ RR (O x + 1 + 2 * u + 1) ∧ RR (O x + 1 + 2 * u + 1) ≤ 1114111 := by rw [show O x + 1 + 2 * u + 1 = O x + 1 + (2 * u + 1) by omega]; exact ⟨hql0.1, hql0.2.1, hql0.2.2.1⟩
        have hfew := pcsI_tkn.few jlf (by omega) (by omega)
        refine ab_aload_n d_OM_isNewTaker_113 rfl ?_
        refine ab_getf (fs := [sp0, vR wk, vR onw, vR tkn, vR se_, vR cle, vR stk, vz dp, vz fo, vz chn, vR q, s0, vz hw, vz fy, vj stp]) f_OM_24 d_OM_isNewTaker_114 ha.2.2 rfl ?_
        refine ab_aload_n d_OM_isNewTaker_117 rfl ?_
        refine ab_getf (fs := [sp0, vR wk, vR onw, vR tkn, vR se_, vR cle, vR stk, vz dp, vz fo, vz chn, vR q, s0, vz hw, vz fy, vj stp]) f_OM_47 d_OM_isNewTaker_118 ha.2.2 rfl ?_
        refine ab_getf (fs := [vR ki, vR ne, vR ot, vz cnt, vz fi, vz la, vR ra, vz ru, vz gr, vz wi, vz sz, vz fl, vz ve, vz mi, vR na, vR nl]) f_OM_101 d_OM_isNewTaker_121 hq.2.2 rfl ?_
        refine ab_iload d_OM_isNewTaker_124 rfl ?_
        refine zz_iald d_OM_isNewTaker_126 hra (by omega) ?_
        have hq3 := hr (O x + 1 + 2 * u) (by omega) (by omega)
        refine ab_aload_n d_OM_isNewTaker_127 rfl ?_
        refine ab_getf (fs := [sp0, vR wk, vR onw, vR tkn, vR se_, vR cle, vR stk, vz dp, vz fo, vz chn, vR q, s0, vz hw, vz fy, vj stp]) f_OM_47 d_OM_isNewTaker_128 ha.2.2 rfl ?_
        refine ab_getf (fs := [vR ki, vR ne, vR ot, vz cnt, vz fi, vz la, vR ra, vz ru, vz gr, vz wi, vz sz, vz fl, vz ve, vz mi, vR na, vR nl]) f_OM_101 d_OM_isNewTaker_131 hq.2.2 rfl ?_
        refine ab_iload d_OM_isNewTaker_134 rfl ?_
        refine zz_iconst d_OM_isNewTaker_136 ?_
        refine zz_iadd d_OM_isNewTaker_137 ?_
        refine zz_iald d_OM_isNewTaker_138 hra (by omega) ?_
        have hq4 := hr ((O x + 1 + 2 * u) + 1) (by omega) (by omega)
        obtain ⟨fsR, hR⟩ := pcsI_tkn.recv
        refine ab_callV (d' := d - 1) (as := [vz (RR (O x + 1 + 2 * u)), vz (RR ((O x + 1 + 2 * u) + 1))]) (st := []) (r := _) (c_CS_meets (o := o) (r := tkn) (lr := 53) (lb := 54) (n := nt) (cnt := ct) (P := P) (lo := (RR (O x + 1 + 2 * u))) (hi := (RR ((O x + 1 + 2 * u) + 1))) pcsI_tkn (by omega) (by omega)) (fun oc G2 h => by rcases h with ⟨h, _⟩ | ⟨h, _⟩ <;> exact ⟨_, h⟩) (by omega) m_CS_meets ml_OM_93 im_CS_meets se_CS_meets c_CS hR (Nat.le_of_ble_eq_true rfl) d_OM_isNewTaker_139 rfl ?_
        intro v G5 hq
        rcases hq with ⟨hv, hfk, hlk, hsk, pNcsI_tkn⟩ | ⟨hv, hfk, hlk, hsk, pNcsI_tkn, hq6⟩
        · cases hv
          have ha := hfk.get ha (by decide)
          have hq := hfk.get hq (by simp)
          have hki := hfk.get hki (by simp)
          have hot := hfk.get hot (by simp)
          have hra := hfk.get hra (by simp)
          have pcsI_tkn := pNcsI_tkn
          have hfr := hfr.tr hfk (by decide)
          have hq7 := hlk
          have hq8 := hsk
          change ab_W _ _ _ G5 142 [some (vR a), none, none, some (vz nw), some (vz bh), some (vz (O x + 1 + 2 * u))] [vz 1] _
          refine zz_if_ne (tgt := 149) d_OM_isNewTaker_142 (by decide) (by decide) (fun c11 => ?_) (fun c11 => absurd c11 (by decide))
          refine zz_iconst d_OM_isNewTaker_149 ?_
          refine ab_istore_n d_OM_isNewTaker_150 (Nat.le_of_ble_eq_true rfl) (Nat.le_of_ble_eq_true rfl) rfl ?_
          change ab_W _ _ _ G5 151 [some (vR a), none, none, some (vz 0), some (vz bh), some (vz (O x + 1 + 2 * u))] [] _
          refine ab_aload_n d_OM_isNewTaker_151 rfl ?_
          refine ab_getf (fs := [sp0, vR wk, vR onw, vR tkn, vR se_, vR cle, vR stk, vz dp, vz fo, vz chn, vR q, s0, vz hw, vz fy, vj stp]) f_OM_24 d_OM_isNewTaker_152 ha.2.2 rfl ?_
          refine ab_aload_n d_OM_isNewTaker_155 rfl ?_
          refine ab_getf (fs := [sp0, vR wk, vR onw, vR tkn, vR se_, vR cle, vR stk, vz dp, vz fo, vz chn, vR q, s0, vz hw, vz fy, vj stp]) f_OM_47 d_OM_isNewTaker_156 ha.2.2 rfl ?_
          refine ab_getf (fs := [vR ki, vR ne, vR ot, vz cnt, vz fi, vz la, vR ra, vz ru, vz gr, vz wi, vz sz, vz fl, vz ve, vz mi, vR na, vR nl]) f_OM_101 d_OM_isNewTaker_159 hq.2.2 rfl ?_
          refine ab_iload d_OM_isNewTaker_162 rfl ?_
          refine zz_iald d_OM_isNewTaker_164 hra (by omega) ?_
          have hq12 := hr (O x + 1 + 2 * u) (by omega) (by omega)
          refine ab_aload_n d_OM_isNewTaker_165 rfl ?_
          refine ab_getf (fs := [sp0, vR wk, vR onw, vR tkn, vR se_, vR cle, vR stk, vz dp, vz fo, vz chn, vR q, s0, vz hw, vz fy, vj stp]) f_OM_47 d_OM_isNewTaker_166 ha.2.2 rfl ?_
          refine ab_getf (fs := [vR ki, vR ne, vR ot, vz cnt, vz fi, vz la, vR ra, vz ru, vz gr, vz wi, vz sz, vz fl, vz ve, vz mi, vR na, vR nl]) f_OM_101 d_OM_isNewTaker_169 hq.2.2 rfl ?_
          refine ab_iload d_OM_isNewTaker_172 rfl ?_
          refine zz_iconst d_OM_isNewTaker_174 ?_
          refine zz_iadd d_OM_isNewTaker_175 ?_
          refine zz_iald d_OM_isNewTaker_176 hra (by omega) ?_
          have hq13 := hr ((O x + 1 + 2 * u) + 1) (by omega) (by omega)
          obtain ⟨fsR, hR⟩ := pcsI_tkn.recv
          refine ab_callV (d' := d - 1) (as := [vz (RR (O x + 1 + 2 * u)), vz (RR ((O x + 1 + 2 * u) + 1))]) (st := []) (r := _) (c_CS_add (o := o) (r := tkn) (lr := 53) (lb := 54) (n := nt) (cnt := ct) (P := P) (lo := (RR (O x + 1 + 2 * u))) (hi := (RR ((O x + 1 + 2 * u) + 1))) pcsI_tkn (by omega) (by omega) (by omega) (by omega) (by omega)) (fun oc G2 h => by rcases h with ⟨_, _, _, _, h, _⟩ <;> exact ⟨_, h⟩) (by omega) m_CS_add ml_OM_97 im_CS_add se_CS_add c_CS hR (Nat.le_of_ble_eq_true rfl) d_OM_isNewTaker_177 rfl ?_
          intro v G14 hq
          rcases hq with ⟨o15, n216, c217, P218, hv, hfk, pNcsI_tkn, hq19, hq20, hq21, hq22⟩
          cases hv
          have ha := hfk.get ha (by decide)
          have hq := hfk.get hq (by simp only [List.mem_cons, List.not_mem_nil, or_false]; omega)
          have hki := hfk.get hki (by simp only [List.mem_cons, List.not_mem_nil, or_false]; omega)
          have hot := hfk.get hot (by simp only [List.mem_cons, List.not_mem_nil, or_false]; omega)
          have hra := hfk.get hra (by simp only [List.mem_cons, List.not_mem_nil, or_false]; omega)
          have pcsI_tkn := pNcsI_tkn
          have hfr := hfr.tr hfk (by decide)
          have hq23 := hfk.1
          change ab_W _ _ _ G14 180 [some (vR a), none, none, some (vz 0), some (vz bh), some (vz (O x + 1 + 2 * u))] [] _
          refine zz_iinc d_OM_isNewTaker_180 rfl (Nat.le_of_ble_eq_true rfl) (Nat.le_of_ble_eq_true rfl) rfl ?_
          change ab_W _ _ _ G14 183 [some (vR a), none, none, some (vz 0), some (vz bh), some (vz ((O x + 1 + 2 * u) + 2))] [] _
          refine ab_goto (tgt := 102) d_OM_isNewTaker_183 (by decide) ?_
          exact ih (nw := 0) (i_ := ((O x + 1 + 2 * u) + 2)) (u := (u + 1)) (nt := n216) (ct := c217) (P := P218) ha hq hki hot hra pcsI_tkn (by omega) (by omega) (by omega) (by omega) (by omega) (olfe_add jlf (Or.inr ⟨O x, u, hrec, by omega, by omega, rfl⟩) hq19) (ntI.yes jnt (by omega) hq19) hfr (by omega) hk0
        · cases hv
          have ha := hfk.get ha (by decide)
          have hq := hfk.get hq (by simp)
          have hki := hfk.get hki (by simp)
          have hot := hfk.get hot (by simp)
          have hra := hfk.get hra (by simp)
          have pcsI_tkn := pNcsI_tkn
          have hfr := hfr.tr hfk (by decide)
          have hq9 := hlk
          have hq10 := hsk
          change ab_W _ _ _ G5 142 [some (vR a), none, none, some (vz nw), some (vz bh), some (vz (O x + 1 + 2 * u))] [vz 0] _
          refine zz_if_ne (tgt := 149) d_OM_isNewTaker_142 (by decide) (by decide) (fun c24 => absurd c24 (by decide)) (fun c24 => ?_)
          refine zz_iconst d_OM_isNewTaker_145 ?_
          refine ab_goto (tgt := 150) d_OM_isNewTaker_146 (by decide) ?_
          refine ab_istore_n d_OM_isNewTaker_150 (Nat.le_of_ble_eq_true rfl) (Nat.le_of_ble_eq_true rfl) rfl ?_
          change ab_W _ _ _ G5 151 [some (vR a), none, none, some (vz 1), some (vz bh), some (vz (O x + 1 + 2 * u))] [] _
          refine ab_aload_n d_OM_isNewTaker_151 rfl ?_
          refine ab_getf (fs := [sp0, vR wk, vR onw, vR tkn, vR se_, vR cle, vR stk, vz dp, vz fo, vz chn, vR q, s0, vz hw, vz fy, vj stp]) f_OM_24 d_OM_isNewTaker_152 ha.2.2 rfl ?_
          refine ab_aload_n d_OM_isNewTaker_155 rfl ?_
          refine ab_getf (fs := [sp0, vR wk, vR onw, vR tkn, vR se_, vR cle, vR stk, vz dp, vz fo, vz chn, vR q, s0, vz hw, vz fy, vj stp]) f_OM_47 d_OM_isNewTaker_156 ha.2.2 rfl ?_
          refine ab_getf (fs := [vR ki, vR ne, vR ot, vz cnt, vz fi, vz la, vR ra, vz ru, vz gr, vz wi, vz sz, vz fl, vz ve, vz mi, vR na, vR nl]) f_OM_101 d_OM_isNewTaker_159 hq.2.2 rfl ?_
          refine ab_iload d_OM_isNewTaker_162 rfl ?_
          refine zz_iald d_OM_isNewTaker_164 hra (by omega) ?_
          have hq25 := hr (O x + 1 + 2 * u) (by omega) (by omega)
          refine ab_aload_n d_OM_isNewTaker_165 rfl ?_
          refine ab_getf (fs := [sp0, vR wk, vR onw, vR tkn, vR se_, vR cle, vR stk, vz dp, vz fo, vz chn, vR q, s0, vz hw, vz fy, vj stp]) f_OM_47 d_OM_isNewTaker_166 ha.2.2 rfl ?_
          refine ab_getf (fs := [vR ki, vR ne, vR ot, vz cnt, vz fi, vz la, vR ra, vz ru, vz gr, vz wi, vz sz, vz fl, vz ve, vz mi, vR na, vR nl]) f_OM_101 d_OM_isNewTaker_169 hq.2.2 rfl ?_
          refine ab_iload d_OM_isNewTaker_172 rfl ?_
          refine zz_iconst d_OM_isNewTaker_174 ?_
          refine zz_iadd d_OM_isNewTaker_175 ?_
          refine zz_iald d_OM_isNewTaker_176 hra (by omega) ?_
          have hq26 := hr ((O x + 1 + 2 * u) + 1) (by omega) (by omega)
          obtain ⟨fsR, hR⟩ := pcsI_tkn.recv
          refine ab_callV (d' := d - 1) (as := [vz (RR (O x + 1 + 2 * u)), vz (RR ((O x + 1 + 2 * u) + 1))]) (st := []) (r := _) (c_CS_add (o := o) (r := tkn) (lr := 53) (lb := 54) (n := nt) (cnt := ct) (P := P) (lo := (RR (O x + 1 + 2 * u))) (hi := (RR ((O x + 1 + 2 * u) + 1))) pcsI_tkn (by omega) (by omega) (by omega) (by omega) (by omega)) (fun oc G2 h => by rcases h with ⟨_, _, _, _, h, _⟩ <;> exact ⟨_, h⟩) (by omega) m_CS_add ml_OM_97 im_CS_add se_CS_add c_CS hR (Nat.le_of_ble_eq_true rfl) d_OM_isNewTaker_177 rfl ?_
          intro v G27 hq
          rcases hq with ⟨o28, n229, c230, P231, hv, hfk, pNcsI_tkn, hq32, hq33, hq34, hq35⟩
          cases hv
          have ha := hfk.get ha (by decide)
          have hq := hfk.get hq (by simp only [List.mem_cons, List.not_mem_nil, or_false]; omega)
          have hki := hfk.get hki (by simp only [List.mem_cons, List.not_mem_nil, or_false]; omega)
          have hot := hfk.get hot (by simp only [List.mem_cons, List.not_mem_nil, or_false]; omega)
          have hra := hfk.get hra (by simp only [List.mem_cons, List.not_mem_nil, or_false]; omega)
          have pcsI_tkn := pNcsI_tkn
          have hfr := hfr.tr hfk (by decide)
          have hq36 := hfk.1
          change ab_W _ _ _ G27 180 [some (vR a), none, none, some (vz 1), some (vz bh), some (vz (O x + 1 + 2 * u))] [] _
          refine zz_iinc d_OM_isNewTaker_180 rfl (Nat.le_of_ble_eq_true rfl) (Nat.le_of_ble_eq_true rfl) rfl ?_
          change ab_W _ _ _ G27 183 [some (vR a), none, none, some (vz 1), some (vz bh), some (vz ((O x + 1 + 2 * u) + 2))] [] _
          refine ab_goto (tgt := 102) d_OM_isNewTaker_183 (by decide) ?_
          exact ih (nw := 1) (i_ := ((O x + 1 + 2 * u) + 2)) (u := (u + 1)) (nt := n229) (ct := c230) (P := P231) ha hq hki hot hra pcsI_tkn (by omega) (by omega) (by omega) (by omega) (by omega) (olfe_add jlf (Or.inr ⟨O x, u, hrec, by omega, by omega, rfl⟩) hq32) (ntI.no (by have t_ := jnt; rw [show nw = 1 by omega] at t_; exact t_) (by omega) hq32 hq6) hfr (by omega) hk0
set_option maxRecDepth 100000 in
set_option maxHeartbeats 4000000 in
theorem z_OM_isNewTaker {X : ab_X} {d : Nat} {o : Nat → Nat} {G : ab_G} {a : Nat} {wk : Nat} {onw : Nat} {tkn : Nat} {se_ : Nat} {cle : Nat} {stk : Nat} {dp : Int} {fo : Int} {chn : Int} {hw : Int} {fy : Int} {stp : Int} {q : Nat} {lq : Nat} {ki : Nat} {ne : Nat} {ot : Nat} {cnt : Int} {fi : Int} {la : Int} {ra : Nat} {ru : Int} {gr : Int} {wi : Int} {sz : Int} {fl : Int} {ve : Int} {mi : Int} {na : Nat} {nl : Nat} {K : Int → Int} {N : Int → Int} {O : Int → Int} {RR : Int → Int} {nr : Nat} {sp0 : Value} {s0 : Value} {x : Int} {nt : Nat} {ct : Int} {P : Int → Prop} (ha : cc o G a 50 (ab_ob 3 [sp0, vR wk, vR onw, vR tkn, vR se_, vR cle, vR stk, vz dp, vz fo, vz chn, vR q, s0, vz hw, vz fy, vj stp])) (hq : cc o G q lq (ab_ob 5 [vR ki, vR ne, vR ot, vz cnt, vz fi, vz la, vR ra, vz ru, vz gr, vz wi, vz sz, vz fl, vz ve, vz mi, vR na, vR nl])) (hki : cc o G ki (lq + 1) (za 808 K)) (hot : cc o G ot (lq + 3) (za 808 O)) (hra : cc o G ra (lq + 4) (za nr RR)) (pcsI_tkn : csI o G tkn 53 54 nt ct P) (cq : 100 ≤ lq ∧ 0 ≤ cnt ∧ cnt ≤ 808 ∧ ↑nr ≤ (100000 : Int)) (hp : prok K N O RR cnt ↑nr wi) (hpu : prok K N O RR cnt ru wi) (hr : ∀ k : Int, 0 ≤ k → k < ↑nr → 0 ≤ RR k ∧ RR k ≤ 1114111) (cru : 0 ≤ ru ∧ ru ≤ ↑nr ∧ ru ≤ 50000) (cx : 0 ≤ x ∧ x < cnt ∧ K x ≤ 2) (hn : nt ≤ 104000) (jlf : olfe O RR cnt ru P) (rc : G.length + 1700 ≤ ab_n0 + room_1.cells) (rs : ab_slots G + 208000 ≤ room_1.slots + 2 * nt) (hd : 6 ≤ d) : ab_F X d y_OM_isNewTaker (.code y_OM_isNewTaker b_OM_isNewTaker 6 (some (.boolean))) [vR a, vz x] G (fun oc G2 => (∃ v : Int, oc = .returned (some (vz v)) ∧ G2 = G ∧ (0 ≤ v ∧ v ≤ 1) ∧ (ntX K O RR x P P v)) ∨ (∃ o2 : Nat → Nat, ∃ v : Int, ∃ n2 : Nat, ∃ c2 : Int, ∃ P2 : Int → Prop, oc = .returned (some (vz v)) ∧ fx o o2 [53, 54] G G2 ∧ csI o2 G2 tkn 53 54 n2 c2 P2 ∧ (0 ≤ v ∧ v ≤ 1) ∧ (n2 ≤ 104000) ∧ (64 * G2.length + nt ≤ 64 * G.length + n2) ∧ (ab_slots G2 + 2 * nt ≤ ab_slots G + 2 * n2) ∧ (olfe O RR cnt ru P2) ∧ (ntX K O RR x P P2 v))) := by
  refine ab_F_of (by decide +kernel) (Nat.le_of_ble_eq_true rfl) ?_
  obtain ⟨Q, hQ⟩ : ∃ z : Outcome → ab_G → Prop, z = (fun oc G2 => (∃ v : Int, oc = .returned (some (vz v)) ∧ G2 = G ∧ (0 ≤ v ∧ v ≤ 1) ∧ (ntX K O RR x P P v)) ∨ (∃ o2 : Nat → Nat, ∃ v : Int, ∃ n2 : Nat, ∃ c2 : Int, ∃ P2 : Int → Prop, oc = .returned (some (vz v)) ∧ fx o o2 [53, 54] G G2 ∧ csI o2 G2 tkn 53 54 n2 c2 P2 ∧ (0 ≤ v ∧ v ≤ 1) ∧ (n2 ≤ 104000) ∧ (64 * G2.length + nt ≤ 64 * G.length + n2) ∧ (ab_slots G2 + 2 * nt ≤ ab_slots G + 2 * n2) ∧ (olfe O RR cnt ru P2) ∧ (ntX K O RR x P P2 v))) := ⟨_, rfl⟩
  rw [← hQ]
  change ab_W X (ab_pl y_OM_isNewTaker b_OM_isNewTaker 6 (some (.boolean))) d G 0 [some (vR a), some (vz x), none, none, none, none] [] Q
  have hfr : fx o o [53, 54] G G := fx.rf
  refine ab_aload_n d_OM_isNewTaker_0 rfl ?_
  refine ab_getf (fs := [sp0, vR wk, vR onw, vR tkn, vR se_, vR cle, vR stk, vz dp, vz fo, vz chn, vR q, s0, vz hw, vz fy, vj stp]) f_OM_47 d_OM_isNewTaker_1 ha.2.2 rfl ?_
  refine ab_getf (fs := [vR ki, vR ne, vR ot, vz cnt, vz fi, vz la, vR ra, vz ru, vz gr, vz wi, vz sz, vz fl, vz ve, vz mi, vR na, vR nl]) f_OM_89 d_OM_isNewTaker_4 hq.2.2 rfl ?_
  refine ab_iload_n d_OM_isNewTaker_7 rfl ?_
  refine zz_iald d_OM_isNewTaker_8 hot (by omega) ?_
  refine ab_istore_n d_OM_isNewTaker_9 (Nat.le_of_ble_eq_true rfl) (Nat.le_of_ble_eq_true rfl) rfl ?_
  change ab_W _ _ _ G 10 [some (vR a), some (vz x), some (vz (O x)), none, none, none] [] _
  refine ab_aload_n d_OM_isNewTaker_10 rfl ?_
  refine ab_getf (fs := [sp0, vR wk, vR onw, vR tkn, vR se_, vR cle, vR stk, vz dp, vz fo, vz chn, vR q, s0, vz hw, vz fy, vj stp]) f_OM_47 d_OM_isNewTaker_11 ha.2.2 rfl ?_
  refine ab_getf (fs := [vR ki, vR ne, vR ot, vz cnt, vz fi, vz la, vR ra, vz ru, vz gr, vz wi, vz sz, vz fl, vz ve, vz mi, vR na, vR nl]) f_OM_83 d_OM_isNewTaker_14 hq.2.2 rfl ?_
  refine ab_iload_n d_OM_isNewTaker_17 rfl ?_
  refine zz_iald d_OM_isNewTaker_18 hki (by omega) ?_
  have hq1 := hp.k x (by omega) (by omega)
  refine zz_iconst d_OM_isNewTaker_19 ?_
  refine zz_icmp_ne (tgt := 39) d_OM_isNewTaker_20 (by decide) (by omega) (by decide) (fun c2 => ?_) (fun c2 => ?_)
  · refine ab_aload_n d_OM_isNewTaker_39 rfl ?_
    refine ab_getf (fs := [sp0, vR wk, vR onw, vR tkn, vR se_, vR cle, vR stk, vz dp, vz fo, vz chn, vR q, s0, vz hw, vz fy, vj stp]) f_OM_47 d_OM_isNewTaker_40 ha.2.2 rfl ?_
    refine ab_getf (fs := [vR ki, vR ne, vR ot, vz cnt, vz fi, vz la, vR ra, vz ru, vz gr, vz wi, vz sz, vz fl, vz ve, vz mi, vR na, vR nl]) f_OM_83 d_OM_isNewTaker_43 hq.2.2 rfl ?_
    refine ab_iload_n d_OM_isNewTaker_46 rfl ?_
    refine zz_iald d_OM_isNewTaker_47 hki (by omega) ?_
    have hq3 := hp.k x (by omega) (by omega)
    refine zz_if_ne (tgt := 80) d_OM_isNewTaker_48 (by decide) (by omega) (fun c4 => ?_) (fun c4 => ?_)
    · have hrec := hpu.o1 x (by omega) (by omega) (by omega)
      obtain ⟨hr0, hr1, hr2, _⟩ := id hrec
      refine zz_iconst d_OM_isNewTaker_80 ?_
      refine ab_istore_n d_OM_isNewTaker_81 (Nat.le_of_ble_eq_true rfl) (Nat.le_of_ble_eq_true rfl) rfl ?_
      change ab_W _ _ _ G 82 [some (vR a), some (vz x), some (vz (O x)), some (vz 1), none, none] [] _
      refine ab_iload_n d_OM_isNewTaker_82 rfl ?_
      refine zz_iconst d_OM_isNewTaker_83 ?_
      refine ab_aload_n d_OM_isNewTaker_84 rfl ?_
      refine ab_getf (fs := [sp0, vR wk, vR onw, vR tkn, vR se_, vR cle, vR stk, vz dp, vz fo, vz chn, vR q, s0, vz hw, vz fy, vj stp]) f_OM_47 d_OM_isNewTaker_85 ha.2.2 rfl ?_
      refine ab_getf (fs := [vR ki, vR ne, vR ot, vz cnt, vz fi, vz la, vR ra, vz ru, vz gr, vz wi, vz sz, vz fl, vz ve, vz mi, vR na, vR nl]) f_OM_101 d_OM_isNewTaker_88 hq.2.2 rfl ?_
      refine ab_iload_n d_OM_isNewTaker_91 rfl ?_
      refine zz_iald d_OM_isNewTaker_92 hra (by omega) ?_
      have hq5 := hr (O x) (by omega) (by omega)
      refine zz_imul d_OM_isNewTaker_93 ?_
      refine zz_iadd d_OM_isNewTaker_94 ?_
      refine ab_istore d_OM_isNewTaker_95 (Nat.le_of_ble_eq_true rfl) (Nat.le_of_ble_eq_true rfl) rfl ?_
      change ab_W _ _ _ G 97 [some (vR a), some (vz x), some (vz (O x)), some (vz 1), some (vz ((O x) + (2 * (RR (O x))))), none] [] _
      refine ab_iload_n d_OM_isNewTaker_97 rfl ?_
      refine zz_iconst d_OM_isNewTaker_98 ?_
      refine zz_iadd d_OM_isNewTaker_99 ?_
      refine ab_istore d_OM_isNewTaker_100 (Nat.le_of_ble_eq_true rfl) (Nat.le_of_ble_eq_true rfl) rfl ?_
      change ab_W _ _ _ G 102 [some (vR a), some (vz x), some (vz (O x)), some (vz 1), some (vz ((O x) + (2 * (RR (O x))))), some (vz ((O x) + 1))] [] _
      refine ab_less (L' := [some (vR a), none, none, some (vz 1), some (vz ((O x) + (2 * (RR (O x))))), some (vz ((O x) + 1))]) (fun i v h => by rcases i with _ | _ | _ | _ | _ | _ | i <;> first | exact h | (simp at h)) ?_
      refine y_OM_isNewTaker_102 (a := a) (wk := wk) (onw := onw) (tkn := tkn) (se_ := se_) (cle := cle) (stk := stk) (dp := dp) (fo := fo) (chn := chn) (hw := hw) (fy := fy) (stp := stp) (q := q) (lq := lq) (ki := ki) (ne := ne) (ot := ot) (cnt := cnt) (fi := fi) (la := la) (ra := ra) (ru := ru) (gr := gr) (wi := wi) (sz := sz) (fl := fl) (ve := ve) (mi := mi) (na := na) (nl := nl) (K := K) (O := O) (RR := RR) (nr := nr) (sp0 := sp0) (s0 := s0) (n0 := nt) (bh := ((O x) + (2 * (RR (O x))))) (P0 := P) (nw := 1) (i_ := ((O x) + 1)) (u := 0) (nt := nt) (ct := ct) (P := P) (by omega) hr (by omega) (by omega) hrec (by omega) (by omega) (by omega) (by omega) (by omega) (Int.toNat (RR (O x) - 0) + 1) ha hq hki hot hra pcsI_tkn (by omega) (by omega) (by omega) (by omega) (by omega) jlf ntI_0 hfr (by omega) (fun G6 o7 nw28 n29 c210 P211 pcsI_tkn hq12 hq13 hq14 hq15 hq16 hq17 hfr => ?_)
      · change ab_W _ _ _ G6 186 [none, none, none, some (vz nw28), none, none] [] _
        refine ab_iload_n d_OM_isNewTaker_186 rfl ?_
        refine zz_bret rfl (by omega) d_OM_isNewTaker_187 ?_
        rw [hQ]; exact (Or.inr ⟨_, _, _, _, _, rfl, hfr, pcsI_tkn, (by omega), (by omega), (by omega), (by omega), (by exact hq16), (by exact hq17)⟩)
    · have ho0 := hp.o0 x (by omega) (by omega) (by omega)
      have hfew := pcsI_tkn.few jlf (by omega) (by omega)
      refine ab_aload_n d_OM_isNewTaker_51 rfl ?_
      refine ab_getf (fs := [sp0, vR wk, vR onw, vR tkn, vR se_, vR cle, vR stk, vz dp, vz fo, vz chn, vR q, s0, vz hw, vz fy, vj stp]) f_OM_24 d_OM_isNewTaker_52 ha.2.2 rfl ?_
      refine ab_iload_n d_OM_isNewTaker_55 rfl ?_
      refine ab_iload_n d_OM_isNewTaker_56 rfl ?_
      obtain ⟨fsR, hR⟩ := pcsI_tkn.recv
      refine ab_callV (d' := d - 1) (as := [vz (O x), vz (O x)]) (st := []) (r := _) (c_CS_meets (o := o) (r := tkn) (lr := 53) (lb := 54) (n := nt) (cnt := ct) (P := P) (lo := (O x)) (hi := (O x)) pcsI_tkn (by omega) (by omega)) (fun oc G2 h => by rcases h with ⟨h, _⟩ | ⟨h, _⟩ <;> exact ⟨_, h⟩) (by omega) m_CS_meets ml_OM_93 im_CS_meets se_CS_meets c_CS hR (Nat.le_of_ble_eq_true rfl) d_OM_isNewTaker_57 rfl ?_
      intro v G18 hq
      rcases hq with ⟨hv, hfk, hlk, hsk, pNcsI_tkn⟩ | ⟨hv, hfk, hlk, hsk, pNcsI_tkn, hq19⟩
      · cases hv
        have ha := hfk.get ha (by decide)
        have hq := hfk.get hq (by simp)
        have hki := hfk.get hki (by simp)
        have hot := hfk.get hot (by simp)
        have hra := hfk.get hra (by simp)
        have pcsI_tkn := pNcsI_tkn
        have hfr := hfr.tr hfk (by decide)
        have hq20 := hlk
        have hq21 := hsk
        change ab_W _ _ _ G18 60 [some (vR a), some (vz x), some (vz (O x)), none, none, none] [vz 1] _
        refine zz_if_ne (tgt := 67) d_OM_isNewTaker_60 (by decide) (by decide) (fun c24 => ?_) (fun c24 => absurd c24 (by decide))
        refine zz_iconst d_OM_isNewTaker_67 ?_
        refine ab_istore_n d_OM_isNewTaker_68 (Nat.le_of_ble_eq_true rfl) (Nat.le_of_ble_eq_true rfl) rfl ?_
        change ab_W _ _ _ G18 69 [some (vR a), some (vz x), some (vz (O x)), some (vz 0), none, none] [] _
        refine ab_aload_n d_OM_isNewTaker_69 rfl ?_
        refine ab_getf (fs := [sp0, vR wk, vR onw, vR tkn, vR se_, vR cle, vR stk, vz dp, vz fo, vz chn, vR q, s0, vz hw, vz fy, vj stp]) f_OM_24 d_OM_isNewTaker_70 ha.2.2 rfl ?_
        refine ab_iload_n d_OM_isNewTaker_73 rfl ?_
        refine ab_iload_n d_OM_isNewTaker_74 rfl ?_
        obtain ⟨fsR, hR⟩ := pcsI_tkn.recv
        refine ab_callV (d' := d - 1) (as := [vz (O x), vz (O x)]) (st := []) (r := _) (c_CS_add (o := o) (r := tkn) (lr := 53) (lb := 54) (n := nt) (cnt := ct) (P := P) (lo := (O x)) (hi := (O x)) pcsI_tkn (by omega) (by omega) (by omega) (by omega) (by omega)) (fun oc G2 h => by rcases h with ⟨_, _, _, _, h, _⟩ <;> exact ⟨_, h⟩) (by omega) m_CS_add ml_OM_97 im_CS_add se_CS_add c_CS hR (Nat.le_of_ble_eq_true rfl) d_OM_isNewTaker_75 rfl ?_
        intro v G25 hq
        rcases hq with ⟨o26, n227, c228, P229, hv, hfk, pNcsI_tkn, hq30, hq31, hq32, hq33⟩
        cases hv
        have ha := hfk.get ha (by decide)
        have hq := hfk.get hq (by simp only [List.mem_cons, List.not_mem_nil, or_false]; omega)
        have hki := hfk.get hki (by simp only [List.mem_cons, List.not_mem_nil, or_false]; omega)
        have hot := hfk.get hot (by simp only [List.mem_cons, List.not_mem_nil, or_false]; omega)
        have hra := hfk.get hra (by simp only [List.mem_cons, List.not_mem_nil, or_false]; omega)
        have pcsI_tkn := pNcsI_tkn
        have hfr := hfr.tr hfk (by decide)
        have hq34 := hfk.1
        change ab_W _ _ _ G25 78 [some (vR a), some (vz x), some (vz (O x)), some (vz 0), none, none] [] _
        refine ab_iload_n d_OM_isNewTaker_78 rfl ?_
        refine zz_bret rfl (by decide) d_OM_isNewTaker_79 ?_
        rw [hQ]; exact (Or.inr ⟨_, _, _, _, _, rfl, hfr, pcsI_tkn, (by omega), (by omega), (by omega), (by omega), (by exact olfe_add jlf (Or.inl ⟨x, by omega, by omega, rfl⟩) hq30), (by exact ntX_0 (by omega) hq30 (fun z_ => absurd z_ (by decide)))⟩)
      · cases hv
        have ha := hfk.get ha (by decide)
        have hq := hfk.get hq (by simp)
        have hki := hfk.get hki (by simp)
        have hot := hfk.get hot (by simp)
        have hra := hfk.get hra (by simp)
        have pcsI_tkn := pNcsI_tkn
        have hfr := hfr.tr hfk (by decide)
        have hq22 := hlk
        have hq23 := hsk
        change ab_W _ _ _ G18 60 [some (vR a), some (vz x), some (vz (O x)), none, none, none] [vz 0] _
        refine zz_if_ne (tgt := 67) d_OM_isNewTaker_60 (by decide) (by decide) (fun c35 => absurd c35 (by decide)) (fun c35 => ?_)
        refine zz_iconst d_OM_isNewTaker_63 ?_
        refine ab_goto (tgt := 68) d_OM_isNewTaker_64 (by decide) ?_
        refine ab_istore_n d_OM_isNewTaker_68 (Nat.le_of_ble_eq_true rfl) (Nat.le_of_ble_eq_true rfl) rfl ?_
        change ab_W _ _ _ G18 69 [some (vR a), some (vz x), some (vz (O x)), some (vz 1), none, none] [] _
        refine ab_aload_n d_OM_isNewTaker_69 rfl ?_
        refine ab_getf (fs := [sp0, vR wk, vR onw, vR tkn, vR se_, vR cle, vR stk, vz dp, vz fo, vz chn, vR q, s0, vz hw, vz fy, vj stp]) f_OM_24 d_OM_isNewTaker_70 ha.2.2 rfl ?_
        refine ab_iload_n d_OM_isNewTaker_73 rfl ?_
        refine ab_iload_n d_OM_isNewTaker_74 rfl ?_
        obtain ⟨fsR, hR⟩ := pcsI_tkn.recv
        refine ab_callV (d' := d - 1) (as := [vz (O x), vz (O x)]) (st := []) (r := _) (c_CS_add (o := o) (r := tkn) (lr := 53) (lb := 54) (n := nt) (cnt := ct) (P := P) (lo := (O x)) (hi := (O x)) pcsI_tkn (by omega) (by omega) (by omega) (by omega) (by omega)) (fun oc G2 h => by rcases h with ⟨_, _, _, _, h, _⟩ <;> exact ⟨_, h⟩) (by omega) m_CS_add ml_OM_97 im_CS_add se_CS_add c_CS hR (Nat.le_of_ble_eq_true rfl) d_OM_isNewTaker_75 rfl ?_
        intro v G36 hq
        rcases hq with ⟨o37, n238, c239, P240, hv, hfk, pNcsI_tkn, hq41, hq42, hq43, hq44⟩
        cases hv
        have ha := hfk.get ha (by decide)
        have hq := hfk.get hq (by simp only [List.mem_cons, List.not_mem_nil, or_false]; omega)
        have hki := hfk.get hki (by simp only [List.mem_cons, List.not_mem_nil, or_false]; omega)
        have hot := hfk.get hot (by simp only [List.mem_cons, List.not_mem_nil, or_false]; omega)
        have hra := hfk.get hra (by simp only [List.mem_cons, List.not_mem_nil, or_false]; omega)
        have pcsI_tkn := pNcsI_tkn
        have hfr := hfr.tr hfk (by decide)
        have hq45 := hfk.1
        change ab_W _ _ _ G36 78 [some (vR a), some (vz x), some (vz (O x)), some (vz 1), none, none] [] _
        refine ab_iload_n d_OM_isNewTaker_78 rfl ?_
        refine zz_bret rfl (by decide) d_OM_isNewTaker_79 ?_
        rw [hQ]; exact (Or.inr ⟨_, _, _, _, _, rfl, hfr, pcsI_tkn, (by omega), (by omega), (by omega), (by omega), (by exact olfe_add jlf (Or.inl ⟨x, by omega, by omega, rfl⟩) hq41), (by exact ntX_0 (by omega) hq41 (fun _ => hq19))⟩)
  · refine ab_aload_n d_OM_isNewTaker_23 rfl ?_
    refine ab_getf (fs := [sp0, vR wk, vR onw, vR tkn, vR se_, vR cle, vR stk, vz dp, vz fo, vz chn, vR q, s0, vz hw, vz fy, vj stp]) f_OM_24 d_OM_isNewTaker_24 ha.2.2 rfl ?_
    obtain ⟨b_, f_, htk, hb_, hcan, hPm, hok, hl1, hl2, hl3⟩ := pcsI_tkn
    refine ab_getf (fs := [vR b_, vz ct]) f_OM_92 d_OM_isNewTaker_27 htk.2.2 rfl ?_
    refine zz_if_ne (tgt := 37) d_OM_isNewTaker_30 (by decide) (by omega) (fun c46 => ?_) (fun c46 => ?_)
    · refine zz_iconst d_OM_isNewTaker_37 ?_
      refine zz_bret rfl (by decide) d_OM_isNewTaker_38 ?_
      rw [hQ]; exact (Or.inl ⟨_, rfl, rfl, (by omega), (by exact ntX_2 (by omega) (fun z_ => absurd z_ (by decide)))⟩)
    · refine zz_iconst d_OM_isNewTaker_33 ?_
      refine ab_goto (tgt := 38) d_OM_isNewTaker_34 (by decide) ?_
      refine zz_bret rfl (by decide) d_OM_isNewTaker_38 ?_
      rw [hQ]; exact (Or.inl ⟨_, rfl, rfl, (by omega), (by exact ntX_2 (by omega) (fun _ c hc => by obtain ⟨i_, i0_, i1_, _⟩ := (hPm c).mp hc; omega))⟩)
set_option maxRecDepth 100000 in
set_option maxHeartbeats 4000000 in
theorem y_OM_isClearFrom_30 {X : ab_X} {d : Nat} {Q : Outcome → ab_G → Prop} {o0 : Nat → Nat} {G0 : ab_G} {a : Nat} {wk : Nat} {onw : Nat} {tkn : Nat} {se_ : Nat} {cle : Nat} {stk : Nat} {fo : Int} {chn : Int} {hw : Int} {fy : Int} {q : Nat} {lq : Nat} {ki : Nat} {ne : Nat} {ot : Nat} {cnt : Int} {fi : Int} {la : Int} {ra : Nat} {ru : Int} {gr : Int} {wi : Int} {sz : Int} {fl : Int} {ve : Int} {mi : Int} {na : Nat} {nl : Nat} {K : Int → Int} {N : Int → Int} {O : Int → Int} {RR : Int → Int} {nr : Nat} {sp0 : Value} {s0 : Value} {CL : Int → Int} {b0 : Int} {SE0 : Int → Int} {n0 : Nat} {st0 : Int} (cq : 100 ≤ lq ∧ 0 ≤ cnt ∧ cnt ≤ 808 ∧ ↑nr ≤ (100000 : Int)) (hp : prok K N O RR cnt ↑nr wi) (hpu : prok K N O RR cnt ru wi) (hr : ∀ k : Int, 0 ≤ k → k < ↑nr → 0 ≤ RR k ∧ RR k ≤ 1114111) (cru : 0 ≤ ru ∧ ru ≤ ↑nr ∧ ru ≤ 50000) (ck9 : K 0 = 9) (cb : 0 ≤ b0 ∧ b0 < cnt) (rc : G0.length + 3400 ≤ ab_n0 + room_1.cells) (rs : ab_slots G0 + 208000 ≤ room_1.slots + 2 * n0) (hd : 7 ≤ d) : ∀ (mz : Nat) {G : ab_G} {o : Nat → Nat} {dp : Int} {stp : Int} {SK : Int → Int} {SE : Int → Int} {any_ : Int} {tu : Int} {nt : Nat} {ct : Int} {P : Int → Prop}, (cc o G a 50 (ab_ob 3 [sp0, vR wk, vR onw, vR tkn, vR se_, vR cle, vR stk, vz dp, vz fo, vz chn, vR q, s0, vz hw, vz fy, vj stp])) → (cc o G se_ 55 (za 808 SE)) → (cc o G stk 57 (za 809 SK)) → (cc o G q lq (ab_ob 5 [vR ki, vR ne, vR ot, vz cnt, vz fi, vz la, vR ra, vz ru, vz gr, vz wi, vz sz, vz fl, vz ve, vz mi, vR na, vR nl])) → (cc o G ki (lq + 1) (za 808 K)) → (cc o G ne (lq + 2) (za 808 N)) → (cc o G ot (lq + 3) (za 808 O)) → (cc o G ra (lq + 4) (za nr RR)) → (cc o G cle 56 (za 808 CL)) → (csI o G tkn 53 54 nt ct P) → (0 ≤ tu ∧ 0 ≤ dp ∧ 0 ≤ any_ ∧ any_ ≤ 1) → (rgs SE 808 (-1) 808) → (osame SE0 SE b0) → (oI K N O SE SK b0 cnt dp tu) → (nt ≤ 104000) → (64 * G.length + n0 ≤ 64 * G0.length + nt) → (ab_slots G + 2 * n0 ≤ ab_slots G0 + 2 * nt) → (olfe O RR cnt ru P) → (ICI K N O RR b0 cnt SE SK dp any_ P) → (st0 ≤ stp ∧ stp ≤ st0 + tu) → (fx o0 o [50, 53, 54, 55, 56, 57] G0 G) → (Int.toNat (1616 - tu) < mz) → (∀ (G2 : ab_G) (o2 : Nat → Nat) (dp2 : Int) (st2 : Int) (SK2 : Int → Int) (SE2 : Int → Int) (n2 : Nat) (c2 : Int) (P2 : Int → Prop), (cc o2 G2 a 50 (ab_ob 3 [sp0, vR wk, vR onw, vR tkn, vR se_, vR cle, vR stk, vz dp2, vz fo, vz chn, vR q, s0, vz hw, vz fy, vj st2])) → (cc o2 G2 se_ 55 (za 808 SE2)) → (cc o2 G2 stk 57 (za 809 SK2)) → (cc o2 G2 cle 56 (za 808 CL)) → (csI o2 G2 tkn 53 54 n2 c2 P2) → (rgs SE2 808 (-1) 808) → (osame SE0 SE2 b0) → (n2 ≤ 104000) → (64 * G2.length + n0 ≤ 64 * G0.length + n2) → (ab_slots G2 + 2 * n0 ≤ ab_slots G0 + 2 * n2) → (st0 ≤ st2 ∧ st2 ≤ st0 + 1616) → (fx o0 o2 [50, 53, 54, 55, 56, 57] G0 G2) → Q (.returned (some (vz 0))) G2) → (∀ (G2 : ab_G) (o2 : Nat → Nat) (dp2 : Int) (st2 : Int) (SK2 : Int → Int) (SE2 : Int → Int) (n2 : Nat) (c2 : Int) (P2 : Int → Prop), (cc o2 G2 a 50 (ab_ob 3 [sp0, vR wk, vR onw, vR tkn, vR se_, vR cle, vR stk, vz dp2, vz fo, vz chn, vR q, s0, vz hw, vz fy, vj st2])) → (cc o2 G2 se_ 55 (za 808 SE2)) → (cc o2 G2 stk 57 (za 809 SK2)) → (cc o2 G2 cle 56 (za 808 CL)) → (csI o2 G2 tkn 53 54 n2 c2 P2) → (rgs SE2 808 (-1) 808) → (osame SE0 SE2 b0) → (n2 ≤ 104000) → (64 * G2.length + n0 ≤ 64 * G0.length + n2) → (ab_slots G2 + 2 * n0 ≤ ab_slots G0 + 2 * n2) → (st0 ≤ st2 ∧ st2 ≤ st0 + 1616) → (oclear K N O cnt b0) → (cleF K N O RR b0) → (fx o0 o2 [50, 53, 54, 55, 56, 57] G0 G2) → Q (.returned (some (vz 1))) G2) → ab_W X (ab_pl y_OM_isClearFrom b_OM_isClearFrom 8 (some (.boolean))) d G 30 [some (vR a), some (vz b0), some (vz any_), some (vz tu), none, none, none, none] [] Q := by
  intro mz
  induction mz with
  | zero => intro G o dp stp SK SE any_ tu nt ct P ha hse_ hstk hq hki hne hot hra hcle pcsI_tkn ci jsr jsa jin hn hg hs jlf jic hst9 hfr hm hk0 hk1; exact absurd hm (Nat.not_lt_zero _)
  | succ mz ih =>
    intro G o dp stp SK SE any_ tu nt ct P ha hse_ hstk hq hki hne hot hra hcle pcsI_tkn ci jsr jsa jin hn hg hs jlf jic hst9 hfr hm hk0 hk1
    have hbq := jin.b ck9 (by omega)
    refine ab_iload_n d_OM_isClearFrom_30 rfl ?_
    refine zz_sipush d_OM_isClearFrom_31 (by decide) ?_
    refine zz_icmp_ge (tgt := 269) d_OM_isClearFrom_34 (by decide) (by omega) (by decide) (fun c1 => absurd c1 (by omega)) (fun c1 => ?_)
    refine ab_aload_n d_OM_isClearFrom_37 rfl ?_
    refine ab_getf (fs := [sp0, vR wk, vR onw, vR tkn, vR se_, vR cle, vR stk, vz dp, vz fo, vz chn, vR q, s0, vz hw, vz fy, vj stp]) f_OM_76 d_OM_isClearFrom_38 ha.2.2 rfl ?_
    refine zz_if_le (tgt := 269) d_OM_isClearFrom_41 (by decide) (by omega) (fun c2 => ?_) (fun c2 => ?_)
    · refine zz_iconst d_OM_isClearFrom_269 ?_
      refine zz_bret rfl (by decide) d_OM_isClearFrom_270 ?_
      exact hk1 _ _ _ _ _ _ _ _ _ ha hse_ hstk hcle pcsI_tkn (by first | exact jsr | exact rgs_w jsr (by omega)) (by exact jsa) (by omega) (by omega) (by omega) (by omega) (by exact jin.fin ck9 (by omega) (by omega)) (by exact ici_fin jic ck9 (by omega) (by omega)) hfr
    · refine ab_aload_n d_OM_isClearFrom_44 rfl ?_
      refine ab_dup d_OM_isClearFrom_45 rfl ?_
      refine ab_getf (fs := [sp0, vR wk, vR onw, vR tkn, vR se_, vR cle, vR stk, vz dp, vz fo, vz chn, vR q, s0, vz hw, vz fy, vj stp]) f_OM_79 d_OM_isClearFrom_46 ha.2.2 rfl ?_
      refine zz_lconst d_OM_isClearFrom_49 ?_
      change ab_W _ _ _ G 50 [some (vR a), some (vz b0), some (vz any_), some (vz tu), none, none, none, none] [vj 1, vj stp, vR a] _
      refine zz_ladd d_OM_isClearFrom_50 ?_
      refine ab_putf (fs := [sp0, vR wk, vR onw, vR tkn, vR se_, vR cle, vR stk, vz dp, vz fo, vz chn, vR q, s0, vz hw, vz fy, vj stp]) f_OM_79 (Or.inl rfl) d_OM_isClearFrom_51 ha.2.2 (Nat.le_of_ble_eq_true rfl) (fun _ => ⟨rfl, rfl⟩) (ha.2.1 (by decide)) ?_
      obtain ⟨G3, eG3⟩ : ∃ z : ab_G, z = List.set G a (ab_ob 3 [sp0, vR wk, vR onw, vR tkn, vR se_, vR cle, vR stk, vz dp, vz fo, vz chn, vR q, s0, vz hw, vz fy, vj (stp + 1)]) := ⟨_, rfl⟩
      have hse_ := hse_.keep ha eG3 (by decide)
      have hstk := hstk.keep ha eG3 (by decide)
      have hq := hq.keep ha eG3 (by omega)
      have hki := hki.keep ha eG3 (by omega)
      have hne := hne.keep ha eG3 (by omega)
      have hot := hot.keep ha eG3 (by omega)
      have hra := hra.keep ha eG3 (by omega)
      have hcle := hcle.keep ha eG3 (by decide)
      have hst := (fx.rf (o := o) (S := [50]) (G := G)).wr ha eG3 (List.mem_singleton.mpr rfl)
      have pcsI_tkn := csI.fr hst pcsI_tkn (by decide) (by decide)
      have hq4 := z_len eG3
      have hq5 := z_sl ha eG3 rfl
      have hfr := hfr.wr ha eG3 (by decide)
      have ha := ha.kept eG3
      change ab_W _ _ _ (List.set G a (ab_ob 3 [sp0, vR wk, vR onw, vR tkn, vR se_, vR cle, vR stk, vz dp, vz fo, vz chn, vR q, s0, vz hw, vz fy, vj (stp + 1)])) 54 [some (vR a), some (vz b0), some (vz any_), some (vz tu), none, none, none, none] [] _
      rw [← eG3]
      refine ab_aload_n d_OM_isClearFrom_54 rfl ?_
      refine ab_dup d_OM_isClearFrom_55 rfl ?_
      refine ab_getf (fs := [sp0, vR wk, vR onw, vR tkn, vR se_, vR cle, vR stk, vz dp, vz fo, vz chn, vR q, s0, vz hw, vz fy, vj (stp + 1)]) f_OM_76 d_OM_isClearFrom_56 ha.2.2 rfl ?_
      refine zz_iconst d_OM_isClearFrom_59 ?_
      refine zz_isub d_OM_isClearFrom_60 ?_
      refine ab_putf (fs := [sp0, vR wk, vR onw, vR tkn, vR se_, vR cle, vR stk, vz dp, vz fo, vz chn, vR q, s0, vz hw, vz fy, vj (stp + 1)]) f_OM_76 (Or.inl rfl) d_OM_isClearFrom_61 ha.2.2 (Nat.le_of_ble_eq_true rfl) (fun _ => ⟨rfl, rfl⟩) (ha.2.1 (by decide)) ?_
      obtain ⟨G6, eG6⟩ : ∃ z : ab_G, z = List.set G3 a (ab_ob 3 [sp0, vR wk, vR onw, vR tkn, vR se_, vR cle, vR stk, vz (dp - 1), vz fo, vz chn, vR q, s0, vz hw, vz fy, vj (stp + 1)]) := ⟨_, rfl⟩
      have hse_ := hse_.keep ha eG6 (by decide)
      have hstk := hstk.keep ha eG6 (by decide)
      have hq := hq.keep ha eG6 (by omega)
      have hki := hki.keep ha eG6 (by omega)
      have hne := hne.keep ha eG6 (by omega)
      have hot := hot.keep ha eG6 (by omega)
      have hra := hra.keep ha eG6 (by omega)
      have hcle := hcle.keep ha eG6 (by decide)
      have hst := (fx.rf (o := o) (S := [50]) (G := G3)).wr ha eG6 (List.mem_singleton.mpr rfl)
      have pcsI_tkn := csI.fr hst pcsI_tkn (by decide) (by decide)
      have hq7 := z_len eG6
      have hq8 := z_sl ha eG6 rfl
      have hfr := hfr.wr ha eG6 (by decide)
      have ha := ha.kept eG6
      change ab_W _ _ _ (List.set G3 a (ab_ob 3 [sp0, vR wk, vR onw, vR tkn, vR se_, vR cle, vR stk, vz (dp - 1), vz fo, vz chn, vR q, s0, vz hw, vz fy, vj (stp + 1)])) 64 [some (vR a), some (vz b0), some (vz any_), some (vz tu), none, none, none, none] [] _
      rw [← eG6]
      refine ab_aload_n d_OM_isClearFrom_64 rfl ?_
      refine ab_getf (fs := [sp0, vR wk, vR onw, vR tkn, vR se_, vR cle, vR stk, vz (dp - 1), vz fo, vz chn, vR q, s0, vz hw, vz fy, vj (stp + 1)]) f_OM_34 d_OM_isClearFrom_65 ha.2.2 rfl ?_
      refine ab_aload_n d_OM_isClearFrom_68 rfl ?_
      refine ab_getf (fs := [sp0, vR wk, vR onw, vR tkn, vR se_, vR cle, vR stk, vz (dp - 1), vz fo, vz chn, vR q, s0, vz hw, vz fy, vj (stp + 1)]) f_OM_76 d_OM_isClearFrom_69 ha.2.2 rfl ?_
      refine zz_iald d_OM_isClearFrom_72 hstk (by omega) ?_
      have hxr := jin.x (by omega)
      obtain ⟨x_, hx_⟩ : ∃ z : Int, z = SK (dp - 1) := ⟨_, rfl⟩
      rw [← hx_] at hxr ⊢
      have hne1_ := (hp.ne x_ hxr.1 hxr.2).1
      have hne2_ := (hp.ne x_ hxr.1 hxr.2).2
      change ab_W _ _ _ G6 73 [some (vR a), some (vz b0), some (vz any_), some (vz tu), none, none, none, none] [vz x_] _
      refine ab_istore d_OM_isClearFrom_73 (Nat.le_of_ble_eq_true rfl) (Nat.le_of_ble_eq_true rfl) rfl ?_
      change ab_W _ _ _ G6 75 [some (vR a), some (vz b0), some (vz any_), some (vz tu), some (vz x_), none, none, none] [] _
      refine ab_aload_n d_OM_isClearFrom_75 rfl ?_
      refine ab_getf (fs := [sp0, vR wk, vR onw, vR tkn, vR se_, vR cle, vR stk, vz (dp - 1), vz fo, vz chn, vR q, s0, vz hw, vz fy, vj (stp + 1)]) f_OM_47 d_OM_isClearFrom_76 ha.2.2 rfl ?_
      refine ab_getf (fs := [vR ki, vR ne, vR ot, vz cnt, vz fi, vz la, vR ra, vz ru, vz gr, vz wi, vz sz, vz fl, vz ve, vz mi, vR na, vR nl]) f_OM_83 d_OM_isClearFrom_79 hq.2.2 rfl ?_
      refine ab_iload d_OM_isClearFrom_82 rfl ?_
      refine zz_iald d_OM_isClearFrom_84 hki (by omega) ?_
      have hq9 := hp.k x_ (by omega) (by omega)
      refine ab_istore d_OM_isClearFrom_85 (Nat.le_of_ble_eq_true rfl) (Nat.le_of_ble_eq_true rfl) rfl ?_
      change ab_W _ _ _ G6 87 [some (vR a), some (vz b0), some (vz any_), some (vz tu), some (vz x_), some (vz (K x_)), none, none] [] _
      refine ab_aload_n d_OM_isClearFrom_87 rfl ?_
      refine ab_getf (fs := [sp0, vR wk, vR onw, vR tkn, vR se_, vR cle, vR stk, vz (dp - 1), vz fo, vz chn, vR q, s0, vz hw, vz fy, vj (stp + 1)]) f_OM_28 d_OM_isClearFrom_88 ha.2.2 rfl ?_
      refine ab_iload d_OM_isClearFrom_91 rfl ?_
      refine zz_iald d_OM_isClearFrom_93 hse_ (by omega) ?_
      have hq10 := jsr x_ (by omega) (by omega)
      refine ab_iload_n d_OM_isClearFrom_94 rfl ?_
      refine zz_icmp_ne (tgt := 109) d_OM_isClearFrom_95 (by decide) (by omega) (by omega) (fun c11 => ?_) (fun c11 => ?_)
      · refine zz_iconst d_OM_isClearFrom_109 ?_
        refine ab_istore d_OM_isClearFrom_110 (Nat.le_of_ble_eq_true rfl) (Nat.le_of_ble_eq_true rfl) rfl ?_
        change ab_W _ _ _ G6 112 [some (vR a), some (vz b0), some (vz any_), some (vz tu), some (vz x_), some (vz (K x_)), some (vz 0), none] [] _
        refine ab_aload_n d_OM_isClearFrom_112 rfl ?_
        refine ab_getf (fs := [sp0, vR wk, vR onw, vR tkn, vR se_, vR cle, vR stk, vz (dp - 1), vz fo, vz chn, vR q, s0, vz hw, vz fy, vj (stp + 1)]) f_OM_47 d_OM_isClearFrom_113 ha.2.2 rfl ?_
        refine ab_iload d_OM_isClearFrom_116 rfl ?_
        refine ab_callV (d' := d - 1) (as := [vz x_]) (st := []) (r := _) (zq_PR_takes (o := o) (q := q) (lq := lq) (ki := ki) (ne := ne) (ot := ot) (cnt := cnt) (fi := fi) (la := la) (ra := ra) (ru := ru) (gr := gr) (wi := wi) (sz := sz) (fl := fl) (ve := ve) (mi := mi) (na := na) (nl := nl) (K := K) (x := x_) hq hki (by omega) hp (by omega)) (fun oc G2 h => by rcases h with ⟨h, _⟩ | ⟨h, _⟩ <;> exact ⟨_, h⟩) (by omega) m_PR_takes ml_OM_70 im_PR_takes se_PR_takes c_PR hq.2.2 (Nat.le_of_ble_eq_true rfl) d_OM_isClearFrom_118 rfl ?_
        intro v G12 hq
        rcases hq with ⟨hv, hGe, hq13⟩ | ⟨hv, hGe, hq14⟩
        · cases hv
          rw [hGe]
          change ab_W _ _ _ G6 121 [some (vR a), some (vz b0), some (vz any_), some (vz tu), some (vz x_), some (vz (K x_)), some (vz 0), none] [vz 1] _
          refine zz_if_eq (tgt := 141) d_OM_isClearFrom_121 (by decide) (by decide) (fun c15 => absurd c15 (by decide)) (fun c15 => ?_)
          refine ab_iload_n d_OM_isClearFrom_124 rfl ?_
          refine zz_if_ne (tgt := 137) d_OM_isClearFrom_125 (by decide) (by omega) (fun c16 => ?_) (fun c16 => ?_)
          · refine zz_iconst d_OM_isClearFrom_137 ?_
            refine ab_goto (tgt := 142) d_OM_isClearFrom_138 (by decide) ?_
            refine ab_istore d_OM_isClearFrom_142 (Nat.le_of_ble_eq_true rfl) (Nat.le_of_ble_eq_true rfl) rfl ?_
            change ab_W _ _ _ G6 144 [some (vR a), some (vz b0), some (vz any_), some (vz tu), some (vz x_), some (vz (K x_)), some (vz 0), some (vz 1)] [] _
            refine ab_iload d_OM_isClearFrom_144 rfl ?_
            refine zz_if_ne (tgt := 154) d_OM_isClearFrom_146 (by decide) (by decide) (fun c17 => absurd c17 (by decide)) (fun c17 => ?_)
            refine ab_iload d_OM_isClearFrom_149 rfl ?_
            refine zz_if_eq (tgt := 156) d_OM_isClearFrom_151 (by decide) (by decide) (fun c18 => absurd c18 (by decide)) (fun c18 => ?_)
            refine zz_iconst d_OM_isClearFrom_154 ?_
            refine zz_bret rfl (by decide) d_OM_isClearFrom_155 ?_
            exact hk0 _ _ _ _ _ _ _ _ _ ha hse_ hstk hcle pcsI_tkn (by first | exact jsr | exact rgs_w jsr (by omega)) (by exact jsa) (by omega) (by omega) (by omega) (by omega) hfr
          · refine ab_aload_n d_OM_isClearFrom_128 rfl ?_
            refine ab_iload d_OM_isClearFrom_129 rfl ?_
            refine ab_callV (d' := d - 1) (as := [vz x_]) (st := []) (r := _) (z_OM_isNewTaker (o := o) (a := a) (wk := wk) (onw := onw) (tkn := tkn) (se_ := se_) (cle := cle) (stk := stk) (dp := (dp - 1)) (fo := fo) (chn := chn) (hw := hw) (fy := fy) (stp := (stp + 1)) (q := q) (lq := lq) (ki := ki) (ne := ne) (ot := ot) (cnt := cnt) (fi := fi) (la := la) (ra := ra) (ru := ru) (gr := gr) (wi := wi) (sz := sz) (fl := fl) (ve := ve) (mi := mi) (na := na) (nl := nl) (K := K) (O := O) (RR := RR) (nr := nr) (sp0 := sp0) (s0 := s0) (x := x_) (nt := nt) (ct := ct) (P := P) ha hq hki hot hra pcsI_tkn (by omega) hp hpu hr (by omega) (by omega) (by omega) jlf (by omega) (by omega) (by omega)) (fun oc G2 h => by rcases h with ⟨_, h, _⟩ | ⟨_, _, _, _, _, h, _⟩ <;> exact ⟨_, h⟩) (by omega) m_OM_isNewTaker ml_OM_86 im_OM_isNewTaker se_OM_isNewTaker c_OM ha.2.2 (Nat.le_of_ble_eq_true rfl) d_OM_isClearFrom_131 rfl ?_
            intro v G19 hq
            rcases hq with ⟨v20, hv, hGe, hq21, hq22⟩ | ⟨o23, v24, n225, c226, P227, hv, hfk, pNcsI_tkn, hq28, hq29, hq30, hq31, hq32, hq33⟩
            · cases hv
              rw [hGe]
              change ab_W _ _ _ G6 134 [some (vR a), some (vz b0), some (vz any_), some (vz tu), some (vz x_), some (vz (K x_)), some (vz 0), none] [vz v20] _
              refine zz_if_ne (tgt := 141) d_OM_isClearFrom_134 (by decide) (by omega) (fun c35 => ?_) (fun c35 => ?_)
              · refine zz_iconst d_OM_isClearFrom_141 ?_
                refine ab_istore d_OM_isClearFrom_142 (Nat.le_of_ble_eq_true rfl) (Nat.le_of_ble_eq_true rfl) rfl ?_
                change ab_W _ _ _ G6 144 [some (vR a), some (vz b0), some (vz any_), some (vz tu), some (vz x_), some (vz (K x_)), some (vz 0), some (vz 0)] [] _
                refine ab_iload d_OM_isClearFrom_144 rfl ?_
                refine zz_if_ne (tgt := 154) d_OM_isClearFrom_146 (by decide) (by decide) (fun c36 => absurd c36 (by decide)) (fun c36 => ?_)
                refine ab_iload d_OM_isClearFrom_149 rfl ?_
                refine zz_if_eq (tgt := 156) d_OM_isClearFrom_151 (by decide) (by decide) (fun c37 => ?_) (fun c37 => absurd c37 (by decide))
                refine ab_aload_n d_OM_isClearFrom_156 rfl ?_
                refine ab_getf (fs := [sp0, vR wk, vR onw, vR tkn, vR se_, vR cle, vR stk, vz (dp - 1), vz fo, vz chn, vR q, s0, vz hw, vz fy, vj (stp + 1)]) f_OM_28 d_OM_isClearFrom_157 ha.2.2 rfl ?_
                refine ab_iload d_OM_isClearFrom_160 rfl ?_
                refine ab_iload_n d_OM_isClearFrom_162 rfl ?_
                refine zz_iast d_OM_isClearFrom_163 hse_ (by omega) (hse_.2.1 (by decide)) ?_
                obtain ⟨G38, eG38⟩ : ∃ z : ab_G, z = List.set G6 se_ (za 808 (zu SE x_ b0)) := ⟨_, rfl⟩
                have ha := ha.keep hse_ eG38 (by decide)
                have hstk := hstk.keep hse_ eG38 (by decide)
                have hq := hq.keep hse_ eG38 (by omega)
                have hki := hki.keep hse_ eG38 (by omega)
                have hne := hne.keep hse_ eG38 (by omega)
                have hot := hot.keep hse_ eG38 (by omega)
                have hra := hra.keep hse_ eG38 (by omega)
                have hcle := hcle.keep hse_ eG38 (by decide)
                have hst := (fx.rf (o := o) (S := [55]) (G := G6)).wr hse_ eG38 (List.mem_singleton.mpr rfl)
                have pcsI_tkn := csI.fr hst pcsI_tkn (by decide) (by decide)
                have hq39 := z_len eG38
                have hq40 := z_sl hse_ eG38 rfl
                have hfr := hfr.wr hse_ eG38 (by decide)
                have hse_ := hse_.kept eG38
                change ab_W _ _ _ (List.set G6 se_ (za 808 (zu SE x_ b0))) 164 [some (vR a), some (vz b0), some (vz any_), some (vz tu), some (vz x_), some (vz (K x_)), some (vz 0), some (vz 0)] [] _
                rw [← eG38]
                refine ab_iload_n d_OM_isClearFrom_164 rfl ?_
                refine ab_iload d_OM_isClearFrom_165 rfl ?_
                refine zz_iconst d_OM_isClearFrom_167 ?_
                refine zz_icmp_ne (tgt := 175) d_OM_isClearFrom_168 (by decide) (by omega) (by decide) (fun c41 => ?_) (fun c41 => ?_)
                · refine zz_iconst d_OM_isClearFrom_175 ?_
                  refine zz_ior01 d_OM_isClearFrom_176 (by omega) (by omega) ?_
                  obtain ⟨v42, hv42⟩ : ∃ z : Int, z = (max any_ 0) := ⟨_, rfl⟩
                  rw [← hv42]
                  have hv42b : v42 = 0 ∨ v42 = 1 := by omega
                  change ab_W _ _ _ G38 177 [some (vR a), some (vz b0), some (vz any_), some (vz tu), some (vz x_), some (vz (K x_)), some (vz 0), some (vz 0)] [vz v42] _
                  refine ab_istore_n d_OM_isClearFrom_177 (Nat.le_of_ble_eq_true rfl) (Nat.le_of_ble_eq_true rfl) rfl ?_
                  change ab_W _ _ _ G38 178 [some (vR a), some (vz b0), some (vz v42), some (vz tu), some (vz x_), some (vz (K x_)), some (vz 0), some (vz 0)] [] _
                  refine ab_iload d_OM_isClearFrom_178 rfl ?_
                  refine zz_bipush d_OM_isClearFrom_180 (by decide) ?_
                  refine zz_icmp_ne (tgt := 214) d_OM_isClearFrom_182 (by decide) (by omega) (by decide) (fun c43 => ?_) (fun c43 => absurd c43 (by omega))
                  refine ab_iload d_OM_isClearFrom_214 rfl ?_
                  refine zz_bipush d_OM_isClearFrom_216 (by decide) ?_
                  refine zz_icmp_eq (tgt := 234) d_OM_isClearFrom_218 (by decide) (by omega) (by decide) (fun c44 => absurd c44 (by omega)) (fun c44 => ?_)
                  refine ab_iload d_OM_isClearFrom_221 rfl ?_
                  refine zz_bipush d_OM_isClearFrom_223 (by decide) ?_
                  refine zz_icmp_eq (tgt := 234) d_OM_isClearFrom_225 (by decide) (by omega) (by decide) (fun c45 => absurd c45 (by omega)) (fun c45 => ?_)
                  refine ab_iload d_OM_isClearFrom_228 rfl ?_
                  refine zz_iconst d_OM_isClearFrom_230 ?_
                  refine zz_icmp_ne (tgt := 263) d_OM_isClearFrom_231 (by decide) (by omega) (by decide) (fun c46 => ?_) (fun c46 => absurd c46 (by omega))
                  refine zz_iinc d_OM_isClearFrom_263 rfl (Nat.le_of_ble_eq_true rfl) (Nat.le_of_ble_eq_true rfl) rfl ?_
                  change ab_W _ _ _ G38 266 [some (vR a), some (vz b0), some (vz v42), some (vz (tu + 1)), some (vz x_), some (vz (K x_)), some (vz 0), some (vz 0)] [] _
                  refine ab_goto (tgt := 30) d_OM_isClearFrom_266 (by decide) ?_
                  refine ab_less (L' := [some (vR a), some (vz b0), some (vz v42), some (vz (tu + 1)), none, none, none, none]) (fun i v h => by rcases i with _ | _ | _ | _ | _ | _ | _ | _ | i <;> first | exact h | (simp at h)) ?_
                  exact ih (dp := (dp - 1)) (stp := (stp + 1)) (SK := SK) (SE := (zu SE x_ b0)) (any_ := v42) (tu := (tu + 1)) (nt := nt) (ct := ct) (P := P) ha hse_ hstk hq hki hne hot hra hcle pcsI_tkn (by omega) (rgs_zu jsr (by omega)) (osame_s jsa) (oI_leaf jin (by omega) hx_ (by omega) (by omega)) (by omega) (by omega) (by omega) jlf (ici_take jic (by omega) hx_ hxr (by omega) (by omega) hq22 (by omega) (by omega) (by omega)) (by omega) hfr (by omega) hk0 hk1
                · refine zz_iconst d_OM_isClearFrom_171 ?_
                  refine ab_goto (tgt := 176) d_OM_isClearFrom_172 (by decide) ?_
                  refine zz_ior01 d_OM_isClearFrom_176 (by omega) (by omega) ?_
                  obtain ⟨v47, hv47⟩ : ∃ z : Int, z = (max any_ 1) := ⟨_, rfl⟩
                  rw [← hv47]
                  have hv47b : v47 = 0 ∨ v47 = 1 := by omega
                  change ab_W _ _ _ G38 177 [some (vR a), some (vz b0), some (vz any_), some (vz tu), some (vz x_), some (vz (K x_)), some (vz 0), some (vz 0)] [vz v47] _
                  refine ab_istore_n d_OM_isClearFrom_177 (Nat.le_of_ble_eq_true rfl) (Nat.le_of_ble_eq_true rfl) rfl ?_
                  change ab_W _ _ _ G38 178 [some (vR a), some (vz b0), some (vz v47), some (vz tu), some (vz x_), some (vz (K x_)), some (vz 0), some (vz 0)] [] _
                  refine ab_iload d_OM_isClearFrom_178 rfl ?_
                  refine zz_bipush d_OM_isClearFrom_180 (by decide) ?_
                  refine zz_icmp_ne (tgt := 214) d_OM_isClearFrom_182 (by decide) (by omega) (by decide) (fun c48 => ?_) (fun c48 => absurd c48 (by omega))
                  refine ab_iload d_OM_isClearFrom_214 rfl ?_
                  refine zz_bipush d_OM_isClearFrom_216 (by decide) ?_
                  refine zz_icmp_eq (tgt := 234) d_OM_isClearFrom_218 (by decide) (by omega) (by decide) (fun c49 => absurd c49 (by omega)) (fun c49 => ?_)
                  refine ab_iload d_OM_isClearFrom_221 rfl ?_
                  refine zz_bipush d_OM_isClearFrom_223 (by decide) ?_
                  refine zz_icmp_eq (tgt := 234) d_OM_isClearFrom_225 (by decide) (by omega) (by decide) (fun c50 => absurd c50 (by omega)) (fun c50 => ?_)
                  refine ab_iload d_OM_isClearFrom_228 rfl ?_
                  refine zz_iconst d_OM_isClearFrom_230 ?_
                  refine zz_icmp_ne (tgt := 263) d_OM_isClearFrom_231 (by decide) (by omega) (by decide) (fun c51 => ?_) (fun c51 => absurd c51 (by omega))
                  refine zz_iinc d_OM_isClearFrom_263 rfl (Nat.le_of_ble_eq_true rfl) (Nat.le_of_ble_eq_true rfl) rfl ?_
                  change ab_W _ _ _ G38 266 [some (vR a), some (vz b0), some (vz v47), some (vz (tu + 1)), some (vz x_), some (vz (K x_)), some (vz 0), some (vz 0)] [] _
                  refine ab_goto (tgt := 30) d_OM_isClearFrom_266 (by decide) ?_
                  refine ab_less (L' := [some (vR a), some (vz b0), some (vz v47), some (vz (tu + 1)), none, none, none, none]) (fun i v h => by rcases i with _ | _ | _ | _ | _ | _ | _ | _ | i <;> first | exact h | (simp at h)) ?_
                  exact ih (dp := (dp - 1)) (stp := (stp + 1)) (SK := SK) (SE := (zu SE x_ b0)) (any_ := v47) (tu := (tu + 1)) (nt := nt) (ct := ct) (P := P) ha hse_ hstk hq hki hne hot hra hcle pcsI_tkn (by omega) (rgs_zu jsr (by omega)) (osame_s jsa) (oI_leaf jin (by omega) hx_ (by omega) (by omega)) (by omega) (by omega) (by omega) jlf (ici_take jic (by omega) hx_ hxr (by omega) (by omega) hq22 (by omega) (by omega) (by omega)) (by omega) hfr (by omega) hk0 hk1
              · refine zz_iconst d_OM_isClearFrom_137 ?_
                refine ab_goto (tgt := 142) d_OM_isClearFrom_138 (by decide) ?_
                refine ab_istore d_OM_isClearFrom_142 (Nat.le_of_ble_eq_true rfl) (Nat.le_of_ble_eq_true rfl) rfl ?_
                change ab_W _ _ _ G6 144 [some (vR a), some (vz b0), some (vz any_), some (vz tu), some (vz x_), some (vz (K x_)), some (vz 0), some (vz 1)] [] _
                refine ab_iload d_OM_isClearFrom_144 rfl ?_
                refine zz_if_ne (tgt := 154) d_OM_isClearFrom_146 (by decide) (by decide) (fun c52 => absurd c52 (by decide)) (fun c52 => ?_)
                refine ab_iload d_OM_isClearFrom_149 rfl ?_
                refine zz_if_eq (tgt := 156) d_OM_isClearFrom_151 (by decide) (by decide) (fun c53 => absurd c53 (by decide)) (fun c53 => ?_)
                refine zz_iconst d_OM_isClearFrom_154 ?_
                refine zz_bret rfl (by decide) d_OM_isClearFrom_155 ?_
                exact hk0 _ _ _ _ _ _ _ _ _ ha hse_ hstk hcle pcsI_tkn (by first | exact jsr | exact rgs_w jsr (by omega)) (by exact jsa) (by omega) (by omega) (by omega) (by omega) hfr
            · cases hv
              have ha := hfk.get ha (by decide)
              have hse_ := hfk.get hse_ (by decide)
              have hstk := hfk.get hstk (by decide)
              have hq := hfk.get hq (by simp only [List.mem_cons, List.not_mem_nil, or_false]; omega)
              have hki := hfk.get hki (by simp only [List.mem_cons, List.not_mem_nil, or_false]; omega)
              have hne := hfk.get hne (by simp only [List.mem_cons, List.not_mem_nil, or_false]; omega)
              have hot := hfk.get hot (by simp only [List.mem_cons, List.not_mem_nil, or_false]; omega)
              have hra := hfk.get hra (by simp only [List.mem_cons, List.not_mem_nil, or_false]; omega)
              have hcle := hfk.get hcle (by decide)
              have pcsI_tkn := pNcsI_tkn
              have hfr := hfr.tr hfk (by decide)
              have hq34 := hfk.1
              change ab_W _ _ _ G19 134 [some (vR a), some (vz b0), some (vz any_), some (vz tu), some (vz x_), some (vz (K x_)), some (vz 0), none] [vz v24] _
              refine zz_if_ne (tgt := 141) d_OM_isClearFrom_134 (by decide) (by omega) (fun c54 => ?_) (fun c54 => ?_)
              · refine zz_iconst d_OM_isClearFrom_141 ?_
                refine ab_istore d_OM_isClearFrom_142 (Nat.le_of_ble_eq_true rfl) (Nat.le_of_ble_eq_true rfl) rfl ?_
                change ab_W _ _ _ G19 144 [some (vR a), some (vz b0), some (vz any_), some (vz tu), some (vz x_), some (vz (K x_)), some (vz 0), some (vz 0)] [] _
                refine ab_iload d_OM_isClearFrom_144 rfl ?_
                refine zz_if_ne (tgt := 154) d_OM_isClearFrom_146 (by decide) (by decide) (fun c55 => absurd c55 (by decide)) (fun c55 => ?_)
                refine ab_iload d_OM_isClearFrom_149 rfl ?_
                refine zz_if_eq (tgt := 156) d_OM_isClearFrom_151 (by decide) (by decide) (fun c56 => ?_) (fun c56 => absurd c56 (by decide))
                refine ab_aload_n d_OM_isClearFrom_156 rfl ?_
                refine ab_getf (fs := [sp0, vR wk, vR onw, vR tkn, vR se_, vR cle, vR stk, vz (dp - 1), vz fo, vz chn, vR q, s0, vz hw, vz fy, vj (stp + 1)]) f_OM_28 d_OM_isClearFrom_157 ha.2.2 rfl ?_
                refine ab_iload d_OM_isClearFrom_160 rfl ?_
                refine ab_iload_n d_OM_isClearFrom_162 rfl ?_
                refine zz_iast d_OM_isClearFrom_163 hse_ (by omega) (hse_.2.1 (by decide)) ?_
                obtain ⟨G57, eG57⟩ : ∃ z : ab_G, z = List.set G19 se_ (za 808 (zu SE x_ b0)) := ⟨_, rfl⟩
                have ha := ha.keep hse_ eG57 (by decide)
                have hstk := hstk.keep hse_ eG57 (by decide)
                have hq := hq.keep hse_ eG57 (by omega)
                have hki := hki.keep hse_ eG57 (by omega)
                have hne := hne.keep hse_ eG57 (by omega)
                have hot := hot.keep hse_ eG57 (by omega)
                have hra := hra.keep hse_ eG57 (by omega)
                have hcle := hcle.keep hse_ eG57 (by decide)
                have hst := (fx.rf (o := o23) (S := [55]) (G := G19)).wr hse_ eG57 (List.mem_singleton.mpr rfl)
                have pcsI_tkn := csI.fr hst pcsI_tkn (by decide) (by decide)
                have hq58 := z_len eG57
                have hq59 := z_sl hse_ eG57 rfl
                have hfr := hfr.wr hse_ eG57 (by decide)
                have hse_ := hse_.kept eG57
                change ab_W _ _ _ (List.set G19 se_ (za 808 (zu SE x_ b0))) 164 [some (vR a), some (vz b0), some (vz any_), some (vz tu), some (vz x_), some (vz (K x_)), some (vz 0), some (vz 0)] [] _
                rw [← eG57]
                refine ab_iload_n d_OM_isClearFrom_164 rfl ?_
                refine ab_iload d_OM_isClearFrom_165 rfl ?_
                refine zz_iconst d_OM_isClearFrom_167 ?_
                refine zz_icmp_ne (tgt := 175) d_OM_isClearFrom_168 (by decide) (by omega) (by decide) (fun c60 => ?_) (fun c60 => ?_)
                · refine zz_iconst d_OM_isClearFrom_175 ?_
                  refine zz_ior01 d_OM_isClearFrom_176 (by omega) (by omega) ?_
                  obtain ⟨v61, hv61⟩ : ∃ z : Int, z = (max any_ 0) := ⟨_, rfl⟩
                  rw [← hv61]
                  have hv61b : v61 = 0 ∨ v61 = 1 := by omega
                  change ab_W _ _ _ G57 177 [some (vR a), some (vz b0), some (vz any_), some (vz tu), some (vz x_), some (vz (K x_)), some (vz 0), some (vz 0)] [vz v61] _
                  refine ab_istore_n d_OM_isClearFrom_177 (Nat.le_of_ble_eq_true rfl) (Nat.le_of_ble_eq_true rfl) rfl ?_
                  change ab_W _ _ _ G57 178 [some (vR a), some (vz b0), some (vz v61), some (vz tu), some (vz x_), some (vz (K x_)), some (vz 0), some (vz 0)] [] _
                  refine ab_iload d_OM_isClearFrom_178 rfl ?_
                  refine zz_bipush d_OM_isClearFrom_180 (by decide) ?_
                  refine zz_icmp_ne (tgt := 214) d_OM_isClearFrom_182 (by decide) (by omega) (by decide) (fun c62 => ?_) (fun c62 => absurd c62 (by omega))
                  refine ab_iload d_OM_isClearFrom_214 rfl ?_
                  refine zz_bipush d_OM_isClearFrom_216 (by decide) ?_
                  refine zz_icmp_eq (tgt := 234) d_OM_isClearFrom_218 (by decide) (by omega) (by decide) (fun c63 => absurd c63 (by omega)) (fun c63 => ?_)
                  refine ab_iload d_OM_isClearFrom_221 rfl ?_
                  refine zz_bipush d_OM_isClearFrom_223 (by decide) ?_
                  refine zz_icmp_eq (tgt := 234) d_OM_isClearFrom_225 (by decide) (by omega) (by decide) (fun c64 => absurd c64 (by omega)) (fun c64 => ?_)
                  refine ab_iload d_OM_isClearFrom_228 rfl ?_
                  refine zz_iconst d_OM_isClearFrom_230 ?_
                  refine zz_icmp_ne (tgt := 263) d_OM_isClearFrom_231 (by decide) (by omega) (by decide) (fun c65 => ?_) (fun c65 => absurd c65 (by omega))
                  refine zz_iinc d_OM_isClearFrom_263 rfl (Nat.le_of_ble_eq_true rfl) (Nat.le_of_ble_eq_true rfl) rfl ?_
                  change ab_W _ _ _ G57 266 [some (vR a), some (vz b0), some (vz v61), some (vz (tu + 1)), some (vz x_), some (vz (K x_)), some (vz 0), some (vz 0)] [] _
                  refine ab_goto (tgt := 30) d_OM_isClearFrom_266 (by decide) ?_
                  refine ab_less (L' := [some (vR a), some (vz b0), some (vz v61), some (vz (tu + 1)), none, none, none, none]) (fun i v h => by rcases i with _ | _ | _ | _ | _ | _ | _ | _ | i <;> first | exact h | (simp at h)) ?_
                  exact ih (dp := (dp - 1)) (stp := (stp + 1)) (SK := SK) (SE := (zu SE x_ b0)) (any_ := v61) (tu := (tu + 1)) (nt := n225) (ct := c226) (P := P227) ha hse_ hstk hq hki hne hot hra hcle pcsI_tkn (by omega) (rgs_zu jsr (by omega)) (osame_s jsa) (oI_leaf jin (by omega) hx_ (by omega) (by omega)) (by omega) (by omega) (by omega) hq32 (ici_take jic (by omega) hx_ hxr (by omega) (by omega) hq33 (by omega) (by omega) (by omega)) (by omega) hfr (by omega) hk0 hk1
                · refine zz_iconst d_OM_isClearFrom_171 ?_
                  refine ab_goto (tgt := 176) d_OM_isClearFrom_172 (by decide) ?_
                  refine zz_ior01 d_OM_isClearFrom_176 (by omega) (by omega) ?_
                  obtain ⟨v66, hv66⟩ : ∃ z : Int, z = (max any_ 1) := ⟨_, rfl⟩
                  rw [← hv66]
                  have hv66b : v66 = 0 ∨ v66 = 1 := by omega
                  change ab_W _ _ _ G57 177 [some (vR a), some (vz b0), some (vz any_), some (vz tu), some (vz x_), some (vz (K x_)), some (vz 0), some (vz 0)] [vz v66] _
                  refine ab_istore_n d_OM_isClearFrom_177 (Nat.le_of_ble_eq_true rfl) (Nat.le_of_ble_eq_true rfl) rfl ?_
                  change ab_W _ _ _ G57 178 [some (vR a), some (vz b0), some (vz v66), some (vz tu), some (vz x_), some (vz (K x_)), some (vz 0), some (vz 0)] [] _
                  refine ab_iload d_OM_isClearFrom_178 rfl ?_
                  refine zz_bipush d_OM_isClearFrom_180 (by decide) ?_
                  refine zz_icmp_ne (tgt := 214) d_OM_isClearFrom_182 (by decide) (by omega) (by decide) (fun c67 => ?_) (fun c67 => absurd c67 (by omega))
                  refine ab_iload d_OM_isClearFrom_214 rfl ?_
                  refine zz_bipush d_OM_isClearFrom_216 (by decide) ?_
                  refine zz_icmp_eq (tgt := 234) d_OM_isClearFrom_218 (by decide) (by omega) (by decide) (fun c68 => absurd c68 (by omega)) (fun c68 => ?_)
                  refine ab_iload d_OM_isClearFrom_221 rfl ?_
                  refine zz_bipush d_OM_isClearFrom_223 (by decide) ?_
                  refine zz_icmp_eq (tgt := 234) d_OM_isClearFrom_225 (by decide) (by omega) (by decide) (fun c69 => absurd c69 (by omega)) (fun c69 => ?_)
                  refine ab_iload d_OM_isClearFrom_228 rfl ?_
                  refine zz_iconst d_OM_isClearFrom_230 ?_
                  refine zz_icmp_ne (tgt := 263) d_OM_isClearFrom_231 (by decide) (by omega) (by decide) (fun c70 => ?_) (fun c70 => absurd c70 (by omega))
                  refine zz_iinc d_OM_isClearFrom_263 rfl (Nat.le_of_ble_eq_true rfl) (Nat.le_of_ble_eq_true rfl) rfl ?_
                  change ab_W _ _ _ G57 266 [some (vR a), some (vz b0), some (vz v66), some (vz (tu + 1)), some (vz x_), some (vz (K x_)), some (vz 0), some (vz 0)] [] _
                  refine ab_goto (tgt := 30) d_OM_isClearFrom_266 (by decide) ?_
                  refine ab_less (L' := [some (vR a), some (vz b0), some (vz v66), some (vz (tu + 1)), none, none, none, none]) (fun i v h => by rcases i with _ | _ | _ | _ | _ | _ | _ | _ | i <;> first | exact h | (simp at h)) ?_
                  exact ih (dp := (dp - 1)) (stp := (stp + 1)) (SK := SK) (SE := (zu SE x_ b0)) (any_ := v66) (tu := (tu + 1)) (nt := n225) (ct := c226) (P := P227) ha hse_ hstk hq hki hne hot hra hcle pcsI_tkn (by omega) (rgs_zu jsr (by omega)) (osame_s jsa) (oI_leaf jin (by omega) hx_ (by omega) (by omega)) (by omega) (by omega) (by omega) hq32 (ici_take jic (by omega) hx_ hxr (by omega) (by omega) hq33 (by omega) (by omega) (by omega)) (by omega) hfr (by omega) hk0 hk1
              · refine zz_iconst d_OM_isClearFrom_137 ?_
                refine ab_goto (tgt := 142) d_OM_isClearFrom_138 (by decide) ?_
                refine ab_istore d_OM_isClearFrom_142 (Nat.le_of_ble_eq_true rfl) (Nat.le_of_ble_eq_true rfl) rfl ?_
                change ab_W _ _ _ G19 144 [some (vR a), some (vz b0), some (vz any_), some (vz tu), some (vz x_), some (vz (K x_)), some (vz 0), some (vz 1)] [] _
                refine ab_iload d_OM_isClearFrom_144 rfl ?_
                refine zz_if_ne (tgt := 154) d_OM_isClearFrom_146 (by decide) (by decide) (fun c71 => absurd c71 (by decide)) (fun c71 => ?_)
                refine ab_iload d_OM_isClearFrom_149 rfl ?_
                refine zz_if_eq (tgt := 156) d_OM_isClearFrom_151 (by decide) (by decide) (fun c72 => absurd c72 (by decide)) (fun c72 => ?_)
                refine zz_iconst d_OM_isClearFrom_154 ?_
                refine zz_bret rfl (by decide) d_OM_isClearFrom_155 ?_
                exact hk0 _ _ _ _ _ _ _ _ _ ha hse_ hstk hcle pcsI_tkn (by first | exact jsr | exact rgs_w jsr (by omega)) (by exact jsa) (by omega) (by omega) (by omega) (by omega) hfr
        · cases hv
          rw [hGe]
          change ab_W _ _ _ G6 121 [some (vR a), some (vz b0), some (vz any_), some (vz tu), some (vz x_), some (vz (K x_)), some (vz 0), none] [vz 0] _
          refine zz_if_eq (tgt := 141) d_OM_isClearFrom_121 (by decide) (by decide) (fun c73 => ?_) (fun c73 => absurd c73 (by decide))
          refine zz_iconst d_OM_isClearFrom_141 ?_
          refine ab_istore d_OM_isClearFrom_142 (Nat.le_of_ble_eq_true rfl) (Nat.le_of_ble_eq_true rfl) rfl ?_
          change ab_W _ _ _ G6 144 [some (vR a), some (vz b0), some (vz any_), some (vz tu), some (vz x_), some (vz (K x_)), some (vz 0), some (vz 0)] [] _
          refine ab_iload d_OM_isClearFrom_144 rfl ?_
          refine zz_if_ne (tgt := 154) d_OM_isClearFrom_146 (by decide) (by decide) (fun c74 => absurd c74 (by decide)) (fun c74 => ?_)
          refine ab_iload d_OM_isClearFrom_149 rfl ?_
          refine zz_if_eq (tgt := 156) d_OM_isClearFrom_151 (by decide) (by decide) (fun c75 => ?_) (fun c75 => absurd c75 (by decide))
          refine ab_aload_n d_OM_isClearFrom_156 rfl ?_
          refine ab_getf (fs := [sp0, vR wk, vR onw, vR tkn, vR se_, vR cle, vR stk, vz (dp - 1), vz fo, vz chn, vR q, s0, vz hw, vz fy, vj (stp + 1)]) f_OM_28 d_OM_isClearFrom_157 ha.2.2 rfl ?_
          refine ab_iload d_OM_isClearFrom_160 rfl ?_
          refine ab_iload_n d_OM_isClearFrom_162 rfl ?_
          refine zz_iast d_OM_isClearFrom_163 hse_ (by omega) (hse_.2.1 (by decide)) ?_
          obtain ⟨G76, eG76⟩ : ∃ z : ab_G, z = List.set G6 se_ (za 808 (zu SE x_ b0)) := ⟨_, rfl⟩
          have ha := ha.keep hse_ eG76 (by decide)
          have hstk := hstk.keep hse_ eG76 (by decide)
          have hq := hq.keep hse_ eG76 (by omega)
          have hki := hki.keep hse_ eG76 (by omega)
          have hne := hne.keep hse_ eG76 (by omega)
          have hot := hot.keep hse_ eG76 (by omega)
          have hra := hra.keep hse_ eG76 (by omega)
          have hcle := hcle.keep hse_ eG76 (by decide)
          have hst := (fx.rf (o := o) (S := [55]) (G := G6)).wr hse_ eG76 (List.mem_singleton.mpr rfl)
          have pcsI_tkn := csI.fr hst pcsI_tkn (by decide) (by decide)
          have hq77 := z_len eG76
          have hq78 := z_sl hse_ eG76 rfl
          have hfr := hfr.wr hse_ eG76 (by decide)
          have hse_ := hse_.kept eG76
          change ab_W _ _ _ (List.set G6 se_ (za 808 (zu SE x_ b0))) 164 [some (vR a), some (vz b0), some (vz any_), some (vz tu), some (vz x_), some (vz (K x_)), some (vz 0), some (vz 0)] [] _
          rw [← eG76]
          refine ab_iload_n d_OM_isClearFrom_164 rfl ?_
          refine ab_iload d_OM_isClearFrom_165 rfl ?_
          refine zz_iconst d_OM_isClearFrom_167 ?_
          refine zz_icmp_ne (tgt := 175) d_OM_isClearFrom_168 (by decide) (by omega) (by decide) (fun c79 => ?_) (fun c79 => absurd c79 (by omega))
          refine zz_iconst d_OM_isClearFrom_175 ?_
          refine zz_ior01 d_OM_isClearFrom_176 (by omega) (by omega) ?_
          obtain ⟨v80, hv80⟩ : ∃ z : Int, z = (max any_ 0) := ⟨_, rfl⟩
          rw [← hv80]
          have hv80b : v80 = 0 ∨ v80 = 1 := by omega
          change ab_W _ _ _ G76 177 [some (vR a), some (vz b0), some (vz any_), some (vz tu), some (vz x_), some (vz (K x_)), some (vz 0), some (vz 0)] [vz v80] _
          refine ab_istore_n d_OM_isClearFrom_177 (Nat.le_of_ble_eq_true rfl) (Nat.le_of_ble_eq_true rfl) rfl ?_
          change ab_W _ _ _ G76 178 [some (vR a), some (vz b0), some (vz v80), some (vz tu), some (vz x_), some (vz (K x_)), some (vz 0), some (vz 0)] [] _
          refine ab_iload d_OM_isClearFrom_178 rfl ?_
          refine zz_bipush d_OM_isClearFrom_180 (by decide) ?_
          refine zz_icmp_ne (tgt := 214) d_OM_isClearFrom_182 (by decide) (by omega) (by decide) (fun c81 => ?_) (fun c81 => ?_)
          · refine ab_iload d_OM_isClearFrom_214 rfl ?_
            refine zz_bipush d_OM_isClearFrom_216 (by decide) ?_
            refine zz_icmp_eq (tgt := 234) d_OM_isClearFrom_218 (by decide) (by omega) (by decide) (fun c82 => absurd c82 (by omega)) (fun c82 => ?_)
            refine ab_iload d_OM_isClearFrom_221 rfl ?_
            refine zz_bipush d_OM_isClearFrom_223 (by decide) ?_
            refine zz_icmp_eq (tgt := 234) d_OM_isClearFrom_225 (by decide) (by omega) (by decide) (fun c83 => ?_) (fun c83 => ?_)
            · refine ab_aload_n d_OM_isClearFrom_234 rfl ?_
              refine ab_getf (fs := [sp0, vR wk, vR onw, vR tkn, vR se_, vR cle, vR stk, vz (dp - 1), vz fo, vz chn, vR q, s0, vz hw, vz fy, vj (stp + 1)]) f_OM_34 d_OM_isClearFrom_235 ha.2.2 rfl ?_
              refine ab_aload_n d_OM_isClearFrom_238 rfl ?_
              refine ab_getf (fs := [sp0, vR wk, vR onw, vR tkn, vR se_, vR cle, vR stk, vz (dp - 1), vz fo, vz chn, vR q, s0, vz hw, vz fy, vj (stp + 1)]) f_OM_76 d_OM_isClearFrom_239 ha.2.2 rfl ?_
              refine ab_aload_n d_OM_isClearFrom_242 rfl ?_
              refine ab_getf (fs := [sp0, vR wk, vR onw, vR tkn, vR se_, vR cle, vR stk, vz (dp - 1), vz fo, vz chn, vR q, s0, vz hw, vz fy, vj (stp + 1)]) f_OM_47 d_OM_isClearFrom_243 ha.2.2 rfl ?_
              refine ab_getf (fs := [vR ki, vR ne, vR ot, vz cnt, vz fi, vz la, vR ra, vz ru, vz gr, vz wi, vz sz, vz fl, vz ve, vz mi, vR na, vR nl]) f_OM_67 d_OM_isClearFrom_246 hq.2.2 rfl ?_
              refine ab_iload d_OM_isClearFrom_249 rfl ?_
              refine zz_iald d_OM_isClearFrom_251 hne (by omega) ?_
              have hq84 := hp.n x_ (by omega) (by omega)
              refine zz_iast d_OM_isClearFrom_252 hstk (by omega) (hstk.2.1 (by decide)) ?_
              obtain ⟨G85, eG85⟩ : ∃ z : ab_G, z = List.set G76 stk (za 809 (zu SK (dp - 1) (N x_))) := ⟨_, rfl⟩
              have ha := ha.keep hstk eG85 (by decide)
              have hse_ := hse_.keep hstk eG85 (by decide)
              have hq := hq.keep hstk eG85 (by omega)
              have hki := hki.keep hstk eG85 (by omega)
              have hne := hne.keep hstk eG85 (by omega)
              have hot := hot.keep hstk eG85 (by omega)
              have hra := hra.keep hstk eG85 (by omega)
              have hcle := hcle.keep hstk eG85 (by decide)
              have hst := (fx.rf (o := o) (S := [57]) (G := G76)).wr hstk eG85 (List.mem_singleton.mpr rfl)
              have pcsI_tkn := csI.fr hst pcsI_tkn (by decide) (by decide)
              have hq86 := z_len eG85
              have hq87 := z_sl hstk eG85 rfl
              have hfr := hfr.wr hstk eG85 (by decide)
              have hstk := hstk.kept eG85
              change ab_W _ _ _ (List.set G76 stk (za 809 (zu SK (dp - 1) (N x_)))) 253 [some (vR a), some (vz b0), some (vz v80), some (vz tu), some (vz x_), some (vz (K x_)), some (vz 0), some (vz 0)] [] _
              rw [← eG85]
              refine ab_aload_n d_OM_isClearFrom_253 rfl ?_
              refine ab_dup d_OM_isClearFrom_254 rfl ?_
              refine ab_getf (fs := [sp0, vR wk, vR onw, vR tkn, vR se_, vR cle, vR stk, vz (dp - 1), vz fo, vz chn, vR q, s0, vz hw, vz fy, vj (stp + 1)]) f_OM_76 d_OM_isClearFrom_255 ha.2.2 rfl ?_
              refine zz_iconst d_OM_isClearFrom_258 ?_
              refine zz_iadd d_OM_isClearFrom_259 ?_
              refine ab_putf (fs := [sp0, vR wk, vR onw, vR tkn, vR se_, vR cle, vR stk, vz (dp - 1), vz fo, vz chn, vR q, s0, vz hw, vz fy, vj (stp + 1)]) f_OM_76 (Or.inl rfl) d_OM_isClearFrom_260 ha.2.2 (Nat.le_of_ble_eq_true rfl) (fun _ => ⟨rfl, rfl⟩) (ha.2.1 (by decide)) ?_
              obtain ⟨G88, eG88⟩ : ∃ z : ab_G, z = List.set G85 a (ab_ob 3 [sp0, vR wk, vR onw, vR tkn, vR se_, vR cle, vR stk, vz ((dp - 1) + 1), vz fo, vz chn, vR q, s0, vz hw, vz fy, vj (stp + 1)]) := ⟨_, rfl⟩
              have hse_ := hse_.keep ha eG88 (by decide)
              have hstk := hstk.keep ha eG88 (by decide)
              have hq := hq.keep ha eG88 (by omega)
              have hki := hki.keep ha eG88 (by omega)
              have hne := hne.keep ha eG88 (by omega)
              have hot := hot.keep ha eG88 (by omega)
              have hra := hra.keep ha eG88 (by omega)
              have hcle := hcle.keep ha eG88 (by decide)
              have hst := (fx.rf (o := o) (S := [50]) (G := G85)).wr ha eG88 (List.mem_singleton.mpr rfl)
              have pcsI_tkn := csI.fr hst pcsI_tkn (by decide) (by decide)
              have hq89 := z_len eG88
              have hq90 := z_sl ha eG88 rfl
              have hfr := hfr.wr ha eG88 (by decide)
              have ha := ha.kept eG88
              change ab_W _ _ _ (List.set G85 a (ab_ob 3 [sp0, vR wk, vR onw, vR tkn, vR se_, vR cle, vR stk, vz ((dp - 1) + 1), vz fo, vz chn, vR q, s0, vz hw, vz fy, vj (stp + 1)])) 263 [some (vR a), some (vz b0), some (vz v80), some (vz tu), some (vz x_), some (vz (K x_)), some (vz 0), some (vz 0)] [] _
              rw [← eG88]
              refine zz_iinc d_OM_isClearFrom_263 rfl (Nat.le_of_ble_eq_true rfl) (Nat.le_of_ble_eq_true rfl) rfl ?_
              change ab_W _ _ _ G88 266 [some (vR a), some (vz b0), some (vz v80), some (vz (tu + 1)), some (vz x_), some (vz (K x_)), some (vz 0), some (vz 0)] [] _
              refine ab_goto (tgt := 30) d_OM_isClearFrom_266 (by decide) ?_
              refine ab_less (L' := [some (vR a), some (vz b0), some (vz v80), some (vz (tu + 1)), none, none, none, none]) (fun i v h => by rcases i with _ | _ | _ | _ | _ | _ | _ | _ | i <;> first | exact h | (simp at h)) ?_
              exact ih (dp := ((dp - 1) + 1)) (stp := (stp + 1)) (SK := (zu SK (dp - 1) (N x_))) (SE := (zu SE x_ b0)) (any_ := v80) (tu := (tu + 1)) (nt := nt) (ct := ct) (P := P) ha hse_ hstk hq hki hne hot hra hcle pcsI_tkn (by omega) (rgs_zu jsr (by omega)) (osame_s jsa) (oI_one jin (by omega) hx_ (by omega) (by omega) (hp.n x_ (by omega) (by omega))) (by omega) (by omega) (by omega) jlf (by rw [show v80 = any_ by omega]; exact (ici_one jic (by omega) hx_ hxr (by omega) (by omega) (hp.n x_ (by omega) (by omega)).1)) (by omega) hfr (by omega) hk0 hk1
            · refine ab_iload d_OM_isClearFrom_228 rfl ?_
              refine zz_iconst d_OM_isClearFrom_230 ?_
              refine zz_icmp_ne (tgt := 263) d_OM_isClearFrom_231 (by decide) (by omega) (by decide) (fun c91 => ?_) (fun c91 => ?_)
              · refine zz_iinc d_OM_isClearFrom_263 rfl (Nat.le_of_ble_eq_true rfl) (Nat.le_of_ble_eq_true rfl) rfl ?_
                change ab_W _ _ _ G76 266 [some (vR a), some (vz b0), some (vz v80), some (vz (tu + 1)), some (vz x_), some (vz (K x_)), some (vz 0), some (vz 0)] [] _
                refine ab_goto (tgt := 30) d_OM_isClearFrom_266 (by decide) ?_
                refine ab_less (L' := [some (vR a), some (vz b0), some (vz v80), some (vz (tu + 1)), none, none, none, none]) (fun i v h => by rcases i with _ | _ | _ | _ | _ | _ | _ | _ | i <;> first | exact h | (simp at h)) ?_
                exact ih (dp := (dp - 1)) (stp := (stp + 1)) (SK := SK) (SE := (zu SE x_ b0)) (any_ := v80) (tu := (tu + 1)) (nt := nt) (ct := ct) (P := P) ha hse_ hstk hq hki hne hot hra hcle pcsI_tkn (by omega) (rgs_zu jsr (by omega)) (osame_s jsa) (oI_leaf jin (by omega) hx_ (by omega) (by omega)) (by omega) (by omega) (by omega) jlf (by rw [show v80 = any_ by omega]; exact (ici_leaf jic (by omega) hx_ hxr (by omega) (by omega))) (by omega) hfr (by omega) hk0 hk1
              · refine ab_aload_n d_OM_isClearFrom_234 rfl ?_
                refine ab_getf (fs := [sp0, vR wk, vR onw, vR tkn, vR se_, vR cle, vR stk, vz (dp - 1), vz fo, vz chn, vR q, s0, vz hw, vz fy, vj (stp + 1)]) f_OM_34 d_OM_isClearFrom_235 ha.2.2 rfl ?_
                refine ab_aload_n d_OM_isClearFrom_238 rfl ?_
                refine ab_getf (fs := [sp0, vR wk, vR onw, vR tkn, vR se_, vR cle, vR stk, vz (dp - 1), vz fo, vz chn, vR q, s0, vz hw, vz fy, vj (stp + 1)]) f_OM_76 d_OM_isClearFrom_239 ha.2.2 rfl ?_
                refine ab_aload_n d_OM_isClearFrom_242 rfl ?_
                refine ab_getf (fs := [sp0, vR wk, vR onw, vR tkn, vR se_, vR cle, vR stk, vz (dp - 1), vz fo, vz chn, vR q, s0, vz hw, vz fy, vj (stp + 1)]) f_OM_47 d_OM_isClearFrom_243 ha.2.2 rfl ?_
                refine ab_getf (fs := [vR ki, vR ne, vR ot, vz cnt, vz fi, vz la, vR ra, vz ru, vz gr, vz wi, vz sz, vz fl, vz ve, vz mi, vR na, vR nl]) f_OM_67 d_OM_isClearFrom_246 hq.2.2 rfl ?_
                refine ab_iload d_OM_isClearFrom_249 rfl ?_
                refine zz_iald d_OM_isClearFrom_251 hne (by omega) ?_
                have hq92 := hp.n x_ (by omega) (by omega)
                refine zz_iast d_OM_isClearFrom_252 hstk (by omega) (hstk.2.1 (by decide)) ?_
                obtain ⟨G93, eG93⟩ : ∃ z : ab_G, z = List.set G76 stk (za 809 (zu SK (dp - 1) (N x_))) := ⟨_, rfl⟩
                have ha := ha.keep hstk eG93 (by decide)
                have hse_ := hse_.keep hstk eG93 (by decide)
                have hq := hq.keep hstk eG93 (by omega)
                have hki := hki.keep hstk eG93 (by omega)
                have hne := hne.keep hstk eG93 (by omega)
                have hot := hot.keep hstk eG93 (by omega)
                have hra := hra.keep hstk eG93 (by omega)
                have hcle := hcle.keep hstk eG93 (by decide)
                have hst := (fx.rf (o := o) (S := [57]) (G := G76)).wr hstk eG93 (List.mem_singleton.mpr rfl)
                have pcsI_tkn := csI.fr hst pcsI_tkn (by decide) (by decide)
                have hq94 := z_len eG93
                have hq95 := z_sl hstk eG93 rfl
                have hfr := hfr.wr hstk eG93 (by decide)
                have hstk := hstk.kept eG93
                change ab_W _ _ _ (List.set G76 stk (za 809 (zu SK (dp - 1) (N x_)))) 253 [some (vR a), some (vz b0), some (vz v80), some (vz tu), some (vz x_), some (vz (K x_)), some (vz 0), some (vz 0)] [] _
                rw [← eG93]
                refine ab_aload_n d_OM_isClearFrom_253 rfl ?_
                refine ab_dup d_OM_isClearFrom_254 rfl ?_
                refine ab_getf (fs := [sp0, vR wk, vR onw, vR tkn, vR se_, vR cle, vR stk, vz (dp - 1), vz fo, vz chn, vR q, s0, vz hw, vz fy, vj (stp + 1)]) f_OM_76 d_OM_isClearFrom_255 ha.2.2 rfl ?_
                refine zz_iconst d_OM_isClearFrom_258 ?_
                refine zz_iadd d_OM_isClearFrom_259 ?_
                refine ab_putf (fs := [sp0, vR wk, vR onw, vR tkn, vR se_, vR cle, vR stk, vz (dp - 1), vz fo, vz chn, vR q, s0, vz hw, vz fy, vj (stp + 1)]) f_OM_76 (Or.inl rfl) d_OM_isClearFrom_260 ha.2.2 (Nat.le_of_ble_eq_true rfl) (fun _ => ⟨rfl, rfl⟩) (ha.2.1 (by decide)) ?_
                obtain ⟨G96, eG96⟩ : ∃ z : ab_G, z = List.set G93 a (ab_ob 3 [sp0, vR wk, vR onw, vR tkn, vR se_, vR cle, vR stk, vz ((dp - 1) + 1), vz fo, vz chn, vR q, s0, vz hw, vz fy, vj (stp + 1)]) := ⟨_, rfl⟩
                have hse_ := hse_.keep ha eG96 (by decide)
                have hstk := hstk.keep ha eG96 (by decide)
                have hq := hq.keep ha eG96 (by omega)
                have hki := hki.keep ha eG96 (by omega)
                have hne := hne.keep ha eG96 (by omega)
                have hot := hot.keep ha eG96 (by omega)
                have hra := hra.keep ha eG96 (by omega)
                have hcle := hcle.keep ha eG96 (by decide)
                have hst := (fx.rf (o := o) (S := [50]) (G := G93)).wr ha eG96 (List.mem_singleton.mpr rfl)
                have pcsI_tkn := csI.fr hst pcsI_tkn (by decide) (by decide)
                have hq97 := z_len eG96
                have hq98 := z_sl ha eG96 rfl
                have hfr := hfr.wr ha eG96 (by decide)
                have ha := ha.kept eG96
                change ab_W _ _ _ (List.set G93 a (ab_ob 3 [sp0, vR wk, vR onw, vR tkn, vR se_, vR cle, vR stk, vz ((dp - 1) + 1), vz fo, vz chn, vR q, s0, vz hw, vz fy, vj (stp + 1)])) 263 [some (vR a), some (vz b0), some (vz v80), some (vz tu), some (vz x_), some (vz (K x_)), some (vz 0), some (vz 0)] [] _
                rw [← eG96]
                refine zz_iinc d_OM_isClearFrom_263 rfl (Nat.le_of_ble_eq_true rfl) (Nat.le_of_ble_eq_true rfl) rfl ?_
                change ab_W _ _ _ G96 266 [some (vR a), some (vz b0), some (vz v80), some (vz (tu + 1)), some (vz x_), some (vz (K x_)), some (vz 0), some (vz 0)] [] _
                refine ab_goto (tgt := 30) d_OM_isClearFrom_266 (by decide) ?_
                refine ab_less (L' := [some (vR a), some (vz b0), some (vz v80), some (vz (tu + 1)), none, none, none, none]) (fun i v h => by rcases i with _ | _ | _ | _ | _ | _ | _ | _ | i <;> first | exact h | (simp at h)) ?_
                exact ih (dp := ((dp - 1) + 1)) (stp := (stp + 1)) (SK := (zu SK (dp - 1) (N x_))) (SE := (zu SE x_ b0)) (any_ := v80) (tu := (tu + 1)) (nt := nt) (ct := ct) (P := P) ha hse_ hstk hq hki hne hot hra hcle pcsI_tkn (by omega) (rgs_zu jsr (by omega)) (osame_s jsa) (oI_one jin (by omega) hx_ (by omega) (by omega) (hp.n x_ (by omega) (by omega))) (by omega) (by omega) (by omega) jlf (by rw [show v80 = any_ by omega]; exact (ici_one jic (by omega) hx_ hxr (by omega) (by omega) (hp.n x_ (by omega) (by omega)).1)) (by omega) hfr (by omega) hk0 hk1
          · have ho6 := hp.o6 x_ (by omega) (by omega) (by omega)
            have hd6 := jin.d6 ck9 (by omega) hxr (by omega) (by omega)
            refine ab_aload_n d_OM_isClearFrom_185 rfl ?_
            refine ab_getf (fs := [sp0, vR wk, vR onw, vR tkn, vR se_, vR cle, vR stk, vz (dp - 1), vz fo, vz chn, vR q, s0, vz hw, vz fy, vj (stp + 1)]) f_OM_34 d_OM_isClearFrom_186 ha.2.2 rfl ?_
            refine ab_aload_n d_OM_isClearFrom_189 rfl ?_
            refine ab_getf (fs := [sp0, vR wk, vR onw, vR tkn, vR se_, vR cle, vR stk, vz (dp - 1), vz fo, vz chn, vR q, s0, vz hw, vz fy, vj (stp + 1)]) f_OM_76 d_OM_isClearFrom_190 ha.2.2 rfl ?_
            refine ab_aload_n d_OM_isClearFrom_193 rfl ?_
            refine ab_getf (fs := [sp0, vR wk, vR onw, vR tkn, vR se_, vR cle, vR stk, vz (dp - 1), vz fo, vz chn, vR q, s0, vz hw, vz fy, vj (stp + 1)]) f_OM_47 d_OM_isClearFrom_194 ha.2.2 rfl ?_
            refine ab_getf (fs := [vR ki, vR ne, vR ot, vz cnt, vz fi, vz la, vR ra, vz ru, vz gr, vz wi, vz sz, vz fl, vz ve, vz mi, vR na, vR nl]) f_OM_89 d_OM_isClearFrom_197 hq.2.2 rfl ?_
            refine ab_iload d_OM_isClearFrom_200 rfl ?_
            refine zz_iald d_OM_isClearFrom_202 hot (by omega) ?_
            refine zz_iast d_OM_isClearFrom_203 hstk (by omega) (hstk.2.1 (by decide)) ?_
            obtain ⟨G99, eG99⟩ : ∃ z : ab_G, z = List.set G76 stk (za 809 (zu SK (dp - 1) (O x_))) := ⟨_, rfl⟩
            have ha := ha.keep hstk eG99 (by decide)
            have hse_ := hse_.keep hstk eG99 (by decide)
            have hq := hq.keep hstk eG99 (by omega)
            have hki := hki.keep hstk eG99 (by omega)
            have hne := hne.keep hstk eG99 (by omega)
            have hot := hot.keep hstk eG99 (by omega)
            have hra := hra.keep hstk eG99 (by omega)
            have hcle := hcle.keep hstk eG99 (by decide)
            have hst := (fx.rf (o := o) (S := [57]) (G := G76)).wr hstk eG99 (List.mem_singleton.mpr rfl)
            have pcsI_tkn := csI.fr hst pcsI_tkn (by decide) (by decide)
            have hq100 := z_len eG99
            have hq101 := z_sl hstk eG99 rfl
            have hfr := hfr.wr hstk eG99 (by decide)
            have hstk := hstk.kept eG99
            change ab_W _ _ _ (List.set G76 stk (za 809 (zu SK (dp - 1) (O x_)))) 204 [some (vR a), some (vz b0), some (vz v80), some (vz tu), some (vz x_), some (vz (K x_)), some (vz 0), some (vz 0)] [] _
            rw [← eG99]
            refine ab_aload_n d_OM_isClearFrom_204 rfl ?_
            refine ab_dup d_OM_isClearFrom_205 rfl ?_
            refine ab_getf (fs := [sp0, vR wk, vR onw, vR tkn, vR se_, vR cle, vR stk, vz (dp - 1), vz fo, vz chn, vR q, s0, vz hw, vz fy, vj (stp + 1)]) f_OM_76 d_OM_isClearFrom_206 ha.2.2 rfl ?_
            refine zz_iconst d_OM_isClearFrom_209 ?_
            refine zz_iadd d_OM_isClearFrom_210 ?_
            refine ab_putf (fs := [sp0, vR wk, vR onw, vR tkn, vR se_, vR cle, vR stk, vz (dp - 1), vz fo, vz chn, vR q, s0, vz hw, vz fy, vj (stp + 1)]) f_OM_76 (Or.inl rfl) d_OM_isClearFrom_211 ha.2.2 (Nat.le_of_ble_eq_true rfl) (fun _ => ⟨rfl, rfl⟩) (ha.2.1 (by decide)) ?_
            obtain ⟨G102, eG102⟩ : ∃ z : ab_G, z = List.set G99 a (ab_ob 3 [sp0, vR wk, vR onw, vR tkn, vR se_, vR cle, vR stk, vz ((dp - 1) + 1), vz fo, vz chn, vR q, s0, vz hw, vz fy, vj (stp + 1)]) := ⟨_, rfl⟩
            have hse_ := hse_.keep ha eG102 (by decide)
            have hstk := hstk.keep ha eG102 (by decide)
            have hq := hq.keep ha eG102 (by omega)
            have hki := hki.keep ha eG102 (by omega)
            have hne := hne.keep ha eG102 (by omega)
            have hot := hot.keep ha eG102 (by omega)
            have hra := hra.keep ha eG102 (by omega)
            have hcle := hcle.keep ha eG102 (by decide)
            have hst := (fx.rf (o := o) (S := [50]) (G := G99)).wr ha eG102 (List.mem_singleton.mpr rfl)
            have pcsI_tkn := csI.fr hst pcsI_tkn (by decide) (by decide)
            have hq103 := z_len eG102
            have hq104 := z_sl ha eG102 rfl
            have hfr := hfr.wr ha eG102 (by decide)
            have ha := ha.kept eG102
            change ab_W _ _ _ (List.set G99 a (ab_ob 3 [sp0, vR wk, vR onw, vR tkn, vR se_, vR cle, vR stk, vz ((dp - 1) + 1), vz fo, vz chn, vR q, s0, vz hw, vz fy, vj (stp + 1)])) 214 [some (vR a), some (vz b0), some (vz v80), some (vz tu), some (vz x_), some (vz (K x_)), some (vz 0), some (vz 0)] [] _
            rw [← eG102]
            refine ab_iload d_OM_isClearFrom_214 rfl ?_
            refine zz_bipush d_OM_isClearFrom_216 (by decide) ?_
            refine zz_icmp_eq (tgt := 234) d_OM_isClearFrom_218 (by decide) (by omega) (by decide) (fun c105 => ?_) (fun c105 => absurd c105 (by omega))
            refine ab_aload_n d_OM_isClearFrom_234 rfl ?_
            refine ab_getf (fs := [sp0, vR wk, vR onw, vR tkn, vR se_, vR cle, vR stk, vz ((dp - 1) + 1), vz fo, vz chn, vR q, s0, vz hw, vz fy, vj (stp + 1)]) f_OM_34 d_OM_isClearFrom_235 ha.2.2 rfl ?_
            refine ab_aload_n d_OM_isClearFrom_238 rfl ?_
            refine ab_getf (fs := [sp0, vR wk, vR onw, vR tkn, vR se_, vR cle, vR stk, vz ((dp - 1) + 1), vz fo, vz chn, vR q, s0, vz hw, vz fy, vj (stp + 1)]) f_OM_76 d_OM_isClearFrom_239 ha.2.2 rfl ?_
            refine ab_aload_n d_OM_isClearFrom_242 rfl ?_
            refine ab_getf (fs := [sp0, vR wk, vR onw, vR tkn, vR se_, vR cle, vR stk, vz ((dp - 1) + 1), vz fo, vz chn, vR q, s0, vz hw, vz fy, vj (stp + 1)]) f_OM_47 d_OM_isClearFrom_243 ha.2.2 rfl ?_
            refine ab_getf (fs := [vR ki, vR ne, vR ot, vz cnt, vz fi, vz la, vR ra, vz ru, vz gr, vz wi, vz sz, vz fl, vz ve, vz mi, vR na, vR nl]) f_OM_67 d_OM_isClearFrom_246 hq.2.2 rfl ?_
            refine ab_iload d_OM_isClearFrom_249 rfl ?_
            refine zz_iald d_OM_isClearFrom_251 hne (by omega) ?_
            have hq106 := hp.n x_ (by omega) (by omega)
            refine zz_iast d_OM_isClearFrom_252 hstk (by omega) (hstk.2.1 (by decide)) ?_
            obtain ⟨G107, eG107⟩ : ∃ z : ab_G, z = List.set G102 stk (za 809 (zu (zu SK (dp - 1) (O x_)) ((dp - 1) + 1) (N x_))) := ⟨_, rfl⟩
            have ha := ha.keep hstk eG107 (by decide)
            have hse_ := hse_.keep hstk eG107 (by decide)
            have hq := hq.keep hstk eG107 (by omega)
            have hki := hki.keep hstk eG107 (by omega)
            have hne := hne.keep hstk eG107 (by omega)
            have hot := hot.keep hstk eG107 (by omega)
            have hra := hra.keep hstk eG107 (by omega)
            have hcle := hcle.keep hstk eG107 (by decide)
            have hst := (fx.rf (o := o) (S := [57]) (G := G102)).wr hstk eG107 (List.mem_singleton.mpr rfl)
            have pcsI_tkn := csI.fr hst pcsI_tkn (by decide) (by decide)
            have hq108 := z_len eG107
            have hq109 := z_sl hstk eG107 rfl
            have hfr := hfr.wr hstk eG107 (by decide)
            have hstk := hstk.kept eG107
            change ab_W _ _ _ (List.set G102 stk (za 809 (zu (zu SK (dp - 1) (O x_)) ((dp - 1) + 1) (N x_)))) 253 [some (vR a), some (vz b0), some (vz v80), some (vz tu), some (vz x_), some (vz (K x_)), some (vz 0), some (vz 0)] [] _
            rw [← eG107]
            refine ab_aload_n d_OM_isClearFrom_253 rfl ?_
            refine ab_dup d_OM_isClearFrom_254 rfl ?_
            refine ab_getf (fs := [sp0, vR wk, vR onw, vR tkn, vR se_, vR cle, vR stk, vz ((dp - 1) + 1), vz fo, vz chn, vR q, s0, vz hw, vz fy, vj (stp + 1)]) f_OM_76 d_OM_isClearFrom_255 ha.2.2 rfl ?_
            refine zz_iconst d_OM_isClearFrom_258 ?_
            refine zz_iadd d_OM_isClearFrom_259 ?_
            refine ab_putf (fs := [sp0, vR wk, vR onw, vR tkn, vR se_, vR cle, vR stk, vz ((dp - 1) + 1), vz fo, vz chn, vR q, s0, vz hw, vz fy, vj (stp + 1)]) f_OM_76 (Or.inl rfl) d_OM_isClearFrom_260 ha.2.2 (Nat.le_of_ble_eq_true rfl) (fun _ => ⟨rfl, rfl⟩) (ha.2.1 (by decide)) ?_
            obtain ⟨G110, eG110⟩ : ∃ z : ab_G, z = List.set G107 a (ab_ob 3 [sp0, vR wk, vR onw, vR tkn, vR se_, vR cle, vR stk, vz (((dp - 1) + 1) + 1), vz fo, vz chn, vR q, s0, vz hw, vz fy, vj (stp + 1)]) := ⟨_, rfl⟩
            have hse_ := hse_.keep ha eG110 (by decide)
            have hstk := hstk.keep ha eG110 (by decide)
            have hq := hq.keep ha eG110 (by omega)
            have hki := hki.keep ha eG110 (by omega)
            have hne := hne.keep ha eG110 (by omega)
            have hot := hot.keep ha eG110 (by omega)
            have hra := hra.keep ha eG110 (by omega)
            have hcle := hcle.keep ha eG110 (by decide)
            have hst := (fx.rf (o := o) (S := [50]) (G := G107)).wr ha eG110 (List.mem_singleton.mpr rfl)
            have pcsI_tkn := csI.fr hst pcsI_tkn (by decide) (by decide)
            have hq111 := z_len eG110
            have hq112 := z_sl ha eG110 rfl
            have hfr := hfr.wr ha eG110 (by decide)
            have ha := ha.kept eG110
            change ab_W _ _ _ (List.set G107 a (ab_ob 3 [sp0, vR wk, vR onw, vR tkn, vR se_, vR cle, vR stk, vz (((dp - 1) + 1) + 1), vz fo, vz chn, vR q, s0, vz hw, vz fy, vj (stp + 1)])) 263 [some (vR a), some (vz b0), some (vz v80), some (vz tu), some (vz x_), some (vz (K x_)), some (vz 0), some (vz 0)] [] _
            rw [← eG110]
            refine zz_iinc d_OM_isClearFrom_263 rfl (Nat.le_of_ble_eq_true rfl) (Nat.le_of_ble_eq_true rfl) rfl ?_
            change ab_W _ _ _ G110 266 [some (vR a), some (vz b0), some (vz v80), some (vz (tu + 1)), some (vz x_), some (vz (K x_)), some (vz 0), some (vz 0)] [] _
            refine ab_goto (tgt := 30) d_OM_isClearFrom_266 (by decide) ?_
            refine ab_less (L' := [some (vR a), some (vz b0), some (vz v80), some (vz (tu + 1)), none, none, none, none]) (fun i v h => by rcases i with _ | _ | _ | _ | _ | _ | _ | _ | i <;> first | exact h | (simp at h)) ?_
            exact ih (dp := (((dp - 1) + 1) + 1)) (stp := (stp + 1)) (SK := (zu (zu SK (dp - 1) (O x_)) ((dp - 1) + 1) (N x_))) (SE := (zu SE x_ b0)) (any_ := v80) (tu := (tu + 1)) (nt := nt) (ct := ct) (P := P) ha hse_ hstk hq hki hne hot hra hcle pcsI_tkn (by omega) (rgs_zu jsr (by omega)) (osame_s jsa) (oI_split jin (by omega) hx_ (by omega) (by omega) (hp.n x_ (by omega) (by omega)) ho6) (by omega) (by omega) (by omega) jlf (by rw [show v80 = any_ by omega]; exact (ici_split jic (by omega) hx_ hxr (by omega) (by omega) ⟨(hp.n x_ (by omega) (by omega)).1, ho6.1⟩)) (by omega) hfr (by omega) hk0 hk1
      · refine ab_iload d_OM_isClearFrom_98 rfl ?_
        refine zz_bipush d_OM_isClearFrom_100 (by decide) ?_
        refine zz_icmp_eq (tgt := 109) d_OM_isClearFrom_102 (by decide) (by omega) (by decide) (fun c113 => ?_) (fun c113 => ?_)
        · refine zz_iconst d_OM_isClearFrom_109 ?_
          refine ab_istore d_OM_isClearFrom_110 (Nat.le_of_ble_eq_true rfl) (Nat.le_of_ble_eq_true rfl) rfl ?_
          change ab_W _ _ _ G6 112 [some (vR a), some (vz b0), some (vz any_), some (vz tu), some (vz x_), some (vz (K x_)), some (vz 0), none] [] _
          refine ab_aload_n d_OM_isClearFrom_112 rfl ?_
          refine ab_getf (fs := [sp0, vR wk, vR onw, vR tkn, vR se_, vR cle, vR stk, vz (dp - 1), vz fo, vz chn, vR q, s0, vz hw, vz fy, vj (stp + 1)]) f_OM_47 d_OM_isClearFrom_113 ha.2.2 rfl ?_
          refine ab_iload d_OM_isClearFrom_116 rfl ?_
          refine ab_callV (d' := d - 1) (as := [vz x_]) (st := []) (r := _) (zq_PR_takes (o := o) (q := q) (lq := lq) (ki := ki) (ne := ne) (ot := ot) (cnt := cnt) (fi := fi) (la := la) (ra := ra) (ru := ru) (gr := gr) (wi := wi) (sz := sz) (fl := fl) (ve := ve) (mi := mi) (na := na) (nl := nl) (K := K) (x := x_) hq hki (by omega) hp (by omega)) (fun oc G2 h => by rcases h with ⟨h, _⟩ | ⟨h, _⟩ <;> exact ⟨_, h⟩) (by omega) m_PR_takes ml_OM_70 im_PR_takes se_PR_takes c_PR hq.2.2 (Nat.le_of_ble_eq_true rfl) d_OM_isClearFrom_118 rfl ?_
          intro v G114 hq
          rcases hq with ⟨hv, hGe, hq115⟩ | ⟨hv, hGe, hq116⟩
          · cases hv
            rw [hGe]
            change ab_W _ _ _ G6 121 [some (vR a), some (vz b0), some (vz any_), some (vz tu), some (vz x_), some (vz (K x_)), some (vz 0), none] [vz 1] _
            exfalso; omega
          · cases hv
            rw [hGe]
            change ab_W _ _ _ G6 121 [some (vR a), some (vz b0), some (vz any_), some (vz tu), some (vz x_), some (vz (K x_)), some (vz 0), none] [vz 0] _
            refine zz_if_eq (tgt := 141) d_OM_isClearFrom_121 (by decide) (by decide) (fun c117 => ?_) (fun c117 => absurd c117 (by decide))
            refine zz_iconst d_OM_isClearFrom_141 ?_
            refine ab_istore d_OM_isClearFrom_142 (Nat.le_of_ble_eq_true rfl) (Nat.le_of_ble_eq_true rfl) rfl ?_
            change ab_W _ _ _ G6 144 [some (vR a), some (vz b0), some (vz any_), some (vz tu), some (vz x_), some (vz (K x_)), some (vz 0), some (vz 0)] [] _
            refine ab_iload d_OM_isClearFrom_144 rfl ?_
            refine zz_if_ne (tgt := 154) d_OM_isClearFrom_146 (by decide) (by decide) (fun c118 => absurd c118 (by decide)) (fun c118 => ?_)
            refine ab_iload d_OM_isClearFrom_149 rfl ?_
            refine zz_if_eq (tgt := 156) d_OM_isClearFrom_151 (by decide) (by decide) (fun c119 => ?_) (fun c119 => absurd c119 (by decide))
            refine ab_aload_n d_OM_isClearFrom_156 rfl ?_
            refine ab_getf (fs := [sp0, vR wk, vR onw, vR tkn, vR se_, vR cle, vR stk, vz (dp - 1), vz fo, vz chn, vR q, s0, vz hw, vz fy, vj (stp + 1)]) f_OM_28 d_OM_isClearFrom_157 ha.2.2 rfl ?_
            refine ab_iload d_OM_isClearFrom_160 rfl ?_
            refine ab_iload_n d_OM_isClearFrom_162 rfl ?_
            refine zz_iast d_OM_isClearFrom_163 hse_ (by omega) (hse_.2.1 (by decide)) ?_
            obtain ⟨G120, eG120⟩ : ∃ z : ab_G, z = List.set G6 se_ (za 808 (zu SE x_ b0)) := ⟨_, rfl⟩
            have ha := ha.keep hse_ eG120 (by decide)
            have hstk := hstk.keep hse_ eG120 (by decide)
            have hq := hq.keep hse_ eG120 (by omega)
            have hki := hki.keep hse_ eG120 (by omega)
            have hne := hne.keep hse_ eG120 (by omega)
            have hot := hot.keep hse_ eG120 (by omega)
            have hra := hra.keep hse_ eG120 (by omega)
            have hcle := hcle.keep hse_ eG120 (by decide)
            have hst := (fx.rf (o := o) (S := [55]) (G := G6)).wr hse_ eG120 (List.mem_singleton.mpr rfl)
            have pcsI_tkn := csI.fr hst pcsI_tkn (by decide) (by decide)
            have hq121 := z_len eG120
            have hq122 := z_sl hse_ eG120 rfl
            have hfr := hfr.wr hse_ eG120 (by decide)
            have hse_ := hse_.kept eG120
            change ab_W _ _ _ (List.set G6 se_ (za 808 (zu SE x_ b0))) 164 [some (vR a), some (vz b0), some (vz any_), some (vz tu), some (vz x_), some (vz (K x_)), some (vz 0), some (vz 0)] [] _
            rw [← eG120]
            refine ab_iload_n d_OM_isClearFrom_164 rfl ?_
            refine ab_iload d_OM_isClearFrom_165 rfl ?_
            refine zz_iconst d_OM_isClearFrom_167 ?_
            refine zz_icmp_ne (tgt := 175) d_OM_isClearFrom_168 (by decide) (by omega) (by decide) (fun c123 => ?_) (fun c123 => absurd c123 (by omega))
            refine zz_iconst d_OM_isClearFrom_175 ?_
            refine zz_ior01 d_OM_isClearFrom_176 (by omega) (by omega) ?_
            obtain ⟨v124, hv124⟩ : ∃ z : Int, z = (max any_ 0) := ⟨_, rfl⟩
            rw [← hv124]
            have hv124b : v124 = 0 ∨ v124 = 1 := by omega
            change ab_W _ _ _ G120 177 [some (vR a), some (vz b0), some (vz any_), some (vz tu), some (vz x_), some (vz (K x_)), some (vz 0), some (vz 0)] [vz v124] _
            refine ab_istore_n d_OM_isClearFrom_177 (Nat.le_of_ble_eq_true rfl) (Nat.le_of_ble_eq_true rfl) rfl ?_
            change ab_W _ _ _ G120 178 [some (vR a), some (vz b0), some (vz v124), some (vz tu), some (vz x_), some (vz (K x_)), some (vz 0), some (vz 0)] [] _
            refine ab_iload d_OM_isClearFrom_178 rfl ?_
            refine zz_bipush d_OM_isClearFrom_180 (by decide) ?_
            refine zz_icmp_ne (tgt := 214) d_OM_isClearFrom_182 (by decide) (by omega) (by decide) (fun c125 => ?_) (fun c125 => absurd c125 (by omega))
            refine ab_iload d_OM_isClearFrom_214 rfl ?_
            refine zz_bipush d_OM_isClearFrom_216 (by decide) ?_
            refine zz_icmp_eq (tgt := 234) d_OM_isClearFrom_218 (by decide) (by omega) (by decide) (fun c126 => absurd c126 (by omega)) (fun c126 => ?_)
            refine ab_iload d_OM_isClearFrom_221 rfl ?_
            refine zz_bipush d_OM_isClearFrom_223 (by decide) ?_
            refine zz_icmp_eq (tgt := 234) d_OM_isClearFrom_225 (by decide) (by omega) (by decide) (fun c127 => absurd c127 (by omega)) (fun c127 => ?_)
            refine ab_iload d_OM_isClearFrom_228 rfl ?_
            refine zz_iconst d_OM_isClearFrom_230 ?_
            refine zz_icmp_ne (tgt := 263) d_OM_isClearFrom_231 (by decide) (by omega) (by decide) (fun c128 => ?_) (fun c128 => absurd c128 (by omega))
            refine zz_iinc d_OM_isClearFrom_263 rfl (Nat.le_of_ble_eq_true rfl) (Nat.le_of_ble_eq_true rfl) rfl ?_
            change ab_W _ _ _ G120 266 [some (vR a), some (vz b0), some (vz v124), some (vz (tu + 1)), some (vz x_), some (vz (K x_)), some (vz 0), some (vz 0)] [] _
            refine ab_goto (tgt := 30) d_OM_isClearFrom_266 (by decide) ?_
            refine ab_less (L' := [some (vR a), some (vz b0), some (vz v124), some (vz (tu + 1)), none, none, none, none]) (fun i v h => by rcases i with _ | _ | _ | _ | _ | _ | _ | _ | i <;> first | exact h | (simp at h)) ?_
            exact ih (dp := (dp - 1)) (stp := (stp + 1)) (SK := SK) (SE := (zu SE x_ b0)) (any_ := v124) (tu := (tu + 1)) (nt := nt) (ct := ct) (P := P) ha hse_ hstk hq hki hne hot hra hcle pcsI_tkn (by omega) (rgs_zu jsr (by omega)) (osame_s jsa) (oI_leaf jin (by omega) hx_ (by omega) (by omega)) (by omega) (by omega) (by omega) jlf (by rw [show v124 = any_ by omega]; exact (ici_leaf jic (by omega) hx_ hxr (by omega) (by omega))) (by omega) hfr (by omega) hk0 hk1
        · refine zz_iconst d_OM_isClearFrom_105 ?_
          refine ab_goto (tgt := 110) d_OM_isClearFrom_106 (by decide) ?_
          refine ab_istore d_OM_isClearFrom_110 (Nat.le_of_ble_eq_true rfl) (Nat.le_of_ble_eq_true rfl) rfl ?_
          change ab_W _ _ _ G6 112 [some (vR a), some (vz b0), some (vz any_), some (vz tu), some (vz x_), some (vz (K x_)), some (vz 1), none] [] _
          refine ab_aload_n d_OM_isClearFrom_112 rfl ?_
          refine ab_getf (fs := [sp0, vR wk, vR onw, vR tkn, vR se_, vR cle, vR stk, vz (dp - 1), vz fo, vz chn, vR q, s0, vz hw, vz fy, vj (stp + 1)]) f_OM_47 d_OM_isClearFrom_113 ha.2.2 rfl ?_
          refine ab_iload d_OM_isClearFrom_116 rfl ?_
          refine ab_callV (d' := d - 1) (as := [vz x_]) (st := []) (r := _) (zq_PR_takes (o := o) (q := q) (lq := lq) (ki := ki) (ne := ne) (ot := ot) (cnt := cnt) (fi := fi) (la := la) (ra := ra) (ru := ru) (gr := gr) (wi := wi) (sz := sz) (fl := fl) (ve := ve) (mi := mi) (na := na) (nl := nl) (K := K) (x := x_) hq hki (by omega) hp (by omega)) (fun oc G2 h => by rcases h with ⟨h, _⟩ | ⟨h, _⟩ <;> exact ⟨_, h⟩) (by omega) m_PR_takes ml_OM_70 im_PR_takes se_PR_takes c_PR hq.2.2 (Nat.le_of_ble_eq_true rfl) d_OM_isClearFrom_118 rfl ?_
          intro v G129 hq
          rcases hq with ⟨hv, hGe, hq130⟩ | ⟨hv, hGe, hq131⟩
          · cases hv
            rw [hGe]
            change ab_W _ _ _ G6 121 [some (vR a), some (vz b0), some (vz any_), some (vz tu), some (vz x_), some (vz (K x_)), some (vz 1), none] [vz 1] _
            refine zz_if_eq (tgt := 141) d_OM_isClearFrom_121 (by decide) (by decide) (fun c132 => absurd c132 (by decide)) (fun c132 => ?_)
            refine ab_iload_n d_OM_isClearFrom_124 rfl ?_
            refine zz_if_ne (tgt := 137) d_OM_isClearFrom_125 (by decide) (by omega) (fun c133 => ?_) (fun c133 => ?_)
            · refine zz_iconst d_OM_isClearFrom_137 ?_
              refine ab_goto (tgt := 142) d_OM_isClearFrom_138 (by decide) ?_
              refine ab_istore d_OM_isClearFrom_142 (Nat.le_of_ble_eq_true rfl) (Nat.le_of_ble_eq_true rfl) rfl ?_
              change ab_W _ _ _ G6 144 [some (vR a), some (vz b0), some (vz any_), some (vz tu), some (vz x_), some (vz (K x_)), some (vz 1), some (vz 1)] [] _
              refine ab_iload d_OM_isClearFrom_144 rfl ?_
              refine zz_if_ne (tgt := 154) d_OM_isClearFrom_146 (by decide) (by decide) (fun c134 => ?_) (fun c134 => absurd c134 (by decide))
              refine zz_iconst d_OM_isClearFrom_154 ?_
              refine zz_bret rfl (by decide) d_OM_isClearFrom_155 ?_
              exact hk0 _ _ _ _ _ _ _ _ _ ha hse_ hstk hcle pcsI_tkn (by first | exact jsr | exact rgs_w jsr (by omega)) (by exact jsa) (by omega) (by omega) (by omega) (by omega) hfr
            · refine ab_aload_n d_OM_isClearFrom_128 rfl ?_
              refine ab_iload d_OM_isClearFrom_129 rfl ?_
              refine ab_callV (d' := d - 1) (as := [vz x_]) (st := []) (r := _) (z_OM_isNewTaker (o := o) (a := a) (wk := wk) (onw := onw) (tkn := tkn) (se_ := se_) (cle := cle) (stk := stk) (dp := (dp - 1)) (fo := fo) (chn := chn) (hw := hw) (fy := fy) (stp := (stp + 1)) (q := q) (lq := lq) (ki := ki) (ne := ne) (ot := ot) (cnt := cnt) (fi := fi) (la := la) (ra := ra) (ru := ru) (gr := gr) (wi := wi) (sz := sz) (fl := fl) (ve := ve) (mi := mi) (na := na) (nl := nl) (K := K) (O := O) (RR := RR) (nr := nr) (sp0 := sp0) (s0 := s0) (x := x_) (nt := nt) (ct := ct) (P := P) ha hq hki hot hra pcsI_tkn (by omega) hp hpu hr (by omega) (by omega) (by omega) jlf (by omega) (by omega) (by omega)) (fun oc G2 h => by rcases h with ⟨_, h, _⟩ | ⟨_, _, _, _, _, h, _⟩ <;> exact ⟨_, h⟩) (by omega) m_OM_isNewTaker ml_OM_86 im_OM_isNewTaker se_OM_isNewTaker c_OM ha.2.2 (Nat.le_of_ble_eq_true rfl) d_OM_isClearFrom_131 rfl ?_
              intro v G135 hq
              rcases hq with ⟨v136, hv, hGe, hq137, hq138⟩ | ⟨o139, v140, n2141, c2142, P2143, hv, hfk, pNcsI_tkn, hq144, hq145, hq146, hq147, hq148, hq149⟩
              · cases hv
                rw [hGe]
                change ab_W _ _ _ G6 134 [some (vR a), some (vz b0), some (vz any_), some (vz tu), some (vz x_), some (vz (K x_)), some (vz 1), none] [vz v136] _
                refine zz_if_ne (tgt := 141) d_OM_isClearFrom_134 (by decide) (by omega) (fun c151 => ?_) (fun c151 => ?_)
                · refine zz_iconst d_OM_isClearFrom_141 ?_
                  refine ab_istore d_OM_isClearFrom_142 (Nat.le_of_ble_eq_true rfl) (Nat.le_of_ble_eq_true rfl) rfl ?_
                  change ab_W _ _ _ G6 144 [some (vR a), some (vz b0), some (vz any_), some (vz tu), some (vz x_), some (vz (K x_)), some (vz 1), some (vz 0)] [] _
                  refine ab_iload d_OM_isClearFrom_144 rfl ?_
                  refine zz_if_ne (tgt := 154) d_OM_isClearFrom_146 (by decide) (by decide) (fun c152 => ?_) (fun c152 => absurd c152 (by decide))
                  refine zz_iconst d_OM_isClearFrom_154 ?_
                  refine zz_bret rfl (by decide) d_OM_isClearFrom_155 ?_
                  exact hk0 _ _ _ _ _ _ _ _ _ ha hse_ hstk hcle pcsI_tkn (by first | exact jsr | exact rgs_w jsr (by omega)) (by exact jsa) (by omega) (by omega) (by omega) (by omega) hfr
                · refine zz_iconst d_OM_isClearFrom_137 ?_
                  refine ab_goto (tgt := 142) d_OM_isClearFrom_138 (by decide) ?_
                  refine ab_istore d_OM_isClearFrom_142 (Nat.le_of_ble_eq_true rfl) (Nat.le_of_ble_eq_true rfl) rfl ?_
                  change ab_W _ _ _ G6 144 [some (vR a), some (vz b0), some (vz any_), some (vz tu), some (vz x_), some (vz (K x_)), some (vz 1), some (vz 1)] [] _
                  refine ab_iload d_OM_isClearFrom_144 rfl ?_
                  refine zz_if_ne (tgt := 154) d_OM_isClearFrom_146 (by decide) (by decide) (fun c153 => ?_) (fun c153 => absurd c153 (by decide))
                  refine zz_iconst d_OM_isClearFrom_154 ?_
                  refine zz_bret rfl (by decide) d_OM_isClearFrom_155 ?_
                  exact hk0 _ _ _ _ _ _ _ _ _ ha hse_ hstk hcle pcsI_tkn (by first | exact jsr | exact rgs_w jsr (by omega)) (by exact jsa) (by omega) (by omega) (by omega) (by omega) hfr
              · cases hv
                have ha := hfk.get ha (by decide)
                have hse_ := hfk.get hse_ (by decide)
                have hstk := hfk.get hstk (by decide)
                have hq := hfk.get hq (by simp only [List.mem_cons, List.not_mem_nil, or_false]; omega)
                have hki := hfk.get hki (by simp only [List.mem_cons, List.not_mem_nil, or_false]; omega)
                have hne := hfk.get hne (by simp only [List.mem_cons, List.not_mem_nil, or_false]; omega)
                have hot := hfk.get hot (by simp only [List.mem_cons, List.not_mem_nil, or_false]; omega)
                have hra := hfk.get hra (by simp only [List.mem_cons, List.not_mem_nil, or_false]; omega)
                have hcle := hfk.get hcle (by decide)
                have pcsI_tkn := pNcsI_tkn
                have hfr := hfr.tr hfk (by decide)
                have hq150 := hfk.1
                change ab_W _ _ _ G135 134 [some (vR a), some (vz b0), some (vz any_), some (vz tu), some (vz x_), some (vz (K x_)), some (vz 1), none] [vz v140] _
                refine zz_if_ne (tgt := 141) d_OM_isClearFrom_134 (by decide) (by omega) (fun c154 => ?_) (fun c154 => ?_)
                · refine zz_iconst d_OM_isClearFrom_141 ?_
                  refine ab_istore d_OM_isClearFrom_142 (Nat.le_of_ble_eq_true rfl) (Nat.le_of_ble_eq_true rfl) rfl ?_
                  change ab_W _ _ _ G135 144 [some (vR a), some (vz b0), some (vz any_), some (vz tu), some (vz x_), some (vz (K x_)), some (vz 1), some (vz 0)] [] _
                  refine ab_iload d_OM_isClearFrom_144 rfl ?_
                  refine zz_if_ne (tgt := 154) d_OM_isClearFrom_146 (by decide) (by decide) (fun c155 => ?_) (fun c155 => absurd c155 (by decide))
                  refine zz_iconst d_OM_isClearFrom_154 ?_
                  refine zz_bret rfl (by decide) d_OM_isClearFrom_155 ?_
                  exact hk0 _ _ _ _ _ _ _ _ _ ha hse_ hstk hcle pcsI_tkn (by first | exact jsr | exact rgs_w jsr (by omega)) (by exact jsa) (by omega) (by omega) (by omega) (by omega) hfr
                · refine zz_iconst d_OM_isClearFrom_137 ?_
                  refine ab_goto (tgt := 142) d_OM_isClearFrom_138 (by decide) ?_
                  refine ab_istore d_OM_isClearFrom_142 (Nat.le_of_ble_eq_true rfl) (Nat.le_of_ble_eq_true rfl) rfl ?_
                  change ab_W _ _ _ G135 144 [some (vR a), some (vz b0), some (vz any_), some (vz tu), some (vz x_), some (vz (K x_)), some (vz 1), some (vz 1)] [] _
                  refine ab_iload d_OM_isClearFrom_144 rfl ?_
                  refine zz_if_ne (tgt := 154) d_OM_isClearFrom_146 (by decide) (by decide) (fun c156 => ?_) (fun c156 => absurd c156 (by decide))
                  refine zz_iconst d_OM_isClearFrom_154 ?_
                  refine zz_bret rfl (by decide) d_OM_isClearFrom_155 ?_
                  exact hk0 _ _ _ _ _ _ _ _ _ ha hse_ hstk hcle pcsI_tkn (by first | exact jsr | exact rgs_w jsr (by omega)) (by exact jsa) (by omega) (by omega) (by omega) (by omega) hfr
          · cases hv
            rw [hGe]
            change ab_W _ _ _ G6 121 [some (vR a), some (vz b0), some (vz any_), some (vz tu), some (vz x_), some (vz (K x_)), some (vz 1), none] [vz 0] _
            refine zz_if_eq (tgt := 141) d_OM_isClearFrom_121 (by decide) (by decide) (fun c157 => ?_) (fun c157 => absurd c157 (by decide))
            refine zz_iconst d_OM_isClearFrom_141 ?_
            refine ab_istore d_OM_isClearFrom_142 (Nat.le_of_ble_eq_true rfl) (Nat.le_of_ble_eq_true rfl) rfl ?_
            change ab_W _ _ _ G6 144 [some (vR a), some (vz b0), some (vz any_), some (vz tu), some (vz x_), some (vz (K x_)), some (vz 1), some (vz 0)] [] _
            refine ab_iload d_OM_isClearFrom_144 rfl ?_
            refine zz_if_ne (tgt := 154) d_OM_isClearFrom_146 (by decide) (by decide) (fun c158 => ?_) (fun c158 => absurd c158 (by decide))
            refine zz_iconst d_OM_isClearFrom_154 ?_
            refine zz_bret rfl (by decide) d_OM_isClearFrom_155 ?_
            exact hk0 _ _ _ _ _ _ _ _ _ ha hse_ hstk hcle pcsI_tkn (by first | exact jsr | exact rgs_w jsr (by omega)) (by exact jsa) (by omega) (by omega) (by omega) (by omega) hfr
set_option maxRecDepth 100000 in
set_option maxHeartbeats 4000000 in
theorem z_OM_isClearFrom {X : ab_X} {d : Nat} {o : Nat → Nat} {G : ab_G} {a : Nat} {wk : Nat} {onw : Nat} {tkn : Nat} {se_ : Nat} {cle : Nat} {stk : Nat} {dp : Int} {fo : Int} {chn : Int} {hw : Int} {fy : Int} {stp : Int} {SK : Int → Int} {q : Nat} {lq : Nat} {ki : Nat} {ne : Nat} {ot : Nat} {cnt : Int} {fi : Int} {la : Int} {ra : Nat} {ru : Int} {gr : Int} {wi : Int} {sz : Int} {fl : Int} {ve : Int} {mi : Int} {na : Nat} {nl : Nat} {K : Int → Int} {N : Int → Int} {O : Int → Int} {RR : Int → Int} {nr : Nat} {sp0 : Value} {s0 : Value} {SE : Int → Int} {CL : Int → Int} {b0 : Int} {nt : Nat} {ct : Int} {P : Int → Prop} (ha : cc o G a 50 (ab_ob 3 [sp0, vR wk, vR onw, vR tkn, vR se_, vR cle, vR stk, vz dp, vz fo, vz chn, vR q, s0, vz hw, vz fy, vj stp])) (hse_ : cc o G se_ 55 (za 808 SE)) (hstk : cc o G stk 57 (za 809 SK)) (hq : cc o G q lq (ab_ob 5 [vR ki, vR ne, vR ot, vz cnt, vz fi, vz la, vR ra, vz ru, vz gr, vz wi, vz sz, vz fl, vz ve, vz mi, vR na, vR nl])) (hki : cc o G ki (lq + 1) (za 808 K)) (hne : cc o G ne (lq + 2) (za 808 N)) (hot : cc o G ot (lq + 3) (za 808 O)) (hra : cc o G ra (lq + 4) (za nr RR)) (hcle : cc o G cle 56 (za 808 CL)) (pcsI_tkn : csI o G tkn 53 54 nt ct P) (cq : 100 ≤ lq ∧ 0 ≤ cnt ∧ cnt ≤ 808 ∧ ↑nr ≤ (100000 : Int)) (hp : prok K N O RR cnt ↑nr wi) (hpu : prok K N O RR cnt ru wi) (hr : ∀ k : Int, 0 ≤ k → k < ↑nr → 0 ≤ RR k ∧ RR k ≤ 1114111) (cru : 0 ≤ ru ∧ ru ≤ ↑nr ∧ ru ≤ 50000) (ck9 : K 0 = 9) (cb : 0 ≤ b0 ∧ b0 < cnt) (jsr : rgs SE 808 (-1) 808) (jse : onew SE b0 cnt) (hn : nt ≤ 104000) (rc : G.length + 3400 ≤ ab_n0 + room_1.cells) (rs : ab_slots G + 208000 ≤ room_1.slots + 2 * nt) (hd : 8 ≤ d) : ab_F X d y_OM_isClearFrom (.code y_OM_isClearFrom b_OM_isClearFrom 8 (some (.boolean))) [vR a, vz b0] G (fun oc G2 => (∃ o2 : Nat → Nat, ∃ dp2 : Int, ∃ st2 : Int, ∃ SK2 : Int → Int, ∃ SE2 : Int → Int, ∃ n2 : Nat, ∃ c2 : Int, ∃ P2 : Int → Prop, oc = .returned (some (vz 0)) ∧ fx o o2 [50, 53, 54, 55, 56, 57] G G2 ∧ cc o2 G2 a 50 (ab_ob 3 [sp0, vR wk, vR onw, vR tkn, vR se_, vR cle, vR stk, vz dp2, vz fo, vz chn, vR q, s0, vz hw, vz fy, vj st2]) ∧ cc o2 G2 se_ 55 (za 808 SE2) ∧ cc o2 G2 stk 57 (za 809 SK2) ∧ cc o2 G2 cle 56 (za 808 (zu CL b0 1)) ∧ csI o2 G2 tkn 53 54 n2 c2 P2 ∧ (rgs SE2 808 (-1) 808) ∧ (osame SE SE2 b0) ∧ (n2 ≤ 104000) ∧ (stp ≤ st2 ∧ st2 ≤ stp + 1616) ∧ (64 * G2.length + nt ≤ 64 * G.length + n2) ∧ (ab_slots G2 + 2 * nt ≤ ab_slots G + 2 * n2)) ∨ (∃ o2 : Nat → Nat, ∃ dp2 : Int, ∃ st2 : Int, ∃ SK2 : Int → Int, ∃ SE2 : Int → Int, ∃ n2 : Nat, ∃ c2 : Int, ∃ P2 : Int → Prop, oc = .returned (some (vz 1)) ∧ fx o o2 [50, 53, 54, 55, 56, 57] G G2 ∧ cc o2 G2 a 50 (ab_ob 3 [sp0, vR wk, vR onw, vR tkn, vR se_, vR cle, vR stk, vz dp2, vz fo, vz chn, vR q, s0, vz hw, vz fy, vj st2]) ∧ cc o2 G2 se_ 55 (za 808 SE2) ∧ cc o2 G2 stk 57 (za 809 SK2) ∧ cc o2 G2 cle 56 (za 808 (zu CL b0 1)) ∧ csI o2 G2 tkn 53 54 n2 c2 P2 ∧ (rgs SE2 808 (-1) 808) ∧ (osame SE SE2 b0) ∧ (n2 ≤ 104000) ∧ (stp ≤ st2 ∧ st2 ≤ stp + 1616) ∧ (64 * G2.length + nt ≤ 64 * G.length + n2) ∧ (ab_slots G2 + 2 * nt ≤ ab_slots G + 2 * n2) ∧ (oclear K N O cnt b0) ∧ (cleF K N O RR b0))) := by
  refine ab_F_of (by decide +kernel) (Nat.le_of_ble_eq_true rfl) ?_
  obtain ⟨Q, hQ⟩ : ∃ z : Outcome → ab_G → Prop, z = (fun oc G2 => (∃ o2 : Nat → Nat, ∃ dp2 : Int, ∃ st2 : Int, ∃ SK2 : Int → Int, ∃ SE2 : Int → Int, ∃ n2 : Nat, ∃ c2 : Int, ∃ P2 : Int → Prop, oc = .returned (some (vz 0)) ∧ fx o o2 [50, 53, 54, 55, 56, 57] G G2 ∧ cc o2 G2 a 50 (ab_ob 3 [sp0, vR wk, vR onw, vR tkn, vR se_, vR cle, vR stk, vz dp2, vz fo, vz chn, vR q, s0, vz hw, vz fy, vj st2]) ∧ cc o2 G2 se_ 55 (za 808 SE2) ∧ cc o2 G2 stk 57 (za 809 SK2) ∧ cc o2 G2 cle 56 (za 808 (zu CL b0 1)) ∧ csI o2 G2 tkn 53 54 n2 c2 P2 ∧ (rgs SE2 808 (-1) 808) ∧ (osame SE SE2 b0) ∧ (n2 ≤ 104000) ∧ (stp ≤ st2 ∧ st2 ≤ stp + 1616) ∧ (64 * G2.length + nt ≤ 64 * G.length + n2) ∧ (ab_slots G2 + 2 * nt ≤ ab_slots G + 2 * n2)) ∨ (∃ o2 : Nat → Nat, ∃ dp2 : Int, ∃ st2 : Int, ∃ SK2 : Int → Int, ∃ SE2 : Int → Int, ∃ n2 : Nat, ∃ c2 : Int, ∃ P2 : Int → Prop, oc = .returned (some (vz 1)) ∧ fx o o2 [50, 53, 54, 55, 56, 57] G G2 ∧ cc o2 G2 a 50 (ab_ob 3 [sp0, vR wk, vR onw, vR tkn, vR se_, vR cle, vR stk, vz dp2, vz fo, vz chn, vR q, s0, vz hw, vz fy, vj st2]) ∧ cc o2 G2 se_ 55 (za 808 SE2) ∧ cc o2 G2 stk 57 (za 809 SK2) ∧ cc o2 G2 cle 56 (za 808 (zu CL b0 1)) ∧ csI o2 G2 tkn 53 54 n2 c2 P2 ∧ (rgs SE2 808 (-1) 808) ∧ (osame SE SE2 b0) ∧ (n2 ≤ 104000) ∧ (stp ≤ st2 ∧ st2 ≤ stp + 1616) ∧ (64 * G2.length + nt ≤ 64 * G.length + n2) ∧ (ab_slots G2 + 2 * nt ≤ ab_slots G + 2 * n2) ∧ (oclear K N O cnt b0) ∧ (cleF K N O RR b0))) := ⟨_, rfl⟩
  rw [← hQ]
  change ab_W X (ab_pl y_OM_isClearFrom b_OM_isClearFrom 8 (some (.boolean))) d G 0 [some (vR a), some (vz b0), none, none, none, none, none, none] [] Q
  have hfr : fx o o [50, 53, 54, 55, 56, 57] G G := fx.rf
  refine ab_aload_n d_OM_isClearFrom_0 rfl ?_
  refine ab_getf (fs := [sp0, vR wk, vR onw, vR tkn, vR se_, vR cle, vR stk, vz dp, vz fo, vz chn, vR q, s0, vz hw, vz fy, vj stp]) f_OM_31 d_OM_isClearFrom_1 ha.2.2 rfl ?_
  refine ab_iload_n d_OM_isClearFrom_4 rfl ?_
  refine zz_iconst d_OM_isClearFrom_5 ?_
  refine zz_iast d_OM_isClearFrom_6 hcle (by omega) (hcle.2.1 (by decide)) ?_
  obtain ⟨G1, eG1⟩ : ∃ z : ab_G, z = List.set G cle (za 808 (zu CL b0 1)) := ⟨_, rfl⟩
  have ha := ha.keep hcle eG1 (by decide)
  have hse_ := hse_.keep hcle eG1 (by decide)
  have hstk := hstk.keep hcle eG1 (by decide)
  have hq := hq.keep hcle eG1 (by omega)
  have hki := hki.keep hcle eG1 (by omega)
  have hne := hne.keep hcle eG1 (by omega)
  have hot := hot.keep hcle eG1 (by omega)
  have hra := hra.keep hcle eG1 (by omega)
  have hst := (fx.rf (o := o) (S := [56]) (G := G)).wr hcle eG1 (List.mem_singleton.mpr rfl)
  have pcsI_tkn := csI.fr hst pcsI_tkn (by decide) (by decide)
  have hq2 := z_len eG1
  have hq3 := z_sl hcle eG1 rfl
  have hfr := hfr.wr hcle eG1 (by decide)
  have hcle := hcle.kept eG1
  change ab_W _ _ _ (List.set G cle (za 808 (zu CL b0 1))) 7 [some (vR a), some (vz b0), none, none, none, none, none, none] [] _
  rw [← eG1]
  refine ab_aload_n d_OM_isClearFrom_7 rfl ?_
  refine ab_getf (fs := [sp0, vR wk, vR onw, vR tkn, vR se_, vR cle, vR stk, vz dp, vz fo, vz chn, vR q, s0, vz hw, vz fy, vj stp]) f_OM_24 d_OM_isClearFrom_8 ha.2.2 rfl ?_
  obtain ⟨fsR, hR⟩ := pcsI_tkn.recv
  refine ab_callV (d' := d - 1) (as := []) (st := []) (r := _) (c_CS_clear (o := o) (r := tkn) (lr := 53) (lb := 54) (n := nt) (cnt := ct) (P := P) pcsI_tkn) (fun oc G2 h => by rcases h with ⟨h, _⟩ <;> exact ⟨_, h⟩) (by omega) m_CS_clear ml_OM_73 im_CS_clear se_CS_clear c_CS hR (Nat.le_of_ble_eq_true rfl) d_OM_isClearFrom_11 rfl ?_
  intro v G4 hq
  rcases hq with ⟨hv, hfk, hlk, hsk, pNcsI_tkn⟩
  cases hv
  have ha := hfk.get ha (by decide)
  have hse_ := hfk.get hse_ (by decide)
  have hstk := hfk.get hstk (by decide)
  have hq := hfk.get hq (by simp only [List.mem_cons, List.not_mem_nil, or_false]; omega)
  have hki := hfk.get hki (by simp only [List.mem_cons, List.not_mem_nil, or_false]; omega)
  have hne := hfk.get hne (by simp only [List.mem_cons, List.not_mem_nil, or_false]; omega)
  have hot := hfk.get hot (by simp only [List.mem_cons, List.not_mem_nil, or_false]; omega)
  have hra := hfk.get hra (by simp only [List.mem_cons, List.not_mem_nil, or_false]; omega)
  have hcle := hfk.get hcle (by decide)
  have pcsI_tkn := pNcsI_tkn
  have hfr := hfr.tr hfk (by decide)
  have hq5 := hlk
  have hq6 := hsk
  change ab_W _ _ _ G4 14 [some (vR a), some (vz b0), none, none, none, none, none, none] [] _
  refine zz_iconst d_OM_isClearFrom_14 ?_
  refine ab_istore_n d_OM_isClearFrom_15 (Nat.le_of_ble_eq_true rfl) (Nat.le_of_ble_eq_true rfl) rfl ?_
  change ab_W _ _ _ G4 16 [some (vR a), some (vz b0), some (vz 0), none, none, none, none, none] [] _
  refine ab_aload_n d_OM_isClearFrom_16 rfl ?_
  refine ab_getf (fs := [sp0, vR wk, vR onw, vR tkn, vR se_, vR cle, vR stk, vz dp, vz fo, vz chn, vR q, s0, vz hw, vz fy, vj stp]) f_OM_34 d_OM_isClearFrom_17 ha.2.2 rfl ?_
  refine zz_iconst d_OM_isClearFrom_20 ?_
  refine ab_iload_n d_OM_isClearFrom_21 rfl ?_
  refine zz_iast d_OM_isClearFrom_22 hstk (by omega) (hstk.2.1 (by decide)) ?_
  obtain ⟨G7, eG7⟩ : ∃ z : ab_G, z = List.set G4 stk (za 809 (zu SK 0 b0)) := ⟨_, rfl⟩
  have ha := ha.keep hstk eG7 (by decide)
  have hse_ := hse_.keep hstk eG7 (by decide)
  have hq := hq.keep hstk eG7 (by omega)
  have hki := hki.keep hstk eG7 (by omega)
  have hne := hne.keep hstk eG7 (by omega)
  have hot := hot.keep hstk eG7 (by omega)
  have hra := hra.keep hstk eG7 (by omega)
  have hcle := hcle.keep hstk eG7 (by decide)
  have hst := (fx.rf (o := o) (S := [57]) (G := G4)).wr hstk eG7 (List.mem_singleton.mpr rfl)
  have pcsI_tkn := csI.fr hst pcsI_tkn (by decide) (by decide)
  have hq8 := z_len eG7
  have hq9 := z_sl hstk eG7 rfl
  have hfr := hfr.wr hstk eG7 (by decide)
  have hstk := hstk.kept eG7
  change ab_W _ _ _ (List.set G4 stk (za 809 (zu SK 0 b0))) 23 [some (vR a), some (vz b0), some (vz 0), none, none, none, none, none] [] _
  rw [← eG7]
  refine ab_aload_n d_OM_isClearFrom_23 rfl ?_
  refine zz_iconst d_OM_isClearFrom_24 ?_
  refine ab_putf (fs := [sp0, vR wk, vR onw, vR tkn, vR se_, vR cle, vR stk, vz dp, vz fo, vz chn, vR q, s0, vz hw, vz fy, vj stp]) f_OM_76 (Or.inl rfl) d_OM_isClearFrom_25 ha.2.2 (Nat.le_of_ble_eq_true rfl) (fun _ => ⟨rfl, rfl⟩) (ha.2.1 (by decide)) ?_
  obtain ⟨G10, eG10⟩ : ∃ z : ab_G, z = List.set G7 a (ab_ob 3 [sp0, vR wk, vR onw, vR tkn, vR se_, vR cle, vR stk, vz 1, vz fo, vz chn, vR q, s0, vz hw, vz fy, vj stp]) := ⟨_, rfl⟩
  have hse_ := hse_.keep ha eG10 (by decide)
  have hstk := hstk.keep ha eG10 (by decide)
  have hq := hq.keep ha eG10 (by omega)
  have hki := hki.keep ha eG10 (by omega)
  have hne := hne.keep ha eG10 (by omega)
  have hot := hot.keep ha eG10 (by omega)
  have hra := hra.keep ha eG10 (by omega)
  have hcle := hcle.keep ha eG10 (by decide)
  have hst := (fx.rf (o := o) (S := [50]) (G := G7)).wr ha eG10 (List.mem_singleton.mpr rfl)
  have pcsI_tkn := csI.fr hst pcsI_tkn (by decide) (by decide)
  have hq11 := z_len eG10
  have hq12 := z_sl ha eG10 rfl
  have hfr := hfr.wr ha eG10 (by decide)
  have ha := ha.kept eG10
  change ab_W _ _ _ (List.set G7 a (ab_ob 3 [sp0, vR wk, vR onw, vR tkn, vR se_, vR cle, vR stk, vz 1, vz fo, vz chn, vR q, s0, vz hw, vz fy, vj stp])) 28 [some (vR a), some (vz b0), some (vz 0), none, none, none, none, none] [] _
  rw [← eG10]
  refine zz_iconst d_OM_isClearFrom_28 ?_
  refine ab_istore_n d_OM_isClearFrom_29 (Nat.le_of_ble_eq_true rfl) (Nat.le_of_ble_eq_true rfl) rfl ?_
  change ab_W _ _ _ G10 30 [some (vR a), some (vz b0), some (vz 0), some (vz 0), none, none, none, none] [] _
  refine y_OM_isClearFrom_30 (a := a) (wk := wk) (onw := onw) (tkn := tkn) (se_ := se_) (cle := cle) (stk := stk) (fo := fo) (chn := chn) (hw := hw) (fy := fy) (q := q) (lq := lq) (ki := ki) (ne := ne) (ot := ot) (cnt := cnt) (fi := fi) (la := la) (ra := ra) (ru := ru) (gr := gr) (wi := wi) (sz := sz) (fl := fl) (ve := ve) (mi := mi) (na := na) (nl := nl) (K := K) (N := N) (O := O) (RR := RR) (nr := nr) (sp0 := sp0) (s0 := s0) (CL := (zu CL b0 1)) (b0 := b0) (SE0 := SE) (n0 := nt) (st0 := stp) (dp := 1) (stp := stp) (SK := (zu SK 0 b0)) (SE := SE) (any_ := 0) (tu := 0) (nt := nt) (ct := 0) (P := (fun _ => False)) (by omega) hp hpu hr (by omega) (by omega) (by omega) (by omega) (by omega) (by omega) (Int.toNat (1616 - 0) + 1) ha hse_ hstk hq hki hne hot hra hcle pcsI_tkn (by omega) jsr osame_0 (oI_0 (by omega) jse) (by omega) (by omega) (by omega) olfe_0 (ici_0 (by omega) jse (by decide)) (by omega) hfr (by omega) (fun G13 o14 dp215 st216 SK217 SE218 n219 c220 P221 ha hse_ hstk hcle pcsI_tkn hq22 hq23 hq24 hq25 hq26 hq27 hfr => ?_) (fun G28 o29 dp230 st231 SK232 SE233 n234 c235 P236 ha hse_ hstk hcle pcsI_tkn hq37 hq38 hq39 hq40 hq41 hq42 hq43 hq44 hfr => ?_)
  · rw [hQ]; exact (Or.inl ⟨_, _, _, _, _, _, _, _, rfl, hfr, ha, hse_, hstk, hcle, pcsI_tkn, (by first | exact hq22 | exact rgs_w hq22 (by omega)), (by exact hq23), (by omega), (by omega), (by omega), (by omega)⟩)
  · rw [hQ]; exact (Or.inr ⟨_, _, _, _, _, _, _, _, rfl, hfr, ha, hse_, hstk, hcle, pcsI_tkn, (by first | exact hq37 | exact rgs_w hq37 (by omega)), (by exact hq38), (by omega), (by omega), (by omega), (by omega), (by exact hq43), (by exact hq44)⟩)
