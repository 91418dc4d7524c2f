set_option maxRecDepth 100000 in
set_option maxHeartbeats 4000000 in
theorem y_OM_find_83 {X : ab_X} {d : Nat} {Q : Outcome → ab_G → Prop} {o : Nat → Nat} {G0 : ab_G} {a : Nat} {sp : Nat} {wk : Nat} {onw : Nat} {tkn : Nat} {se_ : Nat} {cle : Nat} {stk : Nat} {hw : Int} {fy : Int} {q : Nat} {lq : Nat} {ki : Nat} {ne : Nat} {ot : Nat} {cnt : Int} {fi : Int} {la : Int} {ra : Nat} {ru : Int} {gr : Int} {wi : Int} {sz : Int} {fl : Int} {ve : Int} {mi : Int} {na : Nat} {nl : Nat} {K : Int → Int} {N : Int → Int} {O : Int → Int} {RR : Int → Int} {nr : Nat} {s : Nat} {by_ : Nat} {co : Nat} {re : Nat} {ho : Nat} {n : Int} {f : Int → Int} {C : Int → Int} {Rs : Int → Int} {H : Int → Int} {m : Nat} {mc : Nat} {st : Int} {S9 : Option (Int × Gr)} {st0 : Int} (cq : 100 ≤ lq ∧ 0 ≤ cnt ∧ cnt ≤ 808 ∧ ↑nr ≤ (100000 : Int)) (hp : prok K N O RR cnt ↑nr wi) (hr : ∀ k : Int, 0 ≤ k → k < ↑nr → 0 ≤ RR k ∧ RR k ≤ 1114111) (cwi : 2 ≤ wi ∧ wi ≤ 20) (csu : 0 ≤ n ∧ n ≤ ↑m ∧ 32 ≤ m ∧ m ≤ 2000 ∧ mc = m + 1) (hsu : suok f C Rs H n) (chw : 0 ≤ hw ∧ hw ≤ 2 ∧ 0 ≤ fy ∧ fy ≤ 1) (cfi : 0 ≤ fi ∧ fi < cnt) (hpo : pone K N O cnt fi) (hoc : omC K N O RR cnt fi) (hk1 : ∀ z : Int, 2 ≤ z → z < cnt → ¬ K z = 8) (ck9 : K 0 = 9) (hd : 5 ≤ d) : ∀ (mz : Nat) {G : ab_G} {dp : Int} {fo : Int} {chn : Int} {stp : Int} {SP : Int → Int} {WK : Int → Int} {ON : Int → Int} {SK : Int → Int} {tu : Int} {p : Int} {x_ : Int}, (cc o G a 50 (ab_ob 3 [vR sp, vR wk, vR onw, vR tkn, vR se_, vR cle, vR stk, vz dp, vz fo, vz chn, vR q, vR s, vz hw, vz fy, vj stp])) → (cc o G sp 31 (za 20 SP)) → (cc o G wk 51 (za 20 WK)) → (cc o G onw 52 (za 20 ON)) → (cc o G stk 57 (za 809 SK)) → (cc o G q lq (ab_ob 5 [vR ki, vR ne, vR ot, vz cnt, vz fi, vz la, vR ra, vz ru, vz gr, vz wi, vz sz, vz fl, vz ve, vz mi, vR na, vR nl])) → (cc o G ki (lq + 1) (za 808 K)) → (cc o G ne (lq + 2) (za 808 N)) → (cc o G ot (lq + 3) (za 808 O)) → (cc o G ra (lq + 4) (za nr RR)) → (cc o G s 26 (ab_ob 9 [vR by_, vR co, vR re, vR ho, vz n])) → (cc o G co 28 (za mc C)) → (cc o G re 29 (za mc Rs)) → (cc o G ho 30 (za mc H)) → (0 ≤ tu ∧ tu ≤ n + 1 ∧ 0 ≤ p ∧ p ≤ n ∧ -1 ≤ x_ ∧ x_ < cnt) → (obegs K N cnt fi x_) → (rgs WK wi (-1) n) → (0 ≤ WK 0) → (rgs SP 20 (-1) 2000) → (spo fo SP wi n) → (0 ≤ fo ∧ fo ≤ 1) → (omF K N O RR f n fy hw wi st x_ p WK fo SP S9) → (tpO x_ tu p) → (st0 ≤ stp ∧ stp ≤ st0 + 1616 * tu) → (fx o o [31, 50, 51, 52, 57] G0 G) → (G.length = G0.length) → (ab_slots G = ab_slots G0) → (Int.toNat (n + 1 - tu) < mz) → (∀ (G2 : ab_G) (dp2 : Int) (fo2 : Int) (ch2 : Int) (st2 : Int) (SP2 : Int → Int) (WK2 : Int → Int) (ON2 : Int → Int) (SK2 : Int → Int), (cc o G2 a 50 (ab_ob 3 [vR sp, vR wk, vR onw, vR tkn, vR se_, vR cle, vR stk, vz dp2, vz fo2, vz ch2, vR q, vR s, vz hw, vz fy, vj st2])) → (cc o G2 sp 31 (za 20 SP2)) → (cc o G2 wk 51 (za 20 WK2)) → (cc o G2 onw 52 (za 20 ON2)) → (cc o G2 stk 57 (za 809 SK2)) → (0 ≤ fo2 ∧ fo2 ≤ 1) → (rgs SP2 20 (-1) 2000) → (spo fo2 SP2 wi n) → (mch S9 fo2 SP2 wi st) → (st0 ≤ st2 ∧ st2 ≤ st0 + 1616 * (n + 1)) → (fx o o [31, 50, 51, 52, 57] G0 G2) → (G2.length = G0.length) → (ab_slots G2 = ab_slots G0) → ab_W X (ab_pl y_OM_find b_OM_find 9 (some (.int))) d G2 172 [some (vR a), none, none, none, none, some (vR sp), none, none, none] [] Q) → ab_W X (ab_pl y_OM_find b_OM_find 9 (some (.int))) d G 83 [some (vR a), some (vR q), some (vR s), none, none, some (vR sp), some (vz x_), some (vz p), some (vz tu)] [] Q := by
  intro mz
  induction mz with
  | zero => intro G dp fo chn stp SP WK ON SK tu p x_ ha hsp hwk honw hstk hq hki hne hot hra hs hco hre hho ci obs jwk c0k jsp jspo cfo jom jtp hst9 hfr hlen hsl hm hk0; exact absurd hm (Nat.not_lt_zero _)
  | succ mz ih =>
    intro G dp fo chn stp SP WK ON SK tu p x_ ha hsp hwk honw hstk hq hki hne hot hra hs hco hre hho ci obs jwk c0k jsp jspo cfo jom jtp hst9 hfr hlen hsl hm hk0
    refine ab_iload d_OM_find_83 rfl ?_
    refine ab_aload_n d_OM_find_85 rfl ?_
    refine ab_getf (fs := [vR by_, vR co, vR re, vR ho, vz n]) f_OM_127 d_OM_find_86 hs.2.2 rfl ?_
    refine zz_icmp_gt (tgt := 172) d_OM_find_89 (by decide) (by omega) (by omega) (fun c1 => ?_) (fun c1 => ?_)
    · refine ab_less (L' := [some (vR a), none, none, none, none, some (vR sp), none, none, none]) (fun i v h => by rcases i with _ | _ | _ | _ | _ | _ | _ | _ | _ | i <;> first | exact h | (simp at h)) ?_
      exact hk0 _ _ _ _ _ _ _ _ _ ha hsp hwk honw hstk (by omega) (by exact jsp) (by exact jspo) (by exact jom.fin (by rcases jtp with h_ | h_ <;> omega)) (by omega) hfr hlen hsl
    · refine ab_iload d_OM_find_92 rfl ?_
      refine zz_iconst d_OM_find_94 ?_
      refine zz_icmp_eq (tgt := 172) d_OM_find_95 (by decide) (by omega) (by decide) (fun c2 => ?_) (fun c2 => ?_)
      · refine ab_less (L' := [some (vR a), none, none, none, none, some (vR sp), none, none, none]) (fun i v h => by rcases i with _ | _ | _ | _ | _ | _ | _ | _ | _ | i <;> first | exact h | (simp at h)) ?_
        exact hk0 _ _ _ _ _ _ _ _ _ ha hsp hwk honw hstk (by omega) (by exact jsp) (by exact jspo) (by exact jom.fin (by rcases jtp with h_ | h_ <;> omega)) (by omega) hfr hlen hsl
      · obtain ⟨ww, VV, hcl, hvb, hwb⟩ := hpo x_ (obs (by omega))
        obtain ⟨Dw, hds, hgd, hw9⟩ := hoc x_ ((obs (by omega)).imp id (fun ⟨s_, ⟨a_, b_, c_⟩, d_⟩ => ⟨s_, ⟨a_, b_⟩, c_, d_⟩))
        refine ab_aload_n d_OM_find_98 rfl ?_
        refine zz_iconst d_OM_find_99 ?_
        refine ab_putf (fs := [vR sp, vR wk, vR onw, vR tkn, vR se_, vR cle, vR stk, vz dp, vz fo, vz chn, vR q, vR s, vz hw, vz fy, vj stp]) f_OM_132 (Or.inl rfl) d_OM_find_100 ha.2.2 (Nat.le_of_ble_eq_true rfl) (fun _ => ⟨rfl, rfl⟩) (ha.2.1 (by decide)) ?_
        obtain ⟨G3, eG3⟩ : ∃ z : ab_G, z = List.set G a (ab_ob 3 [vR sp, vR wk, vR onw, vR tkn, vR se_, vR cle, vR stk, vz dp, vz fo, vz (-1), vR q, vR s, vz hw, vz fy, vj stp]) := ⟨_, rfl⟩
        have hsp := hsp.keep ha eG3 (by decide)
        have hwk := hwk.keep ha eG3 (by decide)
        have honw := honw.keep ha eG3 (by decide)
        have hstk := hstk.keep ha eG3 (by decide)
        have hq := hq.keep ha eG3 (by omega)
        have hki := hki.keep ha eG3 (by omega)
        have hne := hne.keep ha eG3 (by omega)
        have hot := hot.keep ha eG3 (by omega)
        have hra := hra.keep ha eG3 (by omega)
        have hs := hs.keep ha eG3 (by decide)
        have hco := hco.keep ha eG3 (by decide)
        have hre := hre.keep ha eG3 (by decide)
        have hho := hho.keep ha eG3 (by decide)
        have hlen := (z_len eG3).trans hlen
        have hsl := (z_sl ha eG3 rfl).trans hsl
        have hfr := hfr.wr ha eG3 (by decide)
        have ha := ha.kept eG3
        change ab_W _ _ _ (List.set G a (ab_ob 3 [vR sp, vR wk, vR onw, vR tkn, vR se_, vR cle, vR stk, vz dp, vz fo, vz (-1), vR q, vR s, vz hw, vz fy, vj stp])) 103 [some (vR a), some (vR q), some (vR s), none, none, some (vR sp), some (vz x_), some (vz p), some (vz tu)] [] _
        rw [← eG3]
        refine ab_aload_n d_OM_find_103 rfl ?_
        refine ab_iload d_OM_find_104 rfl ?_
        refine ab_iload d_OM_find_106 rfl ?_
        refine ab_callV (d' := d - 1) (as := [vz x_, vz p]) (st := []) (r := _) (z_OM_choose (o := o) (a := a) (sp := sp) (wk := wk) (onw := onw) (tkn := tkn) (se_ := se_) (cle := cle) (stk := stk) (dp := dp) (fo := fo) (chn := (-1)) (hw := hw) (fy := fy) (stp := stp) (SP := SP) (WK := WK) (ON := ON) (SK := SK) (q := q) (lq := lq) (ki := ki) (ne := ne) (ot := ot) (cnt := cnt) (fi := fi) (la := la) (ra := ra) (ru := ru) (gr := gr) (wi := wi) (sz := sz) (fl := fl) (ve := ve) (mi := mi) (na := na) (nl := nl) (K := K) (N := N) (O := O) (RR := RR) (nr := nr) (s := s) (by_ := by_) (co := co) (re := re) (ho := ho) (n := n) (C := C) (Rs := Rs) (H := H) (mc := mc) (p := p) (ww := ww) (VV := VV) (b_ := x_) (st := st) (Dw := Dw) (S9 := S9) ha hsp hwk honw hstk hq hki hne hot hra hs hco hre hho (by omega) hp hr (by omega) (by omega) hsu (by omega) (by omega) hcl hgd hk1 (by omega) hvb (by omega) jwk (by omega) jsp jspo (oon_0 (by omega)) (by omega) jom hds hw9 rfl (by omega) (by omega)) (fun oc G2 h => by rcases h with ⟨_, _, _, _, _, _, _, _, h, _⟩ <;> exact ⟨_, h⟩) (by omega) m_OM_choose ml_OM_135 im_OM_choose se_OM_choose c_OM ha.2.2 (Nat.le_of_ble_eq_true rfl) d_OM_find_108 rfl ?_
        intro v G4 hq
        rcases hq with ⟨dp25, fo26, ch27, st28, SP29, WK210, ON211, SK212, hv, hfk, hlk, hsk, hNa, hNsp, hNwk, hNonw, hNstk, hq13, hq14, hq15, hq16, hq17, hq18, hq19, hq20⟩
        cases hv
        have hq := hfk.get hq (by simp only [List.mem_cons, List.not_mem_nil, or_false]; omega)
        have hki := hfk.get hki (by simp only [List.mem_cons, List.not_mem_nil, or_false]; omega)
        have hne := hfk.get hne (by simp only [List.mem_cons, List.not_mem_nil, or_false]; omega)
        have hot := hfk.get hot (by simp only [List.mem_cons, List.not_mem_nil, or_false]; omega)
        have hra := hfk.get hra (by simp only [List.mem_cons, List.not_mem_nil, or_false]; omega)
        have hs := hfk.get hs (by decide)
        have hco := hfk.get hco (by decide)
        have hre := hfk.get hre (by decide)
        have hho := hfk.get hho (by decide)
        have hfr := hfr.tr hfk (by decide)
        have hlen := hlk.trans hlen
        have hsl := hsk.trans hsl
        have ha := hNa
        have hsp := hNsp
        have hwk := hNwk
        have honw := hNonw
        have hstk := hNstk
        change ab_W _ _ _ G4 111 [some (vR a), some (vR q), some (vR s), none, none, some (vR sp), some (vz x_), some (vz p), some (vz tu)] [] _
        refine zz_iconst d_OM_find_111 ?_
        refine ab_istore d_OM_find_112 (Nat.le_of_ble_eq_true rfl) (Nat.le_of_ble_eq_true rfl) rfl ?_
        change ab_W _ _ _ G4 114 [some (vR a), some (vR q), some (vR s), none, none, some (vR sp), some (vz (-1)), some (vz p), some (vz tu)] [] _
        have ho1 := hq17.1
        refine ab_aload_n d_OM_find_114 rfl ?_
        refine ab_getf (fs := [vR sp, vR wk, vR onw, vR tkn, vR se_, vR cle, vR stk, vz dp25, vz fo26, vz ch27, vR q, vR s, vz hw, vz fy, vj st28]) f_OM_132 d_OM_find_115 ha.2.2 rfl ?_
        refine zz_iconst d_OM_find_118 ?_
        refine zz_icmp_eq (tgt := 166) d_OM_find_119 (by decide) (by omega) (by decide) (fun c21 => ?_) (fun c21 => ?_)
        · refine zz_iinc d_OM_find_166 rfl (Nat.le_of_ble_eq_true rfl) (Nat.le_of_ble_eq_true rfl) rfl ?_
          change ab_W _ _ _ G4 169 [some (vR a), some (vR q), some (vR s), none, none, some (vR sp), some (vz (-1)), some (vz p), some (vz (tu + 1))] [] _
          refine ab_goto (tgt := 83) d_OM_find_169 (by decide) ?_
          exact ih (dp := dp25) (fo := fo26) (chn := ch27) (stp := st28) (SP := SP29) (WK := WK210) (ON := ON211) (SK := SK212) (tu := (tu + 1)) (p := p) (x_ := (-1)) ha hsp hwk honw hstk hq hki hne hot hra hs hco hre hho (by omega) (fun q => absurd rfl q) hq14 (by omega) hq15 hq16 (by omega) (choE.none hq19 (by omega)) (Or.inl rfl) (by omega) hfr hlen hsl (by omega) hk0
        · obtain ⟨ho2, ho3, ho4⟩ := hq17.2 (by omega)
          refine ab_iload d_OM_find_122 rfl ?_
          refine ab_aload_n d_OM_find_124 rfl ?_
          refine ab_aload_n d_OM_find_125 rfl ?_
          refine ab_getf (fs := [vR sp, vR wk, vR onw, vR tkn, vR se_, vR cle, vR stk, vz dp25, vz fo26, vz ch27, vR q, vR s, vz hw, vz fy, vj st28]) f_OM_132 d_OM_find_126 ha.2.2 rfl ?_
          refine ab_aload_n d_OM_find_129 rfl ?_
          refine ab_iload d_OM_find_130 rfl ?_
          refine ab_callV (d' := d - 1) (as := [vz ch27, vR s, vz p]) (st := [vz p]) (r := _) (z_PR_bytesTaken (o := o) (q := q) (lq := lq) (ki := ki) (ne := ne) (ot := ot) (cnt := cnt) (fi := fi) (la := la) (ra := ra) (ru := ru) (gr := gr) (wi := wi) (sz := sz) (fl := fl) (ve := ve) (mi := mi) (na := na) (nl := nl) (K := K) (O := O) (RR := RR) (nr := nr) (s := s) (by_ := by_) (co := co) (re := re) (ho := ho) (n := n) (C := C) (Rs := Rs) (mc := mc) (x := ch27) (p := p) hq hki hot hra hs hco hre (by omega) (by omega) hp hr (by omega) hsu (by omega)) (fun oc G2 h => by rcases h with ⟨_, h, _⟩ <;> exact ⟨_, h⟩) (by omega) m_PR_bytesTaken ml_OM_138 im_PR_bytesTaken se_PR_bytesTaken c_PR hq.2.2 (Nat.le_of_ble_eq_true rfl) d_OM_find_132 rfl ?_
          intro v G22 hq
          rcases hq with ⟨v23, hv, hfk, hlk, hsk, hq24, hq25⟩
          cases hv
          have ha := hfk.get ha (by decide)
          have hsp := hfk.get hsp (by decide)
          have hwk := hfk.get hwk (by decide)
          have honw := hfk.get honw (by decide)
          have hstk := hfk.get hstk (by decide)
          have hq := hfk.get hq (by simp)
          have hki := hfk.get hki (by simp)
          have hne := hfk.get hne (by simp)
          have hot := hfk.get hot (by simp)
          have hra := hfk.get hra (by simp)
          have hs := hfk.get hs (by decide)
          have hco := hfk.get hco (by decide)
          have hre := hfk.get hre (by decide)
          have hho := hfk.get hho (by decide)
          have hfr := hfr.tr hfk (by decide)
          have hlen := hlk.trans hlen
          have hsl := hsk.trans hsl
          change ab_W _ _ _ G22 135 [some (vR a), some (vR q), some (vR s), none, none, some (vR sp), some (vz (-1)), some (vz p), some (vz tu)] [vz v23, vz p] _
          refine zz_iadd d_OM_find_135 ?_
          refine ab_istore d_OM_find_136 (Nat.le_of_ble_eq_true rfl) (Nat.le_of_ble_eq_true rfl) rfl ?_
          change ab_W _ _ _ G22 138 [some (vR a), some (vR q), some (vR s), none, none, some (vR sp), some (vz (-1)), some (vz (p + v23)), some (vz tu)] [] _
          refine ab_aload_n d_OM_find_138 rfl ?_
          refine ab_getf (fs := [vR ki, vR ne, vR ot, vz cnt, vz fi, vz la, vR ra, vz ru, vz gr, vz wi, vz sz, vz fl, vz ve, vz mi, vR na, vR nl]) f_OM_67 d_OM_find_139 hq.2.2 rfl ?_
          refine ab_aload_n d_OM_find_142 rfl ?_
          refine ab_getf (fs := [vR sp, vR wk, vR onw, vR tkn, vR se_, vR cle, vR stk, vz dp25, vz fo26, vz ch27, vR q, vR s, vz hw, vz fy, vj st28]) f_OM_132 d_OM_find_143 ha.2.2 rfl ?_
          refine zz_iald d_OM_find_146 hne (by omega) ?_
          have hq26 := hp.n ch27 (by omega) (by omega)
          refine ab_istore d_OM_find_147 (Nat.le_of_ble_eq_true rfl) (Nat.le_of_ble_eq_true rfl) rfl ?_
          change ab_W _ _ _ G22 149 [some (vR a), some (vR q), some (vR s), none, none, some (vR sp), some (vz (N ch27)), some (vz (p + v23)), some (vz tu)] [] _
          refine ab_aload_n d_OM_find_149 rfl ?_
          refine ab_getf (fs := [vR sp, vR wk, vR onw, vR tkn, vR se_, vR cle, vR stk, vz dp25, vz fo26, vz ch27, vR q, vR s, vz hw, vz fy, vj st28]) f_OM_18 d_OM_find_150 ha.2.2 rfl ?_
          refine zz_iconst d_OM_find_153 ?_
          refine ab_aload_n d_OM_find_154 rfl ?_
          refine ab_getf (fs := [vR sp, vR wk, vR onw, vR tkn, vR se_, vR cle, vR stk, vz dp25, vz fo26, vz ch27, vR q, vR s, vz hw, vz fy, vj st28]) f_OM_15 d_OM_find_155 ha.2.2 rfl ?_
          refine zz_iconst d_OM_find_158 ?_
          refine ab_aload_n d_OM_find_159 rfl ?_
          refine ab_getf (fs := [vR ki, vR ne, vR ot, vz cnt, vz fi, vz la, vR ra, vz ru, vz gr, vz wi, vz sz, vz fl, vz ve, vz mi, vR na, vR nl]) f_OM_121 d_OM_find_160 hq.2.2 rfl ?_
          refine zz_copy mj_OM_142 d_OM_find_163 honw hwk (hwk.2.1 (by decide)) (by omega) (Nat.le_of_ble_eq_true rfl) (by omega) ?_
          obtain ⟨G27, eG27⟩ : ∃ z : ab_G, z = List.set G22 wk (za 20 (zcpy ON211 WK210 0 0 wi)) := ⟨_, rfl⟩
          have ha := ha.keep hwk eG27 (by decide)
          have hsp := hsp.keep hwk eG27 (by decide)
          have honw := honw.keep hwk eG27 (by decide)
          have hstk := hstk.keep hwk eG27 (by decide)
          have hq := hq.keep hwk eG27 (by omega)
          have hki := hki.keep hwk eG27 (by omega)
          have hne := hne.keep hwk eG27 (by omega)
          have hot := hot.keep hwk eG27 (by omega)
          have hra := hra.keep hwk eG27 (by omega)
          have hs := hs.keep hwk eG27 (by decide)
          have hco := hco.keep hwk eG27 (by decide)
          have hre := hre.keep hwk eG27 (by decide)
          have hho := hho.keep hwk eG27 (by decide)
          have hlen := (z_len eG27).trans hlen
          have hsl := (z_sl hwk eG27 rfl).trans hsl
          have hfr := hfr.wr hwk eG27 (by decide)
          have hwk := hwk.kept eG27
          change ab_W _ _ _ (List.set G22 wk (za 20 (zcpy ON211 WK210 0 0 wi))) 166 [some (vR a), some (vR q), some (vR s), none, none, some (vR sp), some (vz (N ch27)), some (vz (p + v23)), some (vz tu)] [] _
          rw [← eG27]
          refine zz_iinc d_OM_find_166 rfl (Nat.le_of_ble_eq_true rfl) (Nat.le_of_ble_eq_true rfl) rfl ?_
          change ab_W _ _ _ G27 169 [some (vR a), some (vR q), some (vR s), none, none, some (vR sp), some (vz (N ch27)), some (vz (p + v23)), some (vz (tu + 1))] [] _
          refine ab_goto (tgt := 83) d_OM_find_169 (by decide) ?_
          exact ih (dp := dp25) (fo := fo26) (chn := ch27) (stp := st28) (SP := SP29) (WK := (zcpy ON211 WK210 0 0 wi)) (ON := ON211) (SK := SK212) (tu := (tu + 1)) (p := (p + v23)) (x_ := (N ch27)) ha hsp hwk honw hstk hq hki hne hot hra hs hco hre hho (by omega) (fun _ => Or.inr ⟨ch27, by omega, rfl⟩) (rgs_cpy ho3 hq14 (by omega)) (by rw [zcpy_in (by omega)]; exact ho4) hq15 hq16 (by omega) (choE.take hq19 (by omega) hq24 hsu (by omega) (by omega) (by omega)).1 (Or.inr (by have t_ := (choE.take (WK := WK) hq19 (by omega) hq24 hsu (by omega) (by omega) (by omega)).2; have u_ := jtp.resolve_left (by omega); omega)) (by omega) hfr hlen hsl (by omega) hk0
set_option maxRecDepth 100000 in
set_option maxHeartbeats 4000000 in
theorem z_OM_find {X : ab_X} {d : Nat} {o : Nat → Nat} {G : ab_G} {a : Nat} {sp : Nat} {wk : Nat} {onw : Nat} {tkn : Nat} {se_ : Nat} {cle : Nat} {stk : Nat} {dp : Int} {chn : Int} {hw : Int} {stp : Int} {SP : Int → Int} {WK : Int → Int} {ON : Int → Int} {SK : Int → Int} {q : Nat} {lq : Nat} {ki : Nat} {ne : Nat} {ot : Nat} {cnt : Int} {fi : Int} {la : Int} {ra : Nat} {ru : Int} {gr : Int} {wi : Int} {sz : Int} {fl : Int} {ve : Int} {mi : Int} {na : Nat} {nl : Nat} {K : Int → Int} {N : Int → Int} {O : Int → Int} {RR : Int → Int} {nr : Nat} {s : Nat} {by_ : Nat} {co : Nat} {re : Nat} {ho : Nat} {n : Int} {f : Int → Int} {C : Int → Int} {Rs : Int → Int} {H : Int → Int} {m : Nat} {mc : Nat} {p : Int} {sp0 : Value} {q0 : Value} {s0 : Value} {hw0 : Int} {fy0 : Int} {fo0 : Int} {u9 : Sn} (ha : cc o G a 50 (ab_ob 3 [sp0, vR wk, vR onw, vR tkn, vR se_, vR cle, vR stk, vz dp, vz fo0, vz chn, q0, s0, vz hw0, vz fy0, vj stp])) (hsp : cc o G sp 31 (za 20 SP)) (hwk : cc o G wk 51 (za 20 WK)) (honw : cc o G onw 52 (za 20 ON)) (hstk : cc o G stk 57 (za 809 SK)) (hq : cc o G q lq (ab_ob 5 [vR ki, vR ne, vR ot, vz cnt, vz fi, vz la, vR ra, vz ru, vz gr, vz wi, vz sz, vz fl, vz ve, vz mi, vR na, vR nl])) (hki : cc o G ki (lq + 1) (za 808 K)) (hne : cc o G ne (lq + 2) (za 808 N)) (hot : cc o G ot (lq + 3) (za 808 O)) (hra : cc o G ra (lq + 4) (za nr RR)) (hs : cc o G s 26 (ab_ob 9 [vR by_, vR co, vR re, vR ho, vz n])) (hco : cc o G co 28 (za mc C)) (hre : cc o G re 29 (za mc Rs)) (hho : cc o G ho 30 (za mc H)) (cq : 100 ≤ lq ∧ 0 ≤ cnt ∧ cnt ≤ 808 ∧ ↑nr ≤ (100000 : Int)) (hp : prok K N O RR cnt ↑nr wi) (hr : ∀ k : Int, 0 ≤ k → k < ↑nr → 0 ≤ RR k ∧ RR k ≤ 1114111) (cwi : 2 ≤ wi ∧ wi ≤ 20) (csu : 0 ≤ n ∧ n ≤ ↑m ∧ 32 ≤ m ∧ m ≤ 2000 ∧ mc = m + 1) (hsu : suok f C Rs H n) (cfi : 0 ≤ fi ∧ fi < cnt) (hpo : pone K N O cnt fi) (cp : 0 ≤ p ∧ p ≤ n) (chw : 0 ≤ hw ∧ hw ≤ 2 ∧ 0 ≤ fl ∧ fl ≤ 31) (jsp : rgs SP 20 (-1) 2000) (hoc : omC K N O RR cnt fi) (hk1 : ∀ z : Int, 2 ≤ z → z < cnt → ¬ K z = 8) (ck9 : K 0 = 9) (hpm : prM K N O RR fi u9) (hwn_ : ¬ hw = 0) (hd : 6 ≤ d) : ab_F X d y_OM_find (.code y_OM_find b_OM_find 9 (some (.int))) [vR a, vR q, vR s, vz hw, vz p, vR sp] G (fun oc G2 => (∃ dp2 : Int, ∃ fo2 : Int, ∃ ch2 : Int, ∃ fy2 : Int, ∃ st2 : Int, ∃ SP2 : Int → Int, ∃ WK2 : Int → Int, ∃ ON2 : Int → Int, ∃ SK2 : Int → Int, oc = .returned (some (vz (-1))) ∧ fx o o [31, 50, 51, 52, 57] G G2 ∧ G2.length = G.length ∧ ab_slots G2 = ab_slots G ∧ cc o G2 a 50 (ab_ob 3 [vR sp, vR wk, vR onw, vR tkn, vR se_, vR cle, vR stk, vz dp2, vz fo2, vz ch2, vR q, vR s, vz hw, vz fy2, vj st2]) ∧ cc o G2 sp 31 (za 20 SP2) ∧ cc o G2 wk 51 (za 20 WK2) ∧ cc o G2 onw 52 (za 20 ON2) ∧ cc o G2 stk 57 (za 809 SK2) ∧ (rgs SP2 20 (-1) 2000) ∧ (fst1 hw fl fy2) ∧ (fdC u9 f n fy2 hw p wi fo2 SP2) ∧ (stp ≤ st2 ∧ st2 ≤ stp + 1616 * (n + 1)) ∧ (fo2 = 0)) ∨ (∃ dp2 : Int, ∃ fo2 : Int, ∃ ch2 : Int, ∃ fy2 : Int, ∃ st2 : Int, ∃ SP2 : Int → Int, ∃ WK2 : Int → Int, ∃ ON2 : Int → Int, ∃ SK2 : Int → Int, ∃ r : Int, oc = .returned (some (vz r)) ∧ fx o o [31, 50, 51, 52, 57] G G2 ∧ G2.length = G.length ∧ ab_slots G2 = ab_slots G ∧ cc o G2 a 50 (ab_ob 3 [vR sp, vR wk, vR onw, vR tkn, vR se_, vR cle, vR stk, vz dp2, vz fo2, vz ch2, vR q, vR s, vz hw, vz fy2, vj st2]) ∧ cc o G2 sp 31 (za 20 SP2) ∧ cc o G2 wk 51 (za 20 WK2) ∧ cc o G2 onw 52 (za 20 ON2) ∧ cc o G2 stk 57 (za 809 SK2) ∧ (rgs SP2 20 (-1) 2000) ∧ (fst1 hw fl fy2) ∧ (fdC u9 f n fy2 hw p wi fo2 SP2) ∧ (stp ≤ st2 ∧ st2 ≤ stp + 1616 * (n + 1)) ∧ (fo2 = 1) ∧ (0 ≤ r ∧ r ≤ n) ∧ (r = SP2 1) ∧ (rgs SP2 wi (-1) n) ∧ (0 ≤ SP2 0))) := by
  refine ab_F_of (by decide +kernel) (Nat.le_of_ble_eq_true rfl) ?_
  obtain ⟨Q, hQ⟩ : ∃ z : Outcome → ab_G → Prop, z = (fun oc G2 => (∃ dp2 : Int, ∃ fo2 : Int, ∃ ch2 : Int, ∃ fy2 : Int, ∃ st2 : Int, ∃ SP2 : Int → Int, ∃ WK2 : Int → Int, ∃ ON2 : Int → Int, ∃ SK2 : Int → Int, oc = .returned (some (vz (-1))) ∧ fx o o [31, 50, 51, 52, 57] G G2 ∧ G2.length = G.length ∧ ab_slots G2 = ab_slots G ∧ cc o G2 a 50 (ab_ob 3 [vR sp, vR wk, vR onw, vR tkn, vR se_, vR cle, vR stk, vz dp2, vz fo2, vz ch2, vR q, vR s, vz hw, vz fy2, vj st2]) ∧ cc o G2 sp 31 (za 20 SP2) ∧ cc o G2 wk 51 (za 20 WK2) ∧ cc o G2 onw 52 (za 20 ON2) ∧ cc o G2 stk 57 (za 809 SK2) ∧ (rgs SP2 20 (-1) 2000) ∧ (fst1 hw fl fy2) ∧ (fdC u9 f n fy2 hw p wi fo2 SP2) ∧ (stp ≤ st2 ∧ st2 ≤ stp + 1616 * (n + 1)) ∧ (fo2 = 0)) ∨ (∃ dp2 : Int, ∃ fo2 : Int, ∃ ch2 : Int, ∃ fy2 : Int, ∃ st2 : Int, ∃ SP2 : Int → Int, ∃ WK2 : Int → Int, ∃ ON2 : Int → Int, ∃ SK2 : Int → Int, ∃ r : Int, oc = .returned (some (vz r)) ∧ fx o o [31, 50, 51, 52, 57] G G2 ∧ G2.length = G.length ∧ ab_slots G2 = ab_slots G ∧ cc o G2 a 50 (ab_ob 3 [vR sp, vR wk, vR onw, vR tkn, vR se_, vR cle, vR stk, vz dp2, vz fo2, vz ch2, vR q, vR s, vz hw, vz fy2, vj st2]) ∧ cc o G2 sp 31 (za 20 SP2) ∧ cc o G2 wk 51 (za 20 WK2) ∧ cc o G2 onw 52 (za 20 ON2) ∧ cc o G2 stk 57 (za 809 SK2) ∧ (rgs SP2 20 (-1) 2000) ∧ (fst1 hw fl fy2) ∧ (fdC u9 f n fy2 hw p wi fo2 SP2) ∧ (stp ≤ st2 ∧ st2 ≤ stp + 1616 * (n + 1)) ∧ (fo2 = 1) ∧ (0 ≤ r ∧ r ≤ n) ∧ (r = SP2 1) ∧ (rgs SP2 wi (-1) n) ∧ (0 ≤ SP2 0))) := ⟨_, rfl⟩
  rw [← hQ]
  change ab_W X (ab_pl y_OM_find b_OM_find 9 (some (.int))) d G 0 [some (vR a), some (vR q), some (vR s), some (vz hw), some (vz p), some (vR sp), none, none, none] [] Q
  have hfr : fx o o [31, 50, 51, 52, 57] G G := fx.rf
  have hlen : G.length = G.length := rfl
  have hsl : ab_slots G = ab_slots G := rfl
  refine ab_aload_n d_OM_find_0 rfl ?_
  refine ab_aload_n d_OM_find_1 rfl ?_
  refine ab_putf (fs := [sp0, vR wk, vR onw, vR tkn, vR se_, vR cle, vR stk, vz dp, vz fo0, vz chn, q0, s0, vz hw0, vz fy0, vj stp]) f_OM_47 (Or.inl rfl) d_OM_find_2 ha.2.2 (Nat.le_of_ble_eq_true rfl) (fun _ => ⟨rfl, rfl⟩) (ha.2.1 (by decide)) ?_
  obtain ⟨G1, eG1⟩ : ∃ z : ab_G, z = List.set G a (ab_ob 3 [sp0, vR wk, vR onw, vR tkn, vR se_, vR cle, vR stk, vz dp, vz fo0, vz chn, vR q, s0, vz hw0, vz fy0, vj stp]) := ⟨_, rfl⟩
  have hsp := hsp.keep ha eG1 (by decide)
  have hwk := hwk.keep ha eG1 (by decide)
  have honw := honw.keep ha eG1 (by decide)
  have hstk := hstk.keep ha eG1 (by decide)
  have hq := hq.keep ha eG1 (by omega)
  have hki := hki.keep ha eG1 (by omega)
  have hne := hne.keep ha eG1 (by omega)
  have hot := hot.keep ha eG1 (by omega)
  have hra := hra.keep ha eG1 (by omega)
  have hs := hs.keep ha eG1 (by decide)
  have hco := hco.keep ha eG1 (by decide)
  have hre := hre.keep ha eG1 (by decide)
  have hho := hho.keep ha eG1 (by decide)
  have hlen := (z_len eG1).trans hlen
  have hsl := (z_sl ha eG1 rfl).trans hsl
  have hfr := hfr.wr ha eG1 (by decide)
  have ha := ha.kept eG1
  change ab_W _ _ _ (List.set G a (ab_ob 3 [sp0, vR wk, vR onw, vR tkn, vR se_, vR cle, vR stk, vz dp, vz fo0, vz chn, vR q, s0, vz hw0, vz fy0, vj stp])) 5 [some (vR a), some (vR q), some (vR s), some (vz hw), some (vz p), some (vR sp), none, none, none] [] _
  rw [← eG1]
  refine ab_aload_n d_OM_find_5 rfl ?_
  refine ab_aload_n d_OM_find_6 rfl ?_
  refine ab_putf (fs := [sp0, vR wk, vR onw, vR tkn, vR se_, vR cle, vR stk, vz dp, vz fo0, vz chn, vR q, s0, vz hw0, vz fy0, vj stp]) f_OM_104 (Or.inl rfl) d_OM_find_7 ha.2.2 (Nat.le_of_ble_eq_true rfl) (fun _ => ⟨rfl, rfl⟩) (ha.2.1 (by decide)) ?_
  obtain ⟨G2, eG2⟩ : ∃ z : ab_G, z = List.set G1 a (ab_ob 3 [sp0, vR wk, vR onw, vR tkn, vR se_, vR cle, vR stk, vz dp, vz fo0, vz chn, vR q, vR s, vz hw0, vz fy0, vj stp]) := ⟨_, rfl⟩
  have hsp := hsp.keep ha eG2 (by decide)
  have hwk := hwk.keep ha eG2 (by decide)
  have honw := honw.keep ha eG2 (by decide)
  have hstk := hstk.keep ha eG2 (by decide)
  have hq := hq.keep ha eG2 (by omega)
  have hki := hki.keep ha eG2 (by omega)
  have hne := hne.keep ha eG2 (by omega)
  have hot := hot.keep ha eG2 (by omega)
  have hra := hra.keep ha eG2 (by omega)
  have hs := hs.keep ha eG2 (by decide)
  have hco := hco.keep ha eG2 (by decide)
  have hre := hre.keep ha eG2 (by decide)
  have hho := hho.keep ha eG2 (by decide)
  have hlen := (z_len eG2).trans hlen
  have hsl := (z_sl ha eG2 rfl).trans hsl
  have hfr := hfr.wr ha eG2 (by decide)
  have ha := ha.kept eG2
  change ab_W _ _ _ (List.set G1 a (ab_ob 3 [sp0, vR wk, vR onw, vR tkn, vR se_, vR cle, vR stk, vz dp, vz fo0, vz chn, vR q, vR s, vz hw0, vz fy0, vj stp])) 10 [some (vR a), some (vR q), some (vR s), some (vz hw), some (vz p), some (vR sp), none, none, none] [] _
  rw [← eG2]
  refine ab_aload_n d_OM_find_10 rfl ?_
  refine ab_iload_n d_OM_find_11 rfl ?_
  refine ab_putf (fs := [sp0, vR wk, vR onw, vR tkn, vR se_, vR cle, vR stk, vz dp, vz fo0, vz chn, vR q, vR s, vz hw0, vz fy0, vj stp]) f_OM_108 (Or.inl rfl) d_OM_find_12 ha.2.2 (Nat.le_of_ble_eq_true rfl) (fun _ => ⟨rfl, rfl⟩) (ha.2.1 (by decide)) ?_
  obtain ⟨G3, eG3⟩ : ∃ z : ab_G, z = List.set G2 a (ab_ob 3 [sp0, vR wk, vR onw, vR tkn, vR se_, vR cle, vR stk, vz dp, vz fo0, vz chn, vR q, vR s, vz hw, vz fy0, vj stp]) := ⟨_, rfl⟩
  have hsp := hsp.keep ha eG3 (by decide)
  have hwk := hwk.keep ha eG3 (by decide)
  have honw := honw.keep ha eG3 (by decide)
  have hstk := hstk.keep ha eG3 (by decide)
  have hq := hq.keep ha eG3 (by omega)
  have hki := hki.keep ha eG3 (by omega)
  have hne := hne.keep ha eG3 (by omega)
  have hot := hot.keep ha eG3 (by omega)
  have hra := hra.keep ha eG3 (by omega)
  have hs := hs.keep ha eG3 (by decide)
  have hco := hco.keep ha eG3 (by decide)
  have hre := hre.keep ha eG3 (by decide)
  have hho := hho.keep ha eG3 (by decide)
  have hlen := (z_len eG3).trans hlen
  have hsl := (z_sl ha eG3 rfl).trans hsl
  have hfr := hfr.wr ha eG3 (by decide)
  have ha := ha.kept eG3
  change ab_W _ _ _ (List.set G2 a (ab_ob 3 [sp0, vR wk, vR onw, vR tkn, vR se_, vR cle, vR stk, vz dp, vz fo0, vz chn, vR q, vR s, vz hw, vz fy0, vj stp])) 15 [some (vR a), some (vR q), some (vR s), some (vz hw), some (vz p), some (vR sp), none, none, none] [] _
  rw [← eG3]
  refine ab_aload_n d_OM_find_15 rfl ?_
  refine ab_aload d_OM_find_16 rfl ?_
  refine ab_putf (fs := [sp0, vR wk, vR onw, vR tkn, vR se_, vR cle, vR stk, vz dp, vz fo0, vz chn, vR q, vR s, vz hw, vz fy0, vj stp]) f_OM_9 (Or.inl rfl) d_OM_find_18 ha.2.2 (Nat.le_of_ble_eq_true rfl) (fun _ => ⟨rfl, rfl⟩) (ha.2.1 (by decide)) ?_
  obtain ⟨G4, eG4⟩ : ∃ z : ab_G, z = List.set G3 a (ab_ob 3 [vR sp, vR wk, vR onw, vR tkn, vR se_, vR cle, vR stk, vz dp, vz fo0, vz chn, vR q, vR s, vz hw, vz fy0, vj stp]) := ⟨_, rfl⟩
  have hsp := hsp.keep ha eG4 (by decide)
  have hwk := hwk.keep ha eG4 (by decide)
  have honw := honw.keep ha eG4 (by decide)
  have hstk := hstk.keep ha eG4 (by decide)
  have hq := hq.keep ha eG4 (by omega)
  have hki := hki.keep ha eG4 (by omega)
  have hne := hne.keep ha eG4 (by omega)
  have hot := hot.keep ha eG4 (by omega)
  have hra := hra.keep ha eG4 (by omega)
  have hs := hs.keep ha eG4 (by decide)
  have hco := hco.keep ha eG4 (by decide)
  have hre := hre.keep ha eG4 (by decide)
  have hho := hho.keep ha eG4 (by decide)
  have hlen := (z_len eG4).trans hlen
  have hsl := (z_sl ha eG4 rfl).trans hsl
  have hfr := hfr.wr ha eG4 (by decide)
  have ha := ha.kept eG4
  change ab_W _ _ _ (List.set G3 a (ab_ob 3 [vR sp, vR wk, vR onw, vR tkn, vR se_, vR cle, vR stk, vz dp, vz fo0, vz chn, vR q, vR s, vz hw, vz fy0, vj stp])) 21 [some (vR a), some (vR q), some (vR s), some (vz hw), some (vz p), some (vR sp), none, none, none] [] _
  rw [← eG4]
  refine ab_aload_n d_OM_find_21 rfl ?_
  refine ab_iload_n d_OM_find_22 rfl ?_
  refine zz_iconst d_OM_find_23 ?_
  refine zz_icmp_eq (tgt := 40) d_OM_find_24 (by decide) (by omega) (by decide) (fun c5 => ?_) (fun c5 => ?_)
  · refine zz_iconst d_OM_find_40 ?_
    refine ab_putf (fs := [vR sp, vR wk, vR onw, vR tkn, vR se_, vR cle, vR stk, vz dp, vz fo0, vz chn, vR q, vR s, vz hw, vz fy0, vj stp]) f_OM_114 (Or.inl rfl) d_OM_find_41 ha.2.2 (Nat.le_of_ble_eq_true rfl) (ab_fbz (by decide)) (ha.2.1 (by decide)) ?_
    obtain ⟨G6, eG6⟩ : ∃ z : ab_G, z = List.set G4 a (ab_ob 3 [vR sp, vR wk, vR onw, vR tkn, vR se_, vR cle, vR stk, vz dp, vz fo0, vz chn, vR q, vR s, vz hw, vz 0, vj stp]) := ⟨_, rfl⟩
    have hsp := hsp.keep ha eG6 (by decide)
    have hwk := hwk.keep ha eG6 (by decide)
    have honw := honw.keep ha eG6 (by decide)
    have hstk := hstk.keep ha eG6 (by decide)
    have hq := hq.keep ha eG6 (by omega)
    have hki := hki.keep ha eG6 (by omega)
    have hne := hne.keep ha eG6 (by omega)
    have hot := hot.keep ha eG6 (by omega)
    have hra := hra.keep ha eG6 (by omega)
    have hs := hs.keep ha eG6 (by decide)
    have hco := hco.keep ha eG6 (by decide)
    have hre := hre.keep ha eG6 (by decide)
    have hho := hho.keep ha eG6 (by decide)
    have hlen := (z_len eG6).trans hlen
    have hsl := (z_sl ha eG6 rfl).trans hsl
    have hfr := hfr.wr ha eG6 (by decide)
    have ha := ha.kept eG6
    change ab_W _ _ _ (List.set G4 a (ab_ob 3 [vR sp, vR wk, vR onw, vR tkn, vR se_, vR cle, vR stk, vz dp, vz fo0, vz chn, vR q, vR s, vz hw, vz 0, vj stp])) 44 [some (vR a), some (vR q), some (vR s), some (vz hw), some (vz p), some (vR sp), none, none, none] [] _
    rw [← eG6]
    refine ab_aload_n d_OM_find_44 rfl ?_
    refine zz_iconst d_OM_find_45 ?_
    refine ab_putf (fs := [vR sp, vR wk, vR onw, vR tkn, vR se_, vR cle, vR stk, vz dp, vz fo0, vz chn, vR q, vR s, vz hw, vz 0, vj stp]) f_OM_118 (Or.inl rfl) d_OM_find_46 ha.2.2 (Nat.le_of_ble_eq_true rfl) (ab_fbz (by decide)) (ha.2.1 (by decide)) ?_
    obtain ⟨G7, eG7⟩ : ∃ z : ab_G, z = List.set G6 a (ab_ob 3 [vR sp, vR wk, vR onw, vR tkn, vR se_, vR cle, vR stk, vz dp, vz 0, vz chn, vR q, vR s, vz hw, vz 0, vj stp]) := ⟨_, rfl⟩
    have hsp := hsp.keep ha eG7 (by decide)
    have hwk := hwk.keep ha eG7 (by decide)
    have honw := honw.keep ha eG7 (by decide)
    have hstk := hstk.keep ha eG7 (by decide)
    have hq := hq.keep ha eG7 (by omega)
    have hki := hki.keep ha eG7 (by omega)
    have hne := hne.keep ha eG7 (by omega)
    have hot := hot.keep ha eG7 (by omega)
    have hra := hra.keep ha eG7 (by omega)
    have hs := hs.keep ha eG7 (by decide)
    have hco := hco.keep ha eG7 (by decide)
    have hre := hre.keep ha eG7 (by decide)
    have hho := hho.keep ha eG7 (by decide)
    have hlen := (z_len eG7).trans hlen
    have hsl := (z_sl ha eG7 rfl).trans hsl
    have hfr := hfr.wr ha eG7 (by decide)
    have ha := ha.kept eG7
    change ab_W _ _ _ (List.set G6 a (ab_ob 3 [vR sp, vR wk, vR onw, vR tkn, vR se_, vR cle, vR stk, vz dp, vz 0, vz chn, vR q, vR s, vz hw, vz 0, vj stp])) 49 [some (vR a), some (vR q), some (vR s), some (vz hw), some (vz p), some (vR sp), none, none, none] [] _
    rw [← eG7]
    refine ab_aload_n d_OM_find_49 rfl ?_
    refine ab_getf (fs := [vR sp, vR wk, vR onw, vR tkn, vR se_, vR cle, vR stk, vz dp, vz 0, vz chn, vR q, vR s, vz hw, vz 0, vj stp]) f_OM_15 d_OM_find_50 ha.2.2 rfl ?_
    refine zz_iconst d_OM_find_53 ?_
    refine ab_aload_n d_OM_find_54 rfl ?_
    refine ab_getf (fs := [vR ki, vR ne, vR ot, vz cnt, vz fi, vz la, vR ra, vz ru, vz gr, vz wi, vz sz, vz fl, vz ve, vz mi, vR na, vR nl]) f_OM_121 d_OM_find_55 hq.2.2 rfl ?_
    refine zz_iconst d_OM_find_58 ?_
    refine ab_callS (d' := d - 1) (as := [vR wk, vz 0, vz wi, vz (-1)]) (st := []) (z_AR_fillr (o := o) (a := wk) (l := 51) (n := 20) (f := WK) (v := (-1)) (x := 0) (y := wi) hwk (by have h18 : ab_n0 = 18 := rfl; omega) (by omega)) (fun oc G2 h => by rcases h with ⟨h, _⟩ <;> exact ⟨_, h⟩) (by omega) m_AR_fillr ml_OM_124 st_AR_fillr (Nat.le_of_ble_eq_true rfl) d_OM_find_59 rfl ?_
    intro v G8 hq
    rcases hq with ⟨hv, hfk, hlk, hsk, hNwk⟩
    cases hv
    have ha := hfk.get ha (by decide)
    have hsp := hfk.get hsp (by decide)
    have honw := hfk.get honw (by decide)
    have hstk := hfk.get hstk (by decide)
    have hq := hfk.get hq (by simp only [List.mem_cons, List.not_mem_nil, or_false]; omega)
    have hki := hfk.get hki (by simp only [List.mem_cons, List.not_mem_nil, or_false]; omega)
    have hne := hfk.get hne (by simp only [List.mem_cons, List.not_mem_nil, or_false]; omega)
    have hot := hfk.get hot (by simp only [List.mem_cons, List.not_mem_nil, or_false]; omega)
    have hra := hfk.get hra (by simp only [List.mem_cons, List.not_mem_nil, or_false]; omega)
    have hs := hfk.get hs (by decide)
    have hco := hfk.get hco (by decide)
    have hre := hfk.get hre (by decide)
    have hho := hfk.get hho (by decide)
    have hfr := hfr.tr hfk (by decide)
    have hlen := hlk.trans hlen
    have hsl := hsk.trans hsl
    have hwk := hNwk
    change ab_W _ _ _ G8 62 [some (vR a), some (vR q), some (vR s), some (vz hw), some (vz p), some (vR sp), none, none, none] [] _
    refine ab_aload_n d_OM_find_62 rfl ?_
    refine ab_getf (fs := [vR sp, vR wk, vR onw, vR tkn, vR se_, vR cle, vR stk, vz dp, vz 0, vz chn, vR q, vR s, vz hw, vz 0, vj stp]) f_OM_15 d_OM_find_63 ha.2.2 rfl ?_
    refine zz_iconst d_OM_find_66 ?_
    refine ab_iload d_OM_find_67 rfl ?_
    refine zz_iast d_OM_find_69 hwk (by omega) (hwk.2.1 (by decide)) ?_
    obtain ⟨G9, eG9⟩ : ∃ z : ab_G, z = List.set G8 wk (za 20 (zu (zfill WK 0 wi (-1)) 0 p)) := ⟨_, rfl⟩
    have ha := ha.keep hwk eG9 (by decide)
    have hsp := hsp.keep hwk eG9 (by decide)
    have honw := honw.keep hwk eG9 (by decide)
    have hstk := hstk.keep hwk eG9 (by decide)
    have hq := hq.keep hwk eG9 (by omega)
    have hki := hki.keep hwk eG9 (by omega)
    have hne := hne.keep hwk eG9 (by omega)
    have hot := hot.keep hwk eG9 (by omega)
    have hra := hra.keep hwk eG9 (by omega)
    have hs := hs.keep hwk eG9 (by decide)
    have hco := hco.keep hwk eG9 (by decide)
    have hre := hre.keep hwk eG9 (by decide)
    have hho := hho.keep hwk eG9 (by decide)
    have hlen := (z_len eG9).trans hlen
    have hsl := (z_sl hwk eG9 rfl).trans hsl
    have hfr := hfr.wr hwk eG9 (by decide)
    have hwk := hwk.kept eG9
    change ab_W _ _ _ (List.set G8 wk (za 20 (zu (zfill WK 0 wi (-1)) 0 p))) 70 [some (vR a), some (vR q), some (vR s), some (vz hw), some (vz p), some (vR sp), none, none, none] [] _
    rw [← eG9]
    refine ab_aload_n d_OM_find_70 rfl ?_
    refine ab_getf (fs := [vR ki, vR ne, vR ot, vz cnt, vz fi, vz la, vR ra, vz ru, vz gr, vz wi, vz sz, vz fl, vz ve, vz mi, vR na, vR nl]) f_OM_57 d_OM_find_71 hq.2.2 rfl ?_
    refine ab_istore d_OM_find_74 (Nat.le_of_ble_eq_true rfl) (Nat.le_of_ble_eq_true rfl) rfl ?_
    change ab_W _ _ _ G9 76 [some (vR a), some (vR q), some (vR s), some (vz hw), some (vz p), some (vR sp), some (vz fi), none, none] [] _
    refine ab_iload d_OM_find_76 rfl ?_
    refine ab_istore d_OM_find_78 (Nat.le_of_ble_eq_true rfl) (Nat.le_of_ble_eq_true rfl) rfl ?_
    change ab_W _ _ _ G9 80 [some (vR a), some (vR q), some (vR s), some (vz hw), some (vz p), some (vR sp), some (vz fi), some (vz p), none] [] _
    refine zz_iconst d_OM_find_80 ?_
    refine ab_istore d_OM_find_81 (Nat.le_of_ble_eq_true rfl) (Nat.le_of_ble_eq_true rfl) rfl ?_
    change ab_W _ _ _ G9 83 [some (vR a), some (vR q), some (vR s), some (vz hw), some (vz p), some (vR sp), some (vz fi), some (vz p), some (vz 0)] [] _
    refine ab_less (L' := [some (vR a), some (vR q), some (vR s), none, none, some (vR sp), some (vz fi), some (vz p), some (vz 0)]) (fun i v h => by rcases i with _ | _ | _ | _ | _ | _ | _ | _ | _ | i <;> first | exact h | (simp at h)) ?_
    refine y_OM_find_83 (a := a) (sp := sp) (wk := wk) (onw := onw) (tkn := tkn) (se_ := se_) (cle := cle) (stk := stk) (hw := hw) (fy := 0) (q := q) (lq := lq) (ki := ki) (ne := ne) (ot := ot) (cnt := cnt) (fi := fi) (la := la) (ra := ra) (ru := ru) (gr := gr) (wi := wi) (sz := sz) (fl := fl) (ve := ve) (mi := mi) (na := na) (nl := nl) (K := K) (N := N) (O := O) (RR := RR) (nr := nr) (s := s) (by_ := by_) (co := co) (re := re) (ho := ho) (n := n) (C := C) (Rs := Rs) (H := H) (mc := mc) (st := p) (S9 := (mtR 0 hw n (wyR u9 f n p))) (st0 := stp) (G0 := G9) (dp := dp) (fo := 0) (chn := chn) (stp := stp) (SP := SP) (WK := (zu (zfill WK 0 wi (-1)) 0 p)) (ON := ON) (SK := SK) (tu := 0) (p := p) (x_ := fi) (by omega) hp hr (by omega) (by omega) hsu (by omega) (by omega) hpo hoc hk1 (by omega) (by omega) (Int.toNat (n + 1 - 0) + 1) ha hsp hwk honw hstk hq hki hne hot hra hs hco hre hho (by omega) (fun _ => Or.inl rfl) (rgs_zu (rgs_fl (by omega)) (by omega)) (by rw [zu_self]; omega) jsp spo_0 (by omega) (omF_0 hpm hsu.1 (by omega) (by omega) gA_0 (zu_self _ _ _) rfl) (Or.inr (by omega)) (by omega) fx.rf rfl rfl (by omega) (fun G10 dp211 fo212 ch213 st214 SP215 WK216 ON217 SK218 hNa hNsp hNwk hNonw hNstk hq19 hq20 hq21 hq22 hq23 hfk hlk hsk => ?_)
    · have hq := hfk.get hq (by simp only [List.mem_cons, List.not_mem_nil, or_false]; omega)
      have hki := hfk.get hki (by simp only [List.mem_cons, List.not_mem_nil, or_false]; omega)
      have hne := hfk.get hne (by simp only [List.mem_cons, List.not_mem_nil, or_false]; omega)
      have hot := hfk.get hot (by simp only [List.mem_cons, List.not_mem_nil, or_false]; omega)
      have hra := hfk.get hra (by simp only [List.mem_cons, List.not_mem_nil, or_false]; omega)
      have hs := hfk.get hs (by decide)
      have hco := hfk.get hco (by decide)
      have hre := hfk.get hre (by decide)
      have hho := hfk.get hho (by decide)
      have hfr := hfr.tr hfk (by decide)
      have hlen := hlk.trans hlen
      have hsl := hsk.trans hsl
      have ha := hNa
      have hsp := hNsp
      have hwk := hNwk
      have honw := hNonw
      have hstk := hNstk
      change ab_W _ _ _ G10 172 [some (vR a), none, none, none, none, some (vR sp), none, none, none] [] _
      refine ab_aload_n d_OM_find_172 rfl ?_
      refine ab_getf (fs := [vR sp, vR wk, vR onw, vR tkn, vR se_, vR cle, vR stk, vz dp211, vz fo212, vz ch213, vR q, vR s, vz hw, vz 0, vj st214]) f_OM_118 d_OM_find_173 ha.2.2 rfl ?_
      refine zz_if_eq (tgt := 186) d_OM_find_176 (by decide) (by omega) (fun c24 => ?_) (fun c24 => ?_)
      · refine zz_iconst d_OM_find_186 ?_
        refine zz_iret rfl d_OM_find_187 ?_
        rw [hQ]; exact (Or.inl ⟨_, _, _, _, _, _, _, _, _, rfl, hfr, hlen, hsl, ha, hsp, hwk, honw, hstk, (by exact hq20), (by unfold fst1; omega), (by exact om_res hq22 (by omega)), (by omega), (by omega)⟩)
      · have jsq := hq21 (by omega)
        have js1 := jsq.1 1 (by omega) (by omega)
        have js2 := jsq.2.2
        refine ab_aload d_OM_find_179 rfl ?_
        refine zz_iconst d_OM_find_181 ?_
        refine zz_iald d_OM_find_182 hsp (by omega) ?_
        refine ab_goto (tgt := 187) d_OM_find_183 (by decide) ?_
        refine zz_iret rfl d_OM_find_187 ?_
        rw [hQ]; exact (Or.inr ⟨_, _, _, _, _, _, _, _, _, _, rfl, hfr, hlen, hsl, ha, hsp, hwk, honw, hstk, (by exact hq20), (by unfold fst1; omega), (by exact om_res hq22 (by omega)), (by omega), (by omega), (by omega), (by rfl), (by exact jsq.1), (by exact jsq.2.1)⟩)
  · refine ab_aload_n d_OM_find_27 rfl ?_
    refine zz_bipush d_OM_find_28 (by decide) ?_
    refine ab_callV (d' := d - 1) (as := [vz 16]) (st := [vR a]) (r := _) (z_PR_isOn (o := o) (q := q) (lq := lq) (ki := ki) (ne := ne) (ot := ot) (cnt := cnt) (fi := fi) (la := la) (ra := ra) (ru := ru) (gr := gr) (wi := wi) (sz := sz) (fl := fl) (ve := ve) (mi := mi) (na := na) (nl := nl) hq (by omega)) (fun oc G2 h => by rcases h with ⟨h, _⟩ | ⟨h, _⟩ <;> exact ⟨_, h⟩) (by omega) m_PR_isOn ml_OM_111 im_PR_isOn se_PR_isOn c_PR hq.2.2 (Nat.le_of_ble_eq_true rfl) d_OM_find_30 rfl ?_
    intro v G25 hq
    rcases hq with ⟨hv, hGe, hq26⟩ | ⟨hv, hGe, hq27⟩
    · cases hv
      rw [hGe]
      change ab_W _ _ _ G4 33 [some (vR a), some (vR q), some (vR s), some (vz hw), some (vz p), some (vR sp), none, none, none] [vz 1, vR a] _
      refine zz_if_ne (tgt := 40) d_OM_find_33 (by decide) (by decide) (fun c28 => ?_) (fun c28 => absurd c28 (by decide))
      refine zz_iconst d_OM_find_40 ?_
      refine ab_putf (fs := [vR sp, vR wk, vR onw, vR tkn, vR se_, vR cle, vR stk, vz dp, vz fo0, vz chn, vR q, vR s, vz hw, vz fy0, vj stp]) f_OM_114 (Or.inl rfl) d_OM_find_41 ha.2.2 (Nat.le_of_ble_eq_true rfl) (ab_fbz (by decide)) (ha.2.1 (by decide)) ?_
      obtain ⟨G29, eG29⟩ : ∃ z : ab_G, z = List.set G4 a (ab_ob 3 [vR sp, vR wk, vR onw, vR tkn, vR se_, vR cle, vR stk, vz dp, vz fo0, vz chn, vR q, vR s, vz hw, vz 0, vj stp]) := ⟨_, rfl⟩
      have hsp := hsp.keep ha eG29 (by decide)
      have hwk := hwk.keep ha eG29 (by decide)
      have honw := honw.keep ha eG29 (by decide)
      have hstk := hstk.keep ha eG29 (by decide)
      have hq := hq.keep ha eG29 (by omega)
      have hki := hki.keep ha eG29 (by omega)
      have hne := hne.keep ha eG29 (by omega)
      have hot := hot.keep ha eG29 (by omega)
      have hra := hra.keep ha eG29 (by omega)
      have hs := hs.keep ha eG29 (by decide)
      have hco := hco.keep ha eG29 (by decide)
      have hre := hre.keep ha eG29 (by decide)
      have hho := hho.keep ha eG29 (by decide)
      have hlen := (z_len eG29).trans hlen
      have hsl := (z_sl ha eG29 rfl).trans hsl
      have hfr := hfr.wr ha eG29 (by decide)
      have ha := ha.kept eG29
      change ab_W _ _ _ (List.set G4 a (ab_ob 3 [vR sp, vR wk, vR onw, vR tkn, vR se_, vR cle, vR stk, vz dp, vz fo0, vz chn, vR q, vR s, vz hw, vz 0, vj stp])) 44 [some (vR a), some (vR q), some (vR s), some (vz hw), some (vz p), some (vR sp), none, none, none] [] _
      rw [← eG29]
      refine ab_aload_n d_OM_find_44 rfl ?_
      refine zz_iconst d_OM_find_45 ?_
      refine ab_putf (fs := [vR sp, vR wk, vR onw, vR tkn, vR se_, vR cle, vR stk, vz dp, vz fo0, vz chn, vR q, vR s, vz hw, vz 0, vj stp]) f_OM_118 (Or.inl rfl) d_OM_find_46 ha.2.2 (Nat.le_of_ble_eq_true rfl) (ab_fbz (by decide)) (ha.2.1 (by decide)) ?_
      obtain ⟨G30, eG30⟩ : ∃ z : ab_G, z = List.set G29 a (ab_ob 3 [vR sp, vR wk, vR onw, vR tkn, vR se_, vR cle, vR stk, vz dp, vz 0, vz chn, vR q, vR s, vz hw, vz 0, vj stp]) := ⟨_, rfl⟩
      have hsp := hsp.keep ha eG30 (by decide)
      have hwk := hwk.keep ha eG30 (by decide)
      have honw := honw.keep ha eG30 (by decide)
      have hstk := hstk.keep ha eG30 (by decide)
      have hq := hq.keep ha eG30 (by omega)
      have hki := hki.keep ha eG30 (by omega)
      have hne := hne.keep ha eG30 (by omega)
      have hot := hot.keep ha eG30 (by omega)
      have hra := hra.keep ha eG30 (by omega)
      have hs := hs.keep ha eG30 (by decide)
      have hco := hco.keep ha eG30 (by decide)
      have hre := hre.keep ha eG30 (by decide)
      have hho := hho.keep ha eG30 (by decide)
      have hlen := (z_len eG30).trans hlen
      have hsl := (z_sl ha eG30 rfl).trans hsl
      have hfr := hfr.wr ha eG30 (by decide)
      have ha := ha.kept eG30
      change ab_W _ _ _ (List.set G29 a (ab_ob 3 [vR sp, vR wk, vR onw, vR tkn, vR se_, vR cle, vR stk, vz dp, vz 0, vz chn, vR q, vR s, vz hw, vz 0, vj stp])) 49 [some (vR a), some (vR q), some (vR s), some (vz hw), some (vz p), some (vR sp), none, none, none] [] _
      rw [← eG30]
      refine ab_aload_n d_OM_find_49 rfl ?_
      refine ab_getf (fs := [vR sp, vR wk, vR onw, vR tkn, vR se_, vR cle, vR stk, vz dp, vz 0, vz chn, vR q, vR s, vz hw, vz 0, vj stp]) f_OM_15 d_OM_find_50 ha.2.2 rfl ?_
      refine zz_iconst d_OM_find_53 ?_
      refine ab_aload_n d_OM_find_54 rfl ?_
      refine ab_getf (fs := [vR ki, vR ne, vR ot, vz cnt, vz fi, vz la, vR ra, vz ru, vz gr, vz wi, vz sz, vz fl, vz ve, vz mi, vR na, vR nl]) f_OM_121 d_OM_find_55 hq.2.2 rfl ?_
      refine zz_iconst d_OM_find_58 ?_
      refine ab_callS (d' := d - 1) (as := [vR wk, vz 0, vz wi, vz (-1)]) (st := []) (z_AR_fillr (o := o) (a := wk) (l := 51) (n := 20) (f := WK) (v := (-1)) (x := 0) (y := wi) hwk (by have h18 : ab_n0 = 18 := rfl; omega) (by omega)) (fun oc G2 h => by rcases h with ⟨h, _⟩ <;> exact ⟨_, h⟩) (by omega) m_AR_fillr ml_OM_124 st_AR_fillr (Nat.le_of_ble_eq_true rfl) d_OM_find_59 rfl ?_
      intro v G31 hq
      rcases hq with ⟨hv, hfk, hlk, hsk, hNwk⟩
      cases hv
      have ha := hfk.get ha (by decide)
      have hsp := hfk.get hsp (by decide)
      have honw := hfk.get honw (by decide)
      have hstk := hfk.get hstk (by decide)
      have hq := hfk.get hq (by simp only [List.mem_cons, List.not_mem_nil, or_false]; omega)
      have hki := hfk.get hki (by simp only [List.mem_cons, List.not_mem_nil, or_false]; omega)
      have hne := hfk.get hne (by simp only [List.mem_cons, List.not_mem_nil, or_false]; omega)
      have hot := hfk.get hot (by simp only [List.mem_cons, List.not_mem_nil, or_false]; omega)
      have hra := hfk.get hra (by simp only [List.mem_cons, List.not_mem_nil, or_false]; omega)
      have hs := hfk.get hs (by decide)
      have hco := hfk.get hco (by decide)
      have hre := hfk.get hre (by decide)
      have hho := hfk.get hho (by decide)
      have hfr := hfr.tr hfk (by decide)
      have hlen := hlk.trans hlen
      have hsl := hsk.trans hsl
      have hwk := hNwk
      change ab_W _ _ _ G31 62 [some (vR a), some (vR q), some (vR s), some (vz hw), some (vz p), some (vR sp), none, none, none] [] _
      refine ab_aload_n d_OM_find_62 rfl ?_
      refine ab_getf (fs := [vR sp, vR wk, vR onw, vR tkn, vR se_, vR cle, vR stk, vz dp, vz 0, vz chn, vR q, vR s, vz hw, vz 0, vj stp]) f_OM_15 d_OM_find_63 ha.2.2 rfl ?_
      refine zz_iconst d_OM_find_66 ?_
      refine ab_iload d_OM_find_67 rfl ?_
      refine zz_iast d_OM_find_69 hwk (by omega) (hwk.2.1 (by decide)) ?_
      obtain ⟨G32, eG32⟩ : ∃ z : ab_G, z = List.set G31 wk (za 20 (zu (zfill WK 0 wi (-1)) 0 p)) := ⟨_, rfl⟩
      have ha := ha.keep hwk eG32 (by decide)
      have hsp := hsp.keep hwk eG32 (by decide)
      have honw := honw.keep hwk eG32 (by decide)
      have hstk := hstk.keep hwk eG32 (by decide)
      have hq := hq.keep hwk eG32 (by omega)
      have hki := hki.keep hwk eG32 (by omega)
      have hne := hne.keep hwk eG32 (by omega)
      have hot := hot.keep hwk eG32 (by omega)
      have hra := hra.keep hwk eG32 (by omega)
      have hs := hs.keep hwk eG32 (by decide)
      have hco := hco.keep hwk eG32 (by decide)
      have hre := hre.keep hwk eG32 (by decide)
      have hho := hho.keep hwk eG32 (by decide)
      have hlen := (z_len eG32).trans hlen
      have hsl := (z_sl hwk eG32 rfl).trans hsl
      have hfr := hfr.wr hwk eG32 (by decide)
      have hwk := hwk.kept eG32
      change ab_W _ _ _ (List.set G31 wk (za 20 (zu (zfill WK 0 wi (-1)) 0 p))) 70 [some (vR a), some (vR q), some (vR s), some (vz hw), some (vz p), some (vR sp), none, none, none] [] _
      rw [← eG32]
      refine ab_aload_n d_OM_find_70 rfl ?_
      refine ab_getf (fs := [vR ki, vR ne, vR ot, vz cnt, vz fi, vz la, vR ra, vz ru, vz gr, vz wi, vz sz, vz fl, vz ve, vz mi, vR na, vR nl]) f_OM_57 d_OM_find_71 hq.2.2 rfl ?_
      refine ab_istore d_OM_find_74 (Nat.le_of_ble_eq_true rfl) (Nat.le_of_ble_eq_true rfl) rfl ?_
      change ab_W _ _ _ G32 76 [some (vR a), some (vR q), some (vR s), some (vz hw), some (vz p), some (vR sp), some (vz fi), none, none] [] _
      refine ab_iload d_OM_find_76 rfl ?_
      refine ab_istore d_OM_find_78 (Nat.le_of_ble_eq_true rfl) (Nat.le_of_ble_eq_true rfl) rfl ?_
      change ab_W _ _ _ G32 80 [some (vR a), some (vR q), some (vR s), some (vz hw), some (vz p), some (vR sp), some (vz fi), some (vz p), none] [] _
      refine zz_iconst d_OM_find_80 ?_
      refine ab_istore d_OM_find_81 (Nat.le_of_ble_eq_true rfl) (Nat.le_of_ble_eq_true rfl) rfl ?_
      change ab_W _ _ _ G32 83 [some (vR a), some (vR q), some (vR s), some (vz hw), some (vz p), some (vR sp), some (vz fi), some (vz p), some (vz 0)] [] _
      refine ab_less (L' := [some (vR a), some (vR q), some (vR s), none, none, some (vR sp), some (vz fi), some (vz p), some (vz 0)]) (fun i v h => by rcases i with _ | _ | _ | _ | _ | _ | _ | _ | _ | i <;> first | exact h | (simp at h)) ?_
      refine y_OM_find_83 (a := a) (sp := sp) (wk := wk) (onw := onw) (tkn := tkn) (se_ := se_) (cle := cle) (stk := stk) (hw := hw) (fy := 0) (q := q) (lq := lq) (ki := ki) (ne := ne) (ot := ot) (cnt := cnt) (fi := fi) (la := la) (ra := ra) (ru := ru) (gr := gr) (wi := wi) (sz := sz) (fl := fl) (ve := ve) (mi := mi) (na := na) (nl := nl) (K := K) (N := N) (O := O) (RR := RR) (nr := nr) (s := s) (by_ := by_) (co := co) (re := re) (ho := ho) (n := n) (C := C) (Rs := Rs) (H := H) (mc := mc) (st := p) (S9 := (mtR 0 hw n (wyR u9 f n p))) (st0 := stp) (G0 := G32) (dp := dp) (fo := 0) (chn := chn) (stp := stp) (SP := SP) (WK := (zu (zfill WK 0 wi (-1)) 0 p)) (ON := ON) (SK := SK) (tu := 0) (p := p) (x_ := fi) (by omega) hp hr (by omega) (by omega) hsu (by omega) (by omega) hpo hoc hk1 (by omega) (by omega) (Int.toNat (n + 1 - 0) + 1) ha hsp hwk honw hstk hq hki hne hot hra hs hco hre hho (by omega) (fun _ => Or.inl rfl) (rgs_zu (rgs_fl (by omega)) (by omega)) (by rw [zu_self]; omega) jsp spo_0 (by omega) (omF_0 hpm hsu.1 (by omega) (by omega) gA_0 (zu_self _ _ _) rfl) (Or.inr (by omega)) (by omega) fx.rf rfl rfl (by omega) (fun G33 dp234 fo235 ch236 st237 SP238 WK239 ON240 SK241 hNa hNsp hNwk hNonw hNstk hq42 hq43 hq44 hq45 hq46 hfk hlk hsk => ?_)
      · have hq := hfk.get hq (by simp only [List.mem_cons, List.not_mem_nil, or_false]; omega)
        have hki := hfk.get hki (by simp only [List.mem_cons, List.not_mem_nil, or_false]; omega)
        have hne := hfk.get hne (by simp only [List.mem_cons, List.not_mem_nil, or_false]; omega)
        have hot := hfk.get hot (by simp only [List.mem_cons, List.not_mem_nil, or_false]; omega)
        have hra := hfk.get hra (by simp only [List.mem_cons, List.not_mem_nil, or_false]; omega)
        have hs := hfk.get hs (by decide)
        have hco := hfk.get hco (by decide)
        have hre := hfk.get hre (by decide)
        have hho := hfk.get hho (by decide)
        have hfr := hfr.tr hfk (by decide)
        have hlen := hlk.trans hlen
        have hsl := hsk.trans hsl
        have ha := hNa
        have hsp := hNsp
        have hwk := hNwk
        have honw := hNonw
        have hstk := hNstk
        change ab_W _ _ _ G33 172 [some (vR a), none, none, none, none, some (vR sp), none, none, none] [] _
        refine ab_aload_n d_OM_find_172 rfl ?_
        refine ab_getf (fs := [vR sp, vR wk, vR onw, vR tkn, vR se_, vR cle, vR stk, vz dp234, vz fo235, vz ch236, vR q, vR s, vz hw, vz 0, vj st237]) f_OM_118 d_OM_find_173 ha.2.2 rfl ?_
        refine zz_if_eq (tgt := 186) d_OM_find_176 (by decide) (by omega) (fun c47 => ?_) (fun c47 => ?_)
        · refine zz_iconst d_OM_find_186 ?_
          refine zz_iret rfl d_OM_find_187 ?_
          rw [hQ]; exact (Or.inl ⟨_, _, _, _, _, _, _, _, _, rfl, hfr, hlen, hsl, ha, hsp, hwk, honw, hstk, (by exact hq43), (by unfold fst1; omega), (by exact om_res hq45 (by omega)), (by omega), (by omega)⟩)
        · have jsq := hq44 (by omega)
          have js1 := jsq.1 1 (by omega) (by omega)
          have js2 := jsq.2.2
          refine ab_aload d_OM_find_179 rfl ?_
          refine zz_iconst d_OM_find_181 ?_
          refine zz_iald d_OM_find_182 hsp (by omega) ?_
          refine ab_goto (tgt := 187) d_OM_find_183 (by decide) ?_
          refine zz_iret rfl d_OM_find_187 ?_
          rw [hQ]; exact (Or.inr ⟨_, _, _, _, _, _, _, _, _, _, rfl, hfr, hlen, hsl, ha, hsp, hwk, honw, hstk, (by exact hq43), (by unfold fst1; omega), (by exact om_res hq45 (by omega)), (by omega), (by omega), (by omega), (by rfl), (by exact jsq.1), (by exact jsq.2.1)⟩)
    · cases hv
      rw [hGe]
      change ab_W _ _ _ G4 33 [some (vR a), some (vR q), some (vR s), some (vz hw), some (vz p), some (vR sp), none, none, none] [vz 0, vR a] _
      refine zz_if_ne (tgt := 40) d_OM_find_33 (by decide) (by decide) (fun c48 => absurd c48 (by decide)) (fun c48 => ?_)
      refine zz_iconst d_OM_find_36 ?_
      refine ab_goto (tgt := 41) d_OM_find_37 (by decide) ?_
      refine ab_putf (fs := [vR sp, vR wk, vR onw, vR tkn, vR se_, vR cle, vR stk, vz dp, vz fo0, vz chn, vR q, vR s, vz hw, vz fy0, vj stp]) f_OM_114 (Or.inl rfl) d_OM_find_41 ha.2.2 (Nat.le_of_ble_eq_true rfl) (ab_fbz (by decide)) (ha.2.1 (by decide)) ?_
      obtain ⟨G49, eG49⟩ : ∃ z : ab_G, z = List.set G4 a (ab_ob 3 [vR sp, vR wk, vR onw, vR tkn, vR se_, vR cle, vR stk, vz dp, vz fo0, vz chn, vR q, vR s, vz hw, vz 1, vj stp]) := ⟨_, rfl⟩
      have hsp := hsp.keep ha eG49 (by decide)
      have hwk := hwk.keep ha eG49 (by decide)
      have honw := honw.keep ha eG49 (by decide)
      have hstk := hstk.keep ha eG49 (by decide)
      have hq := hq.keep ha eG49 (by omega)
      have hki := hki.keep ha eG49 (by omega)
      have hne := hne.keep ha eG49 (by omega)
      have hot := hot.keep ha eG49 (by omega)
      have hra := hra.keep ha eG49 (by omega)
      have hs := hs.keep ha eG49 (by decide)
      have hco := hco.keep ha eG49 (by decide)
      have hre := hre.keep ha eG49 (by decide)
      have hho := hho.keep ha eG49 (by decide)
      have hlen := (z_len eG49).trans hlen
      have hsl := (z_sl ha eG49 rfl).trans hsl
      have hfr := hfr.wr ha eG49 (by decide)
      have ha := ha.kept eG49
      change ab_W _ _ _ (List.set G4 a (ab_ob 3 [vR sp, vR wk, vR onw, vR tkn, vR se_, vR cle, vR stk, vz dp, vz fo0, vz chn, vR q, vR s, vz hw, vz 1, vj stp])) 44 [some (vR a), some (vR q), some (vR s), some (vz hw), some (vz p), some (vR sp), none, none, none] [] _
      rw [← eG49]
      refine ab_aload_n d_OM_find_44 rfl ?_
      refine zz_iconst d_OM_find_45 ?_
      refine ab_putf (fs := [vR sp, vR wk, vR onw, vR tkn, vR se_, vR cle, vR stk, vz dp, vz fo0, vz chn, vR q, vR s, vz hw, vz 1, vj stp]) f_OM_118 (Or.inl rfl) d_OM_find_46 ha.2.2 (Nat.le_of_ble_eq_true rfl) (ab_fbz (by decide)) (ha.2.1 (by decide)) ?_
      obtain ⟨G50, eG50⟩ : ∃ z : ab_G, z = List.set G49 a (ab_ob 3 [vR sp, vR wk, vR onw, vR tkn, vR se_, vR cle, vR stk, vz dp, vz 0, vz chn, vR q, vR s, vz hw, vz 1, vj stp]) := ⟨_, rfl⟩
      have hsp := hsp.keep ha eG50 (by decide)
      have hwk := hwk.keep ha eG50 (by decide)
      have honw := honw.keep ha eG50 (by decide)
      have hstk := hstk.keep ha eG50 (by decide)
      have hq := hq.keep ha eG50 (by omega)
      have hki := hki.keep ha eG50 (by omega)
      have hne := hne.keep ha eG50 (by omega)
      have hot := hot.keep ha eG50 (by omega)
      have hra := hra.keep ha eG50 (by omega)
      have hs := hs.keep ha eG50 (by decide)
      have hco := hco.keep ha eG50 (by decide)
      have hre := hre.keep ha eG50 (by decide)
      have hho := hho.keep ha eG50 (by decide)
      have hlen := (z_len eG50).trans hlen
      have hsl := (z_sl ha eG50 rfl).trans hsl
      have hfr := hfr.wr ha eG50 (by decide)
      have ha := ha.kept eG50
      change ab_W _ _ _ (List.set G49 a (ab_ob 3 [vR sp, vR wk, vR onw, vR tkn, vR se_, vR cle, vR stk, vz dp, vz 0, vz chn, vR q, vR s, vz hw, vz 1, vj stp])) 49 [some (vR a), some (vR q), some (vR s), some (vz hw), some (vz p), some (vR sp), none, none, none] [] _
      rw [← eG50]
      refine ab_aload_n d_OM_find_49 rfl ?_
      refine ab_getf (fs := [vR sp, vR wk, vR onw, vR tkn, vR se_, vR cle, vR stk, vz dp, vz 0, vz chn, vR q, vR s, vz hw, vz 1, vj stp]) f_OM_15 d_OM_find_50 ha.2.2 rfl ?_
      refine zz_iconst d_OM_find_53 ?_
      refine ab_aload_n d_OM_find_54 rfl ?_
      refine ab_getf (fs := [vR ki, vR ne, vR ot, vz cnt, vz fi, vz la, vR ra, vz ru, vz gr, vz wi, vz sz, vz fl, vz ve, vz mi, vR na, vR nl]) f_OM_121 d_OM_find_55 hq.2.2 rfl ?_
      refine zz_iconst d_OM_find_58 ?_
      refine ab_callS (d' := d - 1) (as := [vR wk, vz 0, vz wi, vz (-1)]) (st := []) (z_AR_fillr (o := o) (a := wk) (l := 51) (n := 20) (f := WK) (v := (-1)) (x := 0) (y := wi) hwk (by have h18 : ab_n0 = 18 := rfl; omega) (by omega)) (fun oc G2 h => by rcases h with ⟨h, _⟩ <;> exact ⟨_, h⟩) (by omega) m_AR_fillr ml_OM_124 st_AR_fillr (Nat.le_of_ble_eq_true rfl) d_OM_find_59 rfl ?_
      intro v G51 hq
      rcases hq with ⟨hv, hfk, hlk, hsk, hNwk⟩
      cases hv
      have ha := hfk.get ha (by decide)
      have hsp := hfk.get hsp (by decide)
      have honw := hfk.get honw (by decide)
      have hstk := hfk.get hstk (by decide)
      have hq := hfk.get hq (by simp only [List.mem_cons, List.not_mem_nil, or_false]; omega)
      have hki := hfk.get hki (by simp only [List.mem_cons, List.not_mem_nil, or_false]; omega)
      have hne := hfk.get hne (by simp only [List.mem_cons, List.not_mem_nil, or_false]; omega)
      have hot := hfk.get hot (by simp only [List.mem_cons, List.not_mem_nil, or_false]; omega)
      have hra := hfk.get hra (by simp only [List.mem_cons, List.not_mem_nil, or_false]; omega)
      have hs := hfk.get hs (by decide)
      have hco := hfk.get hco (by decide)
      have hre := hfk.get hre (by decide)
      have hho := hfk.get hho (by decide)
      have hfr := hfr.tr hfk (by decide)
      have hlen := hlk.trans hlen
      have hsl := hsk.trans hsl
      have hwk := hNwk
      change ab_W _ _ _ G51 62 [some (vR a), some (vR q), some (vR s), some (vz hw), some (vz p), some (vR sp), none, none, none] [] _
      refine ab_aload_n d_OM_find_62 rfl ?_
      refine ab_getf (fs := [vR sp, vR wk, vR onw, vR tkn, vR se_, vR cle, vR stk, vz dp, vz 0, vz chn, vR q, vR s, vz hw, vz 1, vj stp]) f_OM_15 d_OM_find_63 ha.2.2 rfl ?_
      refine zz_iconst d_OM_find_66 ?_
      refine ab_iload d_OM_find_67 rfl ?_
      refine zz_iast d_OM_find_69 hwk (by omega) (hwk.2.1 (by decide)) ?_
      obtain ⟨G52, eG52⟩ : ∃ z : ab_G, z = List.set G51 wk (za 20 (zu (zfill WK 0 wi (-1)) 0 p)) := ⟨_, rfl⟩
      have ha := ha.keep hwk eG52 (by decide)
      have hsp := hsp.keep hwk eG52 (by decide)
      have honw := honw.keep hwk eG52 (by decide)
      have hstk := hstk.keep hwk eG52 (by decide)
      have hq := hq.keep hwk eG52 (by omega)
      have hki := hki.keep hwk eG52 (by omega)
      have hne := hne.keep hwk eG52 (by omega)
      have hot := hot.keep hwk eG52 (by omega)
      have hra := hra.keep hwk eG52 (by omega)
      have hs := hs.keep hwk eG52 (by decide)
      have hco := hco.keep hwk eG52 (by decide)
      have hre := hre.keep hwk eG52 (by decide)
      have hho := hho.keep hwk eG52 (by decide)
      have hlen := (z_len eG52).trans hlen
      have hsl := (z_sl hwk eG52 rfl).trans hsl
      have hfr := hfr.wr hwk eG52 (by decide)
      have hwk := hwk.kept eG52
      change ab_W _ _ _ (List.set G51 wk (za 20 (zu (zfill WK 0 wi (-1)) 0 p))) 70 [some (vR a), some (vR q), some (vR s), some (vz hw), some (vz p), some (vR sp), none, none, none] [] _
      rw [← eG52]
      refine ab_aload_n d_OM_find_70 rfl ?_
      refine ab_getf (fs := [vR ki, vR ne, vR ot, vz cnt, vz fi, vz la, vR ra, vz ru, vz gr, vz wi, vz sz, vz fl, vz ve, vz mi, vR na, vR nl]) f_OM_57 d_OM_find_71 hq.2.2 rfl ?_
      refine ab_istore d_OM_find_74 (Nat.le_of_ble_eq_true rfl) (Nat.le_of_ble_eq_true rfl) rfl ?_
      change ab_W _ _ _ G52 76 [some (vR a), some (vR q), some (vR s), some (vz hw), some (vz p), some (vR sp), some (vz fi), none, none] [] _
      refine ab_iload d_OM_find_76 rfl ?_
      refine ab_istore d_OM_find_78 (Nat.le_of_ble_eq_true rfl) (Nat.le_of_ble_eq_true rfl) rfl ?_
      change ab_W _ _ _ G52 80 [some (vR a), some (vR q), some (vR s), some (vz hw), some (vz p), some (vR sp), some (vz fi), some (vz p), none] [] _
      refine zz_iconst d_OM_find_80 ?_
      refine ab_istore d_OM_find_81 (Nat.le_of_ble_eq_true rfl) (Nat.le_of_ble_eq_true rfl) rfl ?_
      change ab_W _ _ _ G52 83 [some (vR a), some (vR q), some (vR s), some (vz hw), some (vz p), some (vR sp), some (vz fi), some (vz p), some (vz 0)] [] _
      refine ab_less (L' := [some (vR a), some (vR q), some (vR s), none, none, some (vR sp), some (vz fi), some (vz p), some (vz 0)]) (fun i v h => by rcases i with _ | _ | _ | _ | _ | _ | _ | _ | _ | i <;> first | exact h | (simp at h)) ?_
      refine y_OM_find_83 (a := a) (sp := sp) (wk := wk) (onw := onw) (tkn := tkn) (se_ := se_) (cle := cle) (stk := stk) (hw := hw) (fy := 1) (q := q) (lq := lq) (ki := ki) (ne := ne) (ot := ot) (cnt := cnt) (fi := fi) (la := la) (ra := ra) (ru := ru) (gr := gr) (wi := wi) (sz := sz) (fl := fl) (ve := ve) (mi := mi) (na := na) (nl := nl) (K := K) (N := N) (O := O) (RR := RR) (nr := nr) (s := s) (by_ := by_) (co := co) (re := re) (ho := ho) (n := n) (C := C) (Rs := Rs) (H := H) (mc := mc) (st := p) (S9 := (mtR 1 hw n (wyR u9 f n p))) (st0 := stp) (G0 := G52) (dp := dp) (fo := 0) (chn := chn) (stp := stp) (SP := SP) (WK := (zu (zfill WK 0 wi (-1)) 0 p)) (ON := ON) (SK := SK) (tu := 0) (p := p) (x_ := fi) (by omega) hp hr (by omega) (by omega) hsu (by omega) (by omega) hpo hoc hk1 (by omega) (by omega) (Int.toNat (n + 1 - 0) + 1) ha hsp hwk honw hstk hq hki hne hot hra hs hco hre hho (by omega) (fun _ => Or.inl rfl) (rgs_zu (rgs_fl (by omega)) (by omega)) (by rw [zu_self]; omega) jsp spo_0 (by omega) (omF_0 hpm hsu.1 (by omega) (by omega) gA_0 (zu_self _ _ _) rfl) (Or.inr (by omega)) (by omega) fx.rf rfl rfl (by omega) (fun G53 dp254 fo255 ch256 st257 SP258 WK259 ON260 SK261 hNa hNsp hNwk hNonw hNstk hq62 hq63 hq64 hq65 hq66 hfk hlk hsk => ?_)
      · have hq := hfk.get hq (by simp only [List.mem_cons, List.not_mem_nil, or_false]; omega)
        have hki := hfk.get hki (by simp only [List.mem_cons, List.not_mem_nil, or_false]; omega)
        have hne := hfk.get hne (by simp only [List.mem_cons, List.not_mem_nil, or_false]; omega)
        have hot := hfk.get hot (by simp only [List.mem_cons, List.not_mem_nil, or_false]; omega)
        have hra := hfk.get hra (by simp only [List.mem_cons, List.not_mem_nil, or_false]; omega)
        have hs := hfk.get hs (by decide)
        have hco := hfk.get hco (by decide)
        have hre := hfk.get hre (by decide)
        have hho := hfk.get hho (by decide)
        have hfr := hfr.tr hfk (by decide)
        have hlen := hlk.trans hlen
        have hsl := hsk.trans hsl
        have ha := hNa
        have hsp := hNsp
        have hwk := hNwk
        have honw := hNonw
        have hstk := hNstk
        change ab_W _ _ _ G53 172 [some (vR a), none, none, none, none, some (vR sp), none, none, none] [] _
        refine ab_aload_n d_OM_find_172 rfl ?_
        refine ab_getf (fs := [vR sp, vR wk, vR onw, vR tkn, vR se_, vR cle, vR stk, vz dp254, vz fo255, vz ch256, vR q, vR s, vz hw, vz 1, vj st257]) f_OM_118 d_OM_find_173 ha.2.2 rfl ?_
        refine zz_if_eq (tgt := 186) d_OM_find_176 (by decide) (by omega) (fun c67 => ?_) (fun c67 => ?_)
        · refine zz_iconst d_OM_find_186 ?_
          refine zz_iret rfl d_OM_find_187 ?_
          rw [hQ]; exact (Or.inl ⟨_, _, _, _, _, _, _, _, _, rfl, hfr, hlen, hsl, ha, hsp, hwk, honw, hstk, (by exact hq63), (by unfold fst1; omega), (by exact om_res hq65 (by omega)), (by omega), (by omega)⟩)
        · have jsq := hq64 (by omega)
          have js1 := jsq.1 1 (by omega) (by omega)
          have js2 := jsq.2.2
          refine ab_aload d_OM_find_179 rfl ?_
          refine zz_iconst d_OM_find_181 ?_
          refine zz_iald d_OM_find_182 hsp (by omega) ?_
          refine ab_goto (tgt := 187) d_OM_find_183 (by decide) ?_
          refine zz_iret rfl d_OM_find_187 ?_
          rw [hQ]; exact (Or.inr ⟨_, _, _, _, _, _, _, _, _, _, rfl, hfr, hlen, hsl, ha, hsp, hwk, honw, hstk, (by exact hq63), (by unfold fst1; omega), (by exact om_res hq65 (by omega)), (by omega), (by omega), (by omega), (by rfl), (by exact jsq.1), (by exact jsq.2.1)⟩)
