set_option maxRecDepth 100000 in
set_option maxHeartbeats 4000000 in
theorem y_OM_isOfOneMind_67 {X : ab_X} {d : Nat} {Q : Outcome → ab_G → Prop} {o0 : Nat → Nat} {G0 : ab_G} {a : Nat} {wk : Nat} {onw : Nat} {tkn : Nat} {se_ : Nat} {cle : Nat} {stk : Nat} {fo : Int} {chn : Int} {hw : Int} {fy : Int} {q : Nat} {lq : Nat} {ki : Nat} {ne : Nat} {ot : Nat} {cnt : Int} {fi : Int} {la : Int} {ra : Nat} {ru : Int} {gr : Int} {wi : Int} {sz : Int} {fl : Int} {ve : Int} {mi : Int} {na : Nat} {nl : Nat} {K : Int → Int} {N : Int → Int} {O : Int → Int} {RR : Int → Int} {nr : Nat} {sp0 : Value} {s0 : Value} {n0 : Nat} {ex : Nat} {exs : Nat} {st0 : Int} (cq : 100 ≤ lq ∧ 0 ≤ cnt ∧ cnt ≤ 808 ∧ ↑nr ≤ (100000 : Int)) (hp : prok K N O RR cnt ↑nr wi) (hpu : prok K N O RR cnt ru wi) (hr : ∀ k : Int, 0 ≤ k → k < ↑nr → 0 ≤ RR k ∧ RR k ≤ 1114111) (cru : 0 ≤ ru ∧ ru ≤ ↑nr ∧ ru ≤ 50000) (ck9 : K 0 = 9) (cfi : 0 ≤ fi ∧ fi < cnt) (cex : ex ≤ 192 ∧ exs ≤ 2425) (rc : G0.length + 5100 ≤ ab_n0 + room_1.cells) (rs : ab_slots G0 + 210500 ≤ room_1.slots + 2 * n0) (hd : 9 ≤ d) : ∀ (mz : Nat) {G : ab_G} {o : Nat → Nat} {dp : Int} {stp : Int} {SK : Int → Int} {SE : Int → Int} {CL : Int → Int} {one : Int} {st_ : Int} {nt : Nat} {ct : Int} {P : Int → Prop}, (cc o G a 50 (ab_ob 3 [sp0, vR wk, vR onw, vR tkn, vR se_, vR cle, vR stk, vz dp, vz fo, vz chn, vR q, s0, vz hw, vz fy, vj stp])) → (cc o G se_ 55 (za 808 SE)) → (cc o G cle 56 (za 808 CL)) → (cc o G stk 57 (za 809 SK)) → (cc o G q lq (ab_ob 5 [vR ki, vR ne, vR ot, vz cnt, vz fi, vz la, vR ra, vz ru, vz gr, vz wi, vz sz, vz fl, vz ve, vz mi, vR na, vR nl])) → (cc o G ki (lq + 1) (za 808 K)) → (cc o G ne (lq + 2) (za 808 N)) → (cc o G ot (lq + 3) (za 808 O)) → (cc o G ra (lq + 4) (za nr RR)) → (csI o G tkn 53 54 nt ct P) → (0 ≤ st_ ∧ st_ ≤ cnt ∧ 0 ≤ one ∧ one ≤ 1) → (rgs SE 808 (-1) 808) → (rgs CL 808 0 1) → (oseen SE CL cnt) → (ocld K N O CL cnt fi one st_) → (ocl2 K N O RR CL cnt fi one st_) → (nt ≤ 104000) → (64 * G.length + n0 ≤ 64 * G0.length + nt + ex) → (ab_slots G + 2 * n0 ≤ ab_slots G0 + 2 * nt + exs) → (st0 ≤ stp ∧ stp ≤ st0 + 1616 * st_) → (fx o0 o [50, 53, 54, 55, 56, 57] G0 G) → (Int.toNat (cnt - st_) < mz) → (∀ (G2 : ab_G) (o2 : Nat → Nat) (one2 : Int) (dp2 : Int) (st2 : Int) (SK2 : Int → Int) (SE2 : Int → Int) (CL2 : Int → Int) (n2 : Nat) (c2 : Int) (P2 : Int → Prop), (cc o2 G2 a 50 (ab_ob 3 [sp0, vR wk, vR onw, vR tkn, vR se_, vR cle, vR stk, vz dp2, vz fo, vz chn, vR q, s0, vz hw, vz fy, vj st2])) → (cc o2 G2 se_ 55 (za 808 SE2)) → (cc o2 G2 cle 56 (za 808 CL2)) → (cc o2 G2 stk 57 (za 809 SK2)) → (csI o2 G2 tkn 53 54 n2 c2 P2) → (0 ≤ one2 ∧ one2 ≤ 1) → (n2 ≤ 104000) → (64 * G2.length + n0 ≤ 64 * G0.length + n2 + ex) → (ab_slots G2 + 2 * n0 ≤ ab_slots G0 + 2 * n2 + exs) → (one2 = 1 → pone K N O cnt fi) → (one2 = 1 → omC K N O RR cnt fi) → (st0 ≤ st2 ∧ st2 ≤ st0 + 1616 * cnt) → (fx o0 o2 [50, 53, 54, 55, 56, 57] G0 G2) → ab_W X (ab_pl y_OM_isOfOneMind b_OM_isOfOneMind 5 (some (.boolean))) d G2 126 [none, none, some (vz one2), none, none] [] Q) → ab_W X (ab_pl y_OM_isOfOneMind b_OM_isOfOneMind 5 (some (.boolean))) d G 67 [some (vR a), some (vR q), some (vz one), some (vz st_), none] [] Q := by
  intro mz
  induction mz with
  | zero => intro G o dp stp SK SE CL one st_ nt ct P ha hse_ hcle hstk hq hki hne hot hra pcsI_tkn ci jsr jcr jsc jcl jc2 hn hg hs hst9 hfr hm hk0; exact absurd hm (Nat.not_lt_zero _)
  | succ mz ih =>
    intro G o dp stp SK SE CL one st_ nt ct P ha hse_ hcle hstk hq hki hne hot hra pcsI_tkn ci jsr jcr jsc jcl jc2 hn hg hs hst9 hfr hm hk0
    refine ab_iload_n d_OM_isOfOneMind_67 rfl ?_
    refine ab_aload_n d_OM_isOfOneMind_68 rfl ?_
    refine ab_getf (fs := [vR ki, vR ne, vR ot, vz cnt, vz fi, vz la, vR ra, vz ru, vz gr, vz wi, vz sz, vz fl, vz ve, vz mi, vR na, vR nl]) f_OM_64 d_OM_isOfOneMind_69 hq.2.2 rfl ?_
    refine zz_icmp_ge (tgt := 126) d_OM_isOfOneMind_72 (by decide) (by omega) (by omega) (fun c1 => ?_) (fun c1 => ?_)
    · refine ab_less (L' := [none, none, some (vz one), none, none]) (fun i v h => by rcases i with _ | _ | _ | _ | _ | i <;> first | exact h | (simp at h)) ?_
      exact hk0 _ _ _ _ _ _ _ _ _ _ _ ha hse_ hcle hstk pcsI_tkn (by omega) (by omega) (by omega) (by omega) (by exact fun h1 => ocld_end jcl h1 (by omega) cfi hp.n) (by exact fun h1 => ocl2_end jc2 h1 (by omega) cfi hp.n) (by omega) hfr
    · refine ab_iload_n d_OM_isOfOneMind_75 rfl ?_
      refine zz_if_eq (tgt := 126) d_OM_isOfOneMind_76 (by decide) (by omega) (fun c2 => ?_) (fun c2 => ?_)
      · refine ab_less (L' := [none, none, some (vz one), none, none]) (fun i v h => by rcases i with _ | _ | _ | _ | _ | i <;> first | exact h | (simp at h)) ?_
        exact hk0 _ _ _ _ _ _ _ _ _ _ _ ha hse_ hcle hstk pcsI_tkn (by omega) (by omega) (by omega) (by omega) (by exact fun h1 => ocld_end jcl h1 (by omega) cfi hp.n) (by exact fun h1 => ocl2_end jc2 h1 (by omega) cfi hp.n) (by omega) hfr
      · refine ab_aload_n d_OM_isOfOneMind_79 rfl ?_
        refine ab_getf (fs := [vR ki, vR ne, vR ot, vz cnt, vz fi, vz la, vR ra, vz ru, vz gr, vz wi, vz sz, vz fl, vz ve, vz mi, vR na, vR nl]) f_OM_67 d_OM_isOfOneMind_80 hq.2.2 rfl ?_
        refine ab_iload_n d_OM_isOfOneMind_83 rfl ?_
        refine zz_iald d_OM_isOfOneMind_84 hne (by omega) ?_
        have hq3 := hp.n st_ (by omega) (by omega)
        refine ab_istore d_OM_isOfOneMind_85 (Nat.le_of_ble_eq_true rfl) (Nat.le_of_ble_eq_true rfl) rfl ?_
        change ab_W _ _ _ G 87 [some (vR a), some (vR q), some (vz one), some (vz st_), some (vz (N st_))] [] _
        refine ab_aload_n d_OM_isOfOneMind_87 rfl ?_
        refine ab_iload_n d_OM_isOfOneMind_88 rfl ?_
        refine ab_callV (d' := d - 1) (as := [vz st_]) (st := []) (r := _) (zq_PR_takes (o := o) (q := q) (lq := lq) (ki := ki) (ne := ne) (ot := ot) (cnt := cnt) (fi := fi) (la := la) (ra := ra) (ru := ru) (gr := gr) (wi := wi) (sz := sz) (fl := fl) (ve := ve) (mi := mi) (na := na) (nl := nl) (K := K) (x := st_) hq hki (by omega) hp (by omega)) (fun oc G2 h => by rcases h with ⟨h, _⟩ | ⟨h, _⟩ <;> exact ⟨_, h⟩) (by omega) m_PR_takes ml_OM_70 im_PR_takes se_PR_takes c_PR hq.2.2 (Nat.le_of_ble_eq_true rfl) d_OM_isOfOneMind_89 rfl ?_
        intro v G4 hq
        rcases hq with ⟨hv, hGe, hq5⟩ | ⟨hv, hGe, hq6⟩
        · cases hv
          rw [hGe]
          change ab_W _ _ _ G 92 [some (vR a), some (vR q), some (vz one), some (vz st_), some (vz (N st_))] [vz 1] _
          refine zz_if_eq (tgt := 114) d_OM_isOfOneMind_92 (by decide) (by decide) (fun c7 => absurd c7 (by decide)) (fun c7 => ?_)
          refine ab_aload_n d_OM_isOfOneMind_95 rfl ?_
          refine ab_getf (fs := [sp0, vR wk, vR onw, vR tkn, vR se_, vR cle, vR stk, vz dp, vz fo, vz chn, vR q, s0, vz hw, vz fy, vj stp]) f_OM_31 d_OM_isOfOneMind_96 ha.2.2 rfl ?_
          refine ab_iload d_OM_isOfOneMind_99 rfl ?_
          refine zz_iald d_OM_isOfOneMind_101 hcle (by omega) ?_
          have hq8 := jcr (N st_) (by omega) (by omega)
          refine zz_if_ne (tgt := 114) d_OM_isOfOneMind_102 (by decide) (by omega) (fun c9 => ?_) (fun c9 => ?_)
          · refine zz_iconst d_OM_isOfOneMind_114 ?_
            refine ab_goto (tgt := 119) d_OM_isOfOneMind_115 (by decide) ?_
            refine ab_istore_n d_OM_isOfOneMind_119 (Nat.le_of_ble_eq_true rfl) (Nat.le_of_ble_eq_true rfl) rfl ?_
            change ab_W _ _ _ G 120 [some (vR a), some (vR q), some (vz 1), some (vz st_), some (vz (N st_))] [] _
            refine zz_iinc d_OM_isOfOneMind_120 rfl (Nat.le_of_ble_eq_true rfl) (Nat.le_of_ble_eq_true rfl) rfl ?_
            change ab_W _ _ _ G 123 [some (vR a), some (vR q), some (vz 1), some (vz (st_ + 1)), some (vz (N st_))] [] _
            refine ab_goto (tgt := 67) d_OM_isOfOneMind_123 (by decide) ?_
            refine ab_less (L' := [some (vR a), some (vR q), some (vz 1), some (vz (st_ + 1)), none]) (fun i v h => by rcases i with _ | _ | _ | _ | _ | i <;> first | exact h | (simp at h)) ?_
            exact ih (dp := dp) (stp := stp) (SK := SK) (SE := SE) (CL := CL) (one := 1) (st_ := (st_ + 1)) (nt := nt) (ct := ct) (P := P) ha hse_ hcle hstk hq hki hne hot hra pcsI_tkn (by omega) jsr jcr jsc (ocld_s (by have := jcl; rw [show one = 1 by omega] at this; exact this) (by omega) (fun hk2 => by omega)) (ocl2_s (by have := jc2; rw [show one = 1 by omega] at this; exact this) (by omega) (fun hk2 => by omega)) (by omega) (by omega) (by omega) (by omega) hfr (by omega) hk0
          · refine ab_aload_n d_OM_isOfOneMind_105 rfl ?_
            refine ab_iload d_OM_isOfOneMind_106 rfl ?_
            refine ab_callV (d' := d - 1) (as := [vz (N st_)]) (st := []) (r := _) (z_OM_isClearFrom (o := o) (a := a) (wk := wk) (onw := onw) (tkn := tkn) (se_ := se_) (cle := cle) (stk := stk) (dp := dp) (fo := fo) (chn := chn) (hw := hw) (fy := fy) (stp := stp) (SK := SK) (q := q) (lq := lq) (ki := ki) (ne := ne) (ot := ot) (cnt := cnt) (fi := fi) (la := la) (ra := ra) (ru := ru) (gr := gr) (wi := wi) (sz := sz) (fl := fl) (ve := ve) (mi := mi) (na := na) (nl := nl) (K := K) (N := N) (O := O) (RR := RR) (nr := nr) (sp0 := sp0) (s0 := s0) (SE := SE) (CL := CL) (b0 := (N st_)) (nt := nt) (ct := ct) (P := P) ha hse_ hstk hq hki hne hot hra hcle pcsI_tkn (by omega) hp hpu hr (by omega) (by omega) (by omega) jsr (oseen_n jsc (hp.n st_ (by omega) (by omega)).1 (by omega)) (by omega) (by omega) (by omega) (by omega)) (fun oc G2 h => by rcases h with ⟨_, _, _, _, _, _, _, _, h, _⟩ | ⟨_, _, _, _, _, _, _, _, h, _⟩ <;> exact ⟨_, h⟩) (by omega) m_OM_isClearFrom ml_OM_60 im_OM_isClearFrom se_OM_isClearFrom c_OM ha.2.2 (Nat.le_of_ble_eq_true rfl) d_OM_isOfOneMind_108 rfl ?_
            intro v G10 hq
            rcases hq with ⟨o11, dp212, st213, SK214, SE215, n216, c217, P218, hv, hfk, hNa, hNse_, hNstk, hNcle, pNcsI_tkn, hq19, hq20, hq21, hq22, hq23, hq24⟩ | ⟨o25, dp226, st227, SK228, SE229, n230, c231, P232, hv, hfk, hNa, hNse_, hNstk, hNcle, pNcsI_tkn, hq33, hq34, hq35, hq36, hq37, hq38, hq39, hq40⟩
            · cases hv
              have hq := hfk.get hq (by simp only [List.mem_cons, List.not_mem_nil, or_false]; omega)
              have hki := hfk.get hki (by simp only [List.mem_cons, List.not_mem_nil, or_false]; omega)
              have hne := hfk.get hne (by simp only [List.mem_cons, List.not_mem_nil, or_false]; omega)
              have hot := hfk.get hot (by simp only [List.mem_cons, List.not_mem_nil, or_false]; omega)
              have hra := hfk.get hra (by simp only [List.mem_cons, List.not_mem_nil, or_false]; omega)
              have pcsI_tkn := pNcsI_tkn
              have hfr := hfr.tr hfk (by decide)
              have hq41 := hfk.1
              have ha := hNa
              have hse_ := hNse_
              have hstk := hNstk
              have hcle := hNcle
              change ab_W _ _ _ G10 111 [some (vR a), some (vR q), some (vz one), some (vz st_), some (vz (N st_))] [vz 0] _
              refine zz_if_eq (tgt := 118) d_OM_isOfOneMind_111 (by decide) (by decide) (fun c43 => ?_) (fun c43 => absurd c43 (by decide))
              refine zz_iconst d_OM_isOfOneMind_118 ?_
              refine ab_istore_n d_OM_isOfOneMind_119 (Nat.le_of_ble_eq_true rfl) (Nat.le_of_ble_eq_true rfl) rfl ?_
              change ab_W _ _ _ G10 120 [some (vR a), some (vR q), some (vz 0), some (vz st_), some (vz (N st_))] [] _
              refine zz_iinc d_OM_isOfOneMind_120 rfl (Nat.le_of_ble_eq_true rfl) (Nat.le_of_ble_eq_true rfl) rfl ?_
              change ab_W _ _ _ G10 123 [some (vR a), some (vR q), some (vz 0), some (vz (st_ + 1)), some (vz (N st_))] [] _
              refine ab_goto (tgt := 67) d_OM_isOfOneMind_123 (by decide) ?_
              refine ab_less (L' := [some (vR a), some (vR q), some (vz 0), some (vz (st_ + 1)), none]) (fun i v h => by rcases i with _ | _ | _ | _ | _ | i <;> first | exact h | (simp at h)) ?_
              exact ih (dp := dp212) (stp := st213) (SK := SK214) (SE := SE215) (CL := (zu CL (N st_) 1)) (one := 0) (st_ := (st_ + 1)) (nt := n216) (ct := c217) (P := P218) ha hse_ hcle hstk hq hki hne hot hra pcsI_tkn (by omega) hq19 (rgs_zu jcr (by omega)) (oseen_s jsc (hp.n st_ (by omega) (by omega)) hq20) ocld_no ocl2_no (by omega) (by omega) (by omega) (by omega) hfr (by omega) hk0
            · cases hv
              have hq := hfk.get hq (by simp only [List.mem_cons, List.not_mem_nil, or_false]; omega)
              have hki := hfk.get hki (by simp only [List.mem_cons, List.not_mem_nil, or_false]; omega)
              have hne := hfk.get hne (by simp only [List.mem_cons, List.not_mem_nil, or_false]; omega)
              have hot := hfk.get hot (by simp only [List.mem_cons, List.not_mem_nil, or_false]; omega)
              have hra := hfk.get hra (by simp only [List.mem_cons, List.not_mem_nil, or_false]; omega)
              have pcsI_tkn := pNcsI_tkn
              have hfr := hfr.tr hfk (by decide)
              have hq42 := hfk.1
              have ha := hNa
              have hse_ := hNse_
              have hstk := hNstk
              have hcle := hNcle
              change ab_W _ _ _ G10 111 [some (vR a), some (vR q), some (vz one), some (vz st_), some (vz (N st_))] [vz 1] _
              refine zz_if_eq (tgt := 118) d_OM_isOfOneMind_111 (by decide) (by decide) (fun c44 => absurd c44 (by decide)) (fun c44 => ?_)
              refine zz_iconst d_OM_isOfOneMind_114 ?_
              refine ab_goto (tgt := 119) d_OM_isOfOneMind_115 (by decide) ?_
              refine ab_istore_n d_OM_isOfOneMind_119 (Nat.le_of_ble_eq_true rfl) (Nat.le_of_ble_eq_true rfl) rfl ?_
              change ab_W _ _ _ G10 120 [some (vR a), some (vR q), some (vz 1), some (vz st_), some (vz (N st_))] [] _
              refine zz_iinc d_OM_isOfOneMind_120 rfl (Nat.le_of_ble_eq_true rfl) (Nat.le_of_ble_eq_true rfl) rfl ?_
              change ab_W _ _ _ G10 123 [some (vR a), some (vR q), some (vz 1), some (vz (st_ + 1)), some (vz (N st_))] [] _
              refine ab_goto (tgt := 67) d_OM_isOfOneMind_123 (by decide) ?_
              refine ab_less (L' := [some (vR a), some (vR q), some (vz 1), some (vz (st_ + 1)), none]) (fun i v h => by rcases i with _ | _ | _ | _ | _ | i <;> first | exact h | (simp at h)) ?_
              exact ih (dp := dp226) (stp := st227) (SK := SK228) (SE := SE229) (CL := (zu CL (N st_) 1)) (one := 1) (st_ := (st_ + 1)) (nt := n230) (ct := c231) (P := P232) ha hse_ hcle hstk hq hki hne hot hra pcsI_tkn (by omega) hq33 (rgs_zu jcr (by omega)) (oseen_s jsc (hp.n st_ (by omega) (by omega)) hq34) (ocld_c (by have := jcl; rw [show one = 1 by omega] at this; exact this) (by omega) hq39) (ocl2_c (by have := jc2; rw [show one = 1 by omega] at this; exact this) (by omega) hq40) (by omega) (by omega) (by omega) (by omega) hfr (by omega) hk0
        · cases hv
          rw [hGe]
          change ab_W _ _ _ G 92 [some (vR a), some (vR q), some (vz one), some (vz st_), some (vz (N st_))] [vz 0] _
          refine zz_if_eq (tgt := 114) d_OM_isOfOneMind_92 (by decide) (by decide) (fun c45 => ?_) (fun c45 => absurd c45 (by decide))
          refine zz_iconst d_OM_isOfOneMind_114 ?_
          refine ab_goto (tgt := 119) d_OM_isOfOneMind_115 (by decide) ?_
          refine ab_istore_n d_OM_isOfOneMind_119 (Nat.le_of_ble_eq_true rfl) (Nat.le_of_ble_eq_true rfl) rfl ?_
          change ab_W _ _ _ G 120 [some (vR a), some (vR q), some (vz 1), some (vz st_), some (vz (N st_))] [] _
          refine zz_iinc d_OM_isOfOneMind_120 rfl (Nat.le_of_ble_eq_true rfl) (Nat.le_of_ble_eq_true rfl) rfl ?_
          change ab_W _ _ _ G 123 [some (vR a), some (vR q), some (vz 1), some (vz (st_ + 1)), some (vz (N st_))] [] _
          refine ab_goto (tgt := 67) d_OM_isOfOneMind_123 (by decide) ?_
          refine ab_less (L' := [some (vR a), some (vR q), some (vz 1), some (vz (st_ + 1)), none]) (fun i v h => by rcases i with _ | _ | _ | _ | _ | i <;> first | exact h | (simp at h)) ?_
          exact ih (dp := dp) (stp := stp) (SK := SK) (SE := SE) (CL := CL) (one := 1) (st_ := (st_ + 1)) (nt := nt) (ct := ct) (P := P) ha hse_ hcle hstk hq hki hne hot hra pcsI_tkn (by omega) jsr jcr jsc (ocld_s (by have := jcl; rw [show one = 1 by omega] at this; exact this) (by omega) (fun hk2 => by omega)) (ocl2_s (by have := jc2; rw [show one = 1 by omega] at this; exact this) (by omega) (fun hk2 => by omega)) (by omega) (by omega) (by omega) (by omega) hfr (by omega) hk0
set_option maxRecDepth 100000 in
set_option maxHeartbeats 4000000 in
theorem z0_OM_isOfOneMind {X : ab_X} {d : Nat} {o : Nat → Nat} {G : ab_G} {a : Nat} {wk : Nat} {onw : Nat} {tkn : Nat} {se_ : Nat} {cle : Nat} {stk : Nat} {dp : Int} {fo : Int} {chn : Int} {hw : Int} {fy : Int} {stp : Int} {SK : Int → Int} {q : Nat} {lq : Nat} {ki : Nat} {ne : Nat} {ot : Nat} {cnt : Int} {fi : Int} {la : Int} {ra : Nat} {ru : Int} {gr : Int} {wi : Int} {sz : Int} {fl : Int} {ve : Int} {mi : Int} {na : Nat} {nl : Nat} {K : Int → Int} {N : Int → Int} {O : Int → Int} {RR : Int → Int} {nr : Nat} {sp0 : Value} {s0 : Value} {SE : Int → Int} {CL : Int → Int} {q0 : Value} {nt : Nat} {ct : Int} {P : Int → Prop} (ha : cc o G a 50 (ab_ob 3 [sp0, vR wk, vR onw, vR tkn, vR se_, vR cle, vR stk, vz dp, vz fo, vz chn, q0, s0, vz hw, vz fy, vj stp])) (hse_ : cc o G se_ 55 (za 0 SE)) (hcle : cc o G cle 56 (za 0 CL)) (hstk : cc o G stk 57 (za 0 SK)) (hq : cc o G q lq (ab_ob 5 [vR ki, vR ne, vR ot, vz cnt, vz fi, vz la, vR ra, vz ru, vz gr, vz wi, vz sz, vz fl, vz ve, vz mi, vR na, vR nl])) (hki : cc o G ki (lq + 1) (za 808 K)) (hne : cc o G ne (lq + 2) (za 808 N)) (hot : cc o G ot (lq + 3) (za 808 O)) (hra : cc o G ra (lq + 4) (za nr RR)) (pcsI_tkn : csI o G tkn 53 54 nt ct P) (cq : 100 ≤ lq ∧ 0 ≤ cnt ∧ cnt ≤ 808 ∧ ↑nr ≤ (100000 : Int)) (hp : prok K N O RR cnt ↑nr wi) (hpu : prok K N O RR cnt ru wi) (hr : ∀ k : Int, 0 ≤ k → k < ↑nr → 0 ≤ RR k ∧ RR k ≤ 1114111) (cru : 0 ≤ ru ∧ ru ≤ ↑nr ∧ ru ≤ 50000) (ck9 : K 0 = 9) (cfi : 0 ≤ fi ∧ fi < cnt) (n18 : ab_n0 = 18) (hn : nt ≤ 104000) (rc : G.length + 5100 ≤ ab_n0 + room_1.cells) (rs : ab_slots G + 210500 ≤ room_1.slots + 2 * nt) (hd : 10 ≤ d) : ab_F X d y_OM_isOfOneMind (.code y_OM_isOfOneMind b_OM_isOfOneMind 5 (some (.boolean))) [vR a, vR q] G (fun oc G2 => ∃ o2 : Nat → Nat, ∃ se2 : Nat, ∃ cl2 : Nat, ∃ sk2 : Nat, ∃ dp2 : Int, ∃ st2 : Int, ∃ SK2 : Int → Int, ∃ SE2 : Int → Int, ∃ CL2 : Int → Int, ∃ n2 : Nat, ∃ c2 : Int, ∃ P2 : Int → Prop, ∃ v : Int, oc = .returned (some (vz v)) ∧ fx o o2 [50, 53, 54, 55, 56, 57] G G2 ∧ cc o2 G2 a 50 (ab_ob 3 [sp0, vR wk, vR onw, vR tkn, vR se2, vR cl2, vR sk2, vz dp2, vz fo, vz chn, vR q, s0, vz hw, vz fy, vj st2]) ∧ cc o2 G2 se2 55 (za 808 SE2) ∧ cc o2 G2 cl2 56 (za 808 CL2) ∧ cc o2 G2 sk2 57 (za 809 SK2) ∧ csI o2 G2 tkn 53 54 n2 c2 P2 ∧ (0 ≤ v ∧ v ≤ 1) ∧ (n2 ≤ 104000) ∧ (64 * G2.length + nt ≤ 64 * G.length + n2 + 192) ∧ (ab_slots G2 + 2 * nt ≤ ab_slots G + 2 * n2 + 2425) ∧ (v = 1 → pone K N O cnt fi) ∧ (v = 1 → omC K N O RR cnt fi) ∧ (stp ≤ st2 ∧ st2 ≤ stp + 1616 * (cnt + 1))) := by
  refine ab_F_of (by decide +kernel) (Nat.le_of_ble_eq_true rfl) ?_
  obtain ⟨Q, hQ⟩ : ∃ z : Outcome → ab_G → Prop, z = (fun oc G2 => ∃ o2 : Nat → Nat, ∃ se2 : Nat, ∃ cl2 : Nat, ∃ sk2 : Nat, ∃ dp2 : Int, ∃ st2 : Int, ∃ SK2 : Int → Int, ∃ SE2 : Int → Int, ∃ CL2 : Int → Int, ∃ n2 : Nat, ∃ c2 : Int, ∃ P2 : Int → Prop, ∃ v : Int, oc = .returned (some (vz v)) ∧ fx o o2 [50, 53, 54, 55, 56, 57] G G2 ∧ cc o2 G2 a 50 (ab_ob 3 [sp0, vR wk, vR onw, vR tkn, vR se2, vR cl2, vR sk2, vz dp2, vz fo, vz chn, vR q, s0, vz hw, vz fy, vj st2]) ∧ cc o2 G2 se2 55 (za 808 SE2) ∧ cc o2 G2 cl2 56 (za 808 CL2) ∧ cc o2 G2 sk2 57 (za 809 SK2) ∧ csI o2 G2 tkn 53 54 n2 c2 P2 ∧ (0 ≤ v ∧ v ≤ 1) ∧ (n2 ≤ 104000) ∧ (64 * G2.length + nt ≤ 64 * G.length + n2 + 192) ∧ (ab_slots G2 + 2 * nt ≤ ab_slots G + 2 * n2 + 2425) ∧ (v = 1 → pone K N O cnt fi) ∧ (v = 1 → omC K N O RR cnt fi) ∧ (stp ≤ st2 ∧ st2 ≤ stp + 1616 * (cnt + 1))) := ⟨_, rfl⟩
  rw [← hQ]
  change ab_W X (ab_pl y_OM_isOfOneMind b_OM_isOfOneMind 5 (some (.boolean))) d G 0 [some (vR a), some (vR q), none, none, none] [] Q
  have hfr : fx o o [50, 53, 54, 55, 56, 57] G G := fx.rf
  refine ab_aload_n d_OM_isOfOneMind_0 rfl ?_
  refine ab_aload_n d_OM_isOfOneMind_1 rfl ?_
  refine ab_putf (fs := [sp0, vR wk, vR onw, vR tkn, vR se_, vR cle, vR stk, vz dp, vz fo, vz chn, q0, s0, vz hw, vz fy, vj stp]) f_OM_47 (Or.inl rfl) d_OM_isOfOneMind_2 ha.2.2 (Nat.le_of_ble_eq_true rfl) (fun _ => ⟨rfl, rfl⟩) (ha.2.1 (by decide)) ?_
  obtain ⟨G1, eG1⟩ : ∃ z : ab_G, z = List.set G a (ab_ob 3 [sp0, vR wk, vR onw, vR tkn, vR se_, vR cle, vR stk, vz dp, vz fo, vz chn, vR q, s0, vz hw, vz fy, vj stp]) := ⟨_, rfl⟩
  have hse_ := hse_.keep ha eG1 (by decide)
  have hcle := hcle.keep ha eG1 (by decide)
  have hstk := hstk.keep ha eG1 (by decide)
  have hq := hq.keep ha eG1 (by omega)
  have hki := hki.keep ha eG1 (by omega)
  have hne := hne.keep ha eG1 (by omega)
  have hot := hot.keep ha eG1 (by omega)
  have hra := hra.keep ha eG1 (by omega)
  have hst := (fx.rf (o := o) (S := [50]) (G := G)).wr ha eG1 (List.mem_singleton.mpr rfl)
  have pcsI_tkn := csI.fr hst pcsI_tkn (by decide) (by decide)
  have hq2 := z_len eG1
  have hq3 := z_sl ha eG1 rfl
  have hfr := hfr.wr ha eG1 (by decide)
  have ha := ha.kept eG1
  change ab_W _ _ _ (List.set G a (ab_ob 3 [sp0, vR wk, vR onw, vR tkn, vR se_, vR cle, vR stk, vz dp, vz fo, vz chn, vR q, s0, vz hw, vz fy, vj stp])) 5 [some (vR a), some (vR q), none, none, none] [] _
  rw [← eG1]
  refine ab_aload_n d_OM_isOfOneMind_5 rfl ?_
  refine ab_getf (fs := [sp0, vR wk, vR onw, vR tkn, vR se_, vR cle, vR stk, vz dp, vz fo, vz chn, vR q, s0, vz hw, vz fy, vj stp]) f_OM_28 d_OM_isOfOneMind_6 ha.2.2 rfl ?_
  refine zz_alen d_OM_isOfOneMind_9 hse_ ?_
  change ab_W _ _ _ G1 10 [some (vR a), some (vR q), none, none, none] [vz 0] _
  refine zz_if_ne (tgt := 40) d_OM_isOfOneMind_10 (by decide) (by decide) (fun c4 => absurd c4 (by decide)) (fun c4 => ?_)
  refine ab_aload_n d_OM_isOfOneMind_13 rfl ?_
  refine zz_sipush d_OM_isOfOneMind_14 (by decide) ?_
  refine zz_newI (w := 808) a_int d_OM_isOfOneMind_17 (by decide) (by omega) (by omega) (by omega) ?_
  obtain ⟨G5, eG5⟩ : ∃ z : ab_G, z = G1 ++ [za 808 (fun _ => 0)] := ⟨_, rfl⟩
  obtain ⟨o6, eo6⟩ : ∃ z : Nat → Nat, z = ol o G1.length 55 := ⟨_, rfl⟩
  obtain ⟨a7, ea7⟩ : ∃ z : Nat, z = G1.length := ⟨_, rfl⟩
  have hq8 := hra.n0 (by first | decide | omega)
  have ne_a7_a : nq a7 a := by have hlt := ha.lt; unfold nq; omega
  have ne_a7_se_ : nq a7 se_ := by have hlt := hse_.lt; unfold nq; omega
  have ne_a7_cle : nq a7 cle := by have hlt := hcle.lt; unfold nq; omega
  have ne_a7_stk : nq a7 stk := by have hlt := hstk.lt; unfold nq; omega
  have ne_a7_q : nq a7 q := by have hlt := hq.lt; unfold nq; omega
  have ne_a7_ki : nq a7 ki := by have hlt := hki.lt; unfold nq; omega
  have ne_a7_ne : nq a7 ne := by have hlt := hne.lt; unfold nq; omega
  have ne_a7_ot : nq a7 ot := by have hlt := hot.lt; unfold nq; omega
  have ne_a7_ra : nq a7 ra := by have hlt := hra.lt; unfold nq; omega
  have ha := ha.akeep (k := 55) eG5
  rw [← eo6] at ha
  have hse_ := hse_.akeep (k := 55) eG5
  rw [← eo6] at hse_
  have hcle := hcle.akeep (k := 55) eG5
  rw [← eo6] at hcle
  have hstk := hstk.akeep (k := 55) eG5
  rw [← eo6] at hstk
  have hq := hq.akeep (k := 55) eG5
  rw [← eo6] at hq
  have hki := hki.akeep (k := 55) eG5
  rw [← eo6] at hki
  have hne := hne.akeep (k := 55) eG5
  rw [← eo6] at hne
  have hot := hot.akeep (k := 55) eG5
  rw [← eo6] at hot
  have hra := hra.akeep (k := 55) eG5
  rw [← eo6] at hra
  have hst := (fx.rf (o := o) (S := []) (G := G1)).ap (k := 55) eG5
  rw [← eo6] at hst
  have pcsI_tkn := csI.fr hst pcsI_tkn (by decide) (by decide)
  have ha7 := cc.anew (o := o) 55 eG5 hq8
  rw [← eo6, ← ea7] at ha7
  have hfr := hfr.ap (k := 55) eG5
  rw [← eo6] at hfr
  have hq9 := z_alen eG5
  have hq10 : ab_slots G5 = ab_slots G1 + 808 := z_asl eG5 hq8
  change ab_W _ _ _ (G1 ++ [za 808 (fun _ => 0)]) 19 [some (vR a), some (vR q), none, none, none] [.ref G1.length, vR a] _
  rw [← eG5, ← ea7]
  change ab_W _ _ _ G5 19 [some (vR a), some (vR q), none, none, none] [vR a7, vR a] _
  refine ab_putf (fs := [sp0, vR wk, vR onw, vR tkn, vR se_, vR cle, vR stk, vz dp, vz fo, vz chn, vR q, s0, vz hw, vz fy, vj stp]) f_OM_28 (Or.inl rfl) d_OM_isOfOneMind_19 ha.2.2 (Nat.le_of_ble_eq_true rfl) (fun _ => ⟨rfl, rfl⟩) (ha.2.1 (by decide)) ?_
  obtain ⟨G11, eG11⟩ : ∃ z : ab_G, z = List.set G5 a (ab_ob 3 [sp0, vR wk, vR onw, vR tkn, vR a7, vR cle, vR stk, vz dp, vz fo, vz chn, vR q, s0, vz hw, vz fy, vj stp]) := ⟨_, rfl⟩
  have hse_ := hse_.keep ha eG11 (by decide)
  have hcle := hcle.keep ha eG11 (by decide)
  have hstk := hstk.keep ha eG11 (by decide)
  have hq := hq.keep ha eG11 (by omega)
  have hki := hki.keep ha eG11 (by omega)
  have hne := hne.keep ha eG11 (by omega)
  have hot := hot.keep ha eG11 (by omega)
  have hra := hra.keep ha eG11 (by omega)
  have ha7 := ha7.keep ha eG11 (by decide)
  have hst := (fx.rf (o := o6) (S := [50]) (G := G5)).wr ha eG11 (List.mem_singleton.mpr rfl)
  have pcsI_tkn := csI.fr hst pcsI_tkn (by decide) (by decide)
  have hq12 := z_len eG11
  have hq13 := z_sl ha eG11 rfl
  have hfr := hfr.wr ha eG11 (by decide)
  have ha := ha.kept eG11
  change ab_W _ _ _ (List.set G5 a (ab_ob 3 [sp0, vR wk, vR onw, vR tkn, vR a7, vR cle, vR stk, vz dp, vz fo, vz chn, vR q, s0, vz hw, vz fy, vj stp])) 22 [some (vR a), some (vR q), none, none, none] [] _
  rw [← eG11]
  refine ab_aload_n d_OM_isOfOneMind_22 rfl ?_
  refine zz_sipush d_OM_isOfOneMind_23 (by decide) ?_
  refine zz_newI (w := 808) a_int d_OM_isOfOneMind_26 (by decide) (by omega) (by omega) (by omega) ?_
  obtain ⟨G14, eG14⟩ : ∃ z : ab_G, z = G11 ++ [za 808 (fun _ => 0)] := ⟨_, rfl⟩
  obtain ⟨o15, eo15⟩ : ∃ z : Nat → Nat, z = ol o6 G11.length 56 := ⟨_, rfl⟩
  obtain ⟨a16, ea16⟩ : ∃ z : Nat, z = G11.length := ⟨_, rfl⟩
  have hq17 := ha7.n0 (by first | decide | omega)
  have ne_a16_a : nq a16 a := by have hlt := ha.lt; unfold nq; omega
  have ne_a16_se_ : nq a16 se_ := by have hlt := hse_.lt; unfold nq; omega
  have ne_a16_cle : nq a16 cle := by have hlt := hcle.lt; unfold nq; omega
  have ne_a16_stk : nq a16 stk := by have hlt := hstk.lt; unfold nq; omega
  have ne_a16_q : nq a16 q := by have hlt := hq.lt; unfold nq; omega
  have ne_a16_ki : nq a16 ki := by have hlt := hki.lt; unfold nq; omega
  have ne_a16_ne : nq a16 ne := by have hlt := hne.lt; unfold nq; omega
  have ne_a16_ot : nq a16 ot := by have hlt := hot.lt; unfold nq; omega
  have ne_a16_ra : nq a16 ra := by have hlt := hra.lt; unfold nq; omega
  have ne_a16_a7 : nq a16 a7 := by have hlt := ha7.lt; unfold nq; omega
  have ha := ha.akeep (k := 56) eG14
  rw [← eo15] at ha
  have hse_ := hse_.akeep (k := 56) eG14
  rw [← eo15] at hse_
  have hcle := hcle.akeep (k := 56) eG14
  rw [← eo15] at hcle
  have hstk := hstk.akeep (k := 56) eG14
  rw [← eo15] at hstk
  have hq := hq.akeep (k := 56) eG14
  rw [← eo15] at hq
  have hki := hki.akeep (k := 56) eG14
  rw [← eo15] at hki
  have hne := hne.akeep (k := 56) eG14
  rw [← eo15] at hne
  have hot := hot.akeep (k := 56) eG14
  rw [← eo15] at hot
  have hra := hra.akeep (k := 56) eG14
  rw [← eo15] at hra
  have ha7 := ha7.akeep (k := 56) eG14
  rw [← eo15] at ha7
  have hst := (fx.rf (o := o6) (S := []) (G := G11)).ap (k := 56) eG14
  rw [← eo15] at hst
  have pcsI_tkn := csI.fr hst pcsI_tkn (by decide) (by decide)
  have ha16 := cc.anew (o := o6) 56 eG14 hq17
  rw [← eo15, ← ea16] at ha16
  have hfr := hfr.ap (k := 56) eG14
  rw [← eo15] at hfr
  have hq18 := z_alen eG14
  have hq19 : ab_slots G14 = ab_slots G11 + 808 := z_asl eG14 hq17
  change ab_W _ _ _ (G11 ++ [za 808 (fun _ => 0)]) 28 [some (vR a), some (vR q), none, none, none] [.ref G11.length, vR a] _
  rw [← eG14, ← ea16]
  change ab_W _ _ _ G14 28 [some (vR a), some (vR q), none, none, none] [vR a16, vR a] _
  refine ab_putf (fs := [sp0, vR wk, vR onw, vR tkn, vR a7, vR cle, vR stk, vz dp, vz fo, vz chn, vR q, s0, vz hw, vz fy, vj stp]) f_OM_31 (Or.inl rfl) d_OM_isOfOneMind_28 ha.2.2 (Nat.le_of_ble_eq_true rfl) (fun _ => ⟨rfl, rfl⟩) (ha.2.1 (by decide)) ?_
  obtain ⟨G20, eG20⟩ : ∃ z : ab_G, z = List.set G14 a (ab_ob 3 [sp0, vR wk, vR onw, vR tkn, vR a7, vR a16, vR stk, vz dp, vz fo, vz chn, vR q, s0, vz hw, vz fy, vj stp]) := ⟨_, rfl⟩
  have hse_ := hse_.keep ha eG20 (by decide)
  have hcle := hcle.keep ha eG20 (by decide)
  have hstk := hstk.keep ha eG20 (by decide)
  have hq := hq.keep ha eG20 (by omega)
  have hki := hki.keep ha eG20 (by omega)
  have hne := hne.keep ha eG20 (by omega)
  have hot := hot.keep ha eG20 (by omega)
  have hra := hra.keep ha eG20 (by omega)
  have ha7 := ha7.keep ha eG20 (by decide)
  have ha16 := ha16.keep ha eG20 (by decide)
  have hst := (fx.rf (o := o15) (S := [50]) (G := G14)).wr ha eG20 (List.mem_singleton.mpr rfl)
  have pcsI_tkn := csI.fr hst pcsI_tkn (by decide) (by decide)
  have hq21 := z_len eG20
  have hq22 := z_sl ha eG20 rfl
  have hfr := hfr.wr ha eG20 (by decide)
  have ha := ha.kept eG20
  change ab_W _ _ _ (List.set G14 a (ab_ob 3 [sp0, vR wk, vR onw, vR tkn, vR a7, vR a16, vR stk, vz dp, vz fo, vz chn, vR q, s0, vz hw, vz fy, vj stp])) 31 [some (vR a), some (vR q), none, none, none] [] _
  rw [← eG20]
  refine ab_aload_n d_OM_isOfOneMind_31 rfl ?_
  refine zz_sipush d_OM_isOfOneMind_32 (by decide) ?_
  refine zz_newI (w := 809) a_int d_OM_isOfOneMind_35 (by decide) (by omega) (by omega) (by omega) ?_
  obtain ⟨G23, eG23⟩ : ∃ z : ab_G, z = G20 ++ [za 809 (fun _ => 0)] := ⟨_, rfl⟩
  obtain ⟨o24, eo24⟩ : ∃ z : Nat → Nat, z = ol o15 G20.length 57 := ⟨_, rfl⟩
  obtain ⟨a25, ea25⟩ : ∃ z : Nat, z = G20.length := ⟨_, rfl⟩
  have hq26 := ha16.n0 (by first | decide | omega)
  have ne_a25_a : nq a25 a := by have hlt := ha.lt; unfold nq; omega
  have ne_a25_se_ : nq a25 se_ := by have hlt := hse_.lt; unfold nq; omega
  have ne_a25_cle : nq a25 cle := by have hlt := hcle.lt; unfold nq; omega
  have ne_a25_stk : nq a25 stk := by have hlt := hstk.lt; unfold nq; omega
  have ne_a25_q : nq a25 q := by have hlt := hq.lt; unfold nq; omega
  have ne_a25_ki : nq a25 ki := by have hlt := hki.lt; unfold nq; omega
  have ne_a25_ne : nq a25 ne := by have hlt := hne.lt; unfold nq; omega
  have ne_a25_ot : nq a25 ot := by have hlt := hot.lt; unfold nq; omega
  have ne_a25_ra : nq a25 ra := by have hlt := hra.lt; unfold nq; omega
  have ne_a25_a7 : nq a25 a7 := by have hlt := ha7.lt; unfold nq; omega
  have ne_a25_a16 : nq a25 a16 := by have hlt := ha16.lt; unfold nq; omega
  have ha := ha.akeep (k := 57) eG23
  rw [← eo24] at ha
  have hse_ := hse_.akeep (k := 57) eG23
  rw [← eo24] at hse_
  have hcle := hcle.akeep (k := 57) eG23
  rw [← eo24] at hcle
  have hstk := hstk.akeep (k := 57) eG23
  rw [← eo24] at hstk
  have hq := hq.akeep (k := 57) eG23
  rw [← eo24] at hq
  have hki := hki.akeep (k := 57) eG23
  rw [← eo24] at hki
  have hne := hne.akeep (k := 57) eG23
  rw [← eo24] at hne
  have hot := hot.akeep (k := 57) eG23
  rw [← eo24] at hot
  have hra := hra.akeep (k := 57) eG23
  rw [← eo24] at hra
  have ha7 := ha7.akeep (k := 57) eG23
  rw [← eo24] at ha7
  have ha16 := ha16.akeep (k := 57) eG23
  rw [← eo24] at ha16
  have hst := (fx.rf (o := o15) (S := []) (G := G20)).ap (k := 57) eG23
  rw [← eo24] at hst
  have pcsI_tkn := csI.fr hst pcsI_tkn (by decide) (by decide)
  have ha25 := cc.anew (o := o15) 57 eG23 hq26
  rw [← eo24, ← ea25] at ha25
  have hfr := hfr.ap (k := 57) eG23
  rw [← eo24] at hfr
  have hq27 := z_alen eG23
  have hq28 : ab_slots G23 = ab_slots G20 + 809 := z_asl eG23 hq26
  change ab_W _ _ _ (G20 ++ [za 809 (fun _ => 0)]) 37 [some (vR a), some (vR q), none, none, none] [.ref G20.length, vR a] _
  rw [← eG23, ← ea25]
  change ab_W _ _ _ G23 37 [some (vR a), some (vR q), none, none, none] [vR a25, vR a] _
  refine ab_putf (fs := [sp0, vR wk, vR onw, vR tkn, vR a7, vR a16, vR stk, vz dp, vz fo, vz chn, vR q, s0, vz hw, vz fy, vj stp]) f_OM_34 (Or.inl rfl) d_OM_isOfOneMind_37 ha.2.2 (Nat.le_of_ble_eq_true rfl) (fun _ => ⟨rfl, rfl⟩) (ha.2.1 (by decide)) ?_
  obtain ⟨G29, eG29⟩ : ∃ z : ab_G, z = List.set G23 a (ab_ob 3 [sp0, vR wk, vR onw, vR tkn, vR a7, vR a16, vR a25, vz dp, vz fo, vz chn, vR q, s0, vz hw, vz fy, vj stp]) := ⟨_, rfl⟩
  have hse_ := hse_.keep ha eG29 (by decide)
  have hcle := hcle.keep ha eG29 (by decide)
  have hstk := hstk.keep ha eG29 (by decide)
  have hq := hq.keep ha eG29 (by omega)
  have hki := hki.keep ha eG29 (by omega)
  have hne := hne.keep ha eG29 (by omega)
  have hot := hot.keep ha eG29 (by omega)
  have hra := hra.keep ha eG29 (by omega)
  have ha7 := ha7.keep ha eG29 (by decide)
  have ha16 := ha16.keep ha eG29 (by decide)
  have ha25 := ha25.keep ha eG29 (by decide)
  have hst := (fx.rf (o := o24) (S := [50]) (G := G23)).wr ha eG29 (List.mem_singleton.mpr rfl)
  have pcsI_tkn := csI.fr hst pcsI_tkn (by decide) (by decide)
  have hq30 := z_len eG29
  have hq31 := z_sl ha eG29 rfl
  have hfr := hfr.wr ha eG29 (by decide)
  have ha := ha.kept eG29
  change ab_W _ _ _ (List.set G23 a (ab_ob 3 [sp0, vR wk, vR onw, vR tkn, vR a7, vR a16, vR a25, vz dp, vz fo, vz chn, vR q, s0, vz hw, vz fy, vj stp])) 40 [some (vR a), some (vR q), none, none, none] [] _
  rw [← eG29]
  refine ab_aload_n d_OM_isOfOneMind_40 rfl ?_
  refine ab_getf (fs := [sp0, vR wk, vR onw, vR tkn, vR a7, vR a16, vR a25, vz dp, vz fo, vz chn, vR q, s0, vz hw, vz fy, vj stp]) f_OM_28 d_OM_isOfOneMind_41 ha.2.2 rfl ?_
  refine zz_iconst d_OM_isOfOneMind_44 ?_
  refine ab_callS (d' := d - 1) (as := [vR a7, vz (-1)]) (st := []) (z_AR_fill (o := o24) (a := a7) (l := 55) (n := 808) (f := (fun _ => 0)) (v := (-1)) ha7 (by have h18 : ab_n0 = 18 := rfl; omega)) (fun oc G2 h => by rcases h with ⟨h, _⟩ <;> exact ⟨_, h⟩) (by omega) m_AR_fill ml_OM_51 st_AR_fill (Nat.le_of_ble_eq_true rfl) d_OM_isOfOneMind_45 rfl ?_
  intro v G32 hq
  rcases hq with ⟨hv, hfk, hlk, hsk, hNa7⟩
  cases hv
  have ha := hfk.get ha (by decide)
  have hcle := hfk.get hcle (by decide)
  have hstk := hfk.get hstk (by decide)
  have hq := hfk.get hq (by simp only [List.mem_cons, List.not_mem_nil, or_false]; omega)
  have hki := hfk.get hki (by simp only [List.mem_cons, List.not_mem_nil, or_false]; omega)
  have hne := hfk.get hne (by simp only [List.mem_cons, List.not_mem_nil, or_false]; omega)
  have hot := hfk.get hot (by simp only [List.mem_cons, List.not_mem_nil, or_false]; omega)
  have hra := hfk.get hra (by simp only [List.mem_cons, List.not_mem_nil, or_false]; omega)
  have ha16 := hfk.get ha16 (by decide)
  have ha25 := hfk.get ha25 (by decide)
  have pcsI_tkn := csI.fr hfk pcsI_tkn (by decide) (by decide)
  have hfr := hfr.tr hfk (by decide)
  have hq33 := hlk
  have hq34 := hsk
  have ha7 := hNa7
  change ab_W _ _ _ G32 48 [some (vR a), some (vR q), none, none, none] [] _
  refine ab_aload_n d_OM_isOfOneMind_48 rfl ?_
  refine ab_getf (fs := [sp0, vR wk, vR onw, vR tkn, vR a7, vR a16, vR a25, vz dp, vz fo, vz chn, vR q, s0, vz hw, vz fy, vj stp]) f_OM_31 d_OM_isOfOneMind_49 ha.2.2 rfl ?_
  refine zz_iconst d_OM_isOfOneMind_52 ?_
  refine ab_callS (d' := d - 1) (as := [vR a16, vz 0]) (st := []) (z_AR_fill (o := o24) (a := a16) (l := 56) (n := 808) (f := (fun _ => 0)) (v := 0) ha16 (by have h18 : ab_n0 = 18 := rfl; omega)) (fun oc G2 h => by rcases h with ⟨h, _⟩ <;> exact ⟨_, h⟩) (by omega) m_AR_fill ml_OM_51 st_AR_fill (Nat.le_of_ble_eq_true rfl) d_OM_isOfOneMind_53 rfl ?_
  intro v G35 hq
  rcases hq with ⟨hv, hfk, hlk, hsk, hNa16⟩
  cases hv
  have ha := hfk.get ha (by decide)
  have hstk := hfk.get hstk (by decide)
  have hq := hfk.get hq (by simp only [List.mem_cons, List.not_mem_nil, or_false]; omega)
  have hki := hfk.get hki (by simp only [List.mem_cons, List.not_mem_nil, or_false]; omega)
  have hne := hfk.get hne (by simp only [List.mem_cons, List.not_mem_nil, or_false]; omega)
  have hot := hfk.get hot (by simp only [List.mem_cons, List.not_mem_nil, or_false]; omega)
  have hra := hfk.get hra (by simp only [List.mem_cons, List.not_mem_nil, or_false]; omega)
  have ha7 := hfk.get ha7 (by decide)
  have ha25 := hfk.get ha25 (by decide)
  have pcsI_tkn := csI.fr hfk pcsI_tkn (by decide) (by decide)
  have hfr := hfr.tr hfk (by decide)
  have hq36 := hlk
  have hq37 := hsk
  have ha16 := hNa16
  change ab_W _ _ _ G35 56 [some (vR a), some (vR q), none, none, none] [] _
  refine ab_aload_n d_OM_isOfOneMind_56 rfl ?_
  refine ab_aload_n d_OM_isOfOneMind_57 rfl ?_
  refine ab_getf (fs := [vR ki, vR ne, vR ot, vz cnt, vz fi, vz la, vR ra, vz ru, vz gr, vz wi, vz sz, vz fl, vz ve, vz mi, vR na, vR nl]) f_OM_57 d_OM_isOfOneMind_58 hq.2.2 rfl ?_
  refine ab_callV (d' := d - 1) (as := [vz fi]) (st := []) (r := _) (z_OM_isClearFrom (o := o24) (a := a) (wk := wk) (onw := onw) (tkn := tkn) (se_ := a7) (cle := a16) (stk := a25) (dp := dp) (fo := fo) (chn := chn) (hw := hw) (fy := fy) (stp := stp) (SK := (fun _ => 0)) (q := q) (lq := lq) (ki := ki) (ne := ne) (ot := ot) (cnt := cnt) (fi := fi) (la := la) (ra := ra) (ru := ru) (gr := gr) (wi := wi) (sz := sz) (fl := fl) (ve := ve) (mi := mi) (na := na) (nl := nl) (K := K) (N := N) (O := O) (RR := RR) (nr := nr) (sp0 := sp0) (s0 := s0) (SE := (zfill (fun _ => 0) 0 ↑808 (-1))) (CL := (zfill (fun _ => 0) 0 ↑808 0)) (b0 := fi) (nt := nt) (ct := ct) (P := P) ha ha7 ha25 hq hki hne hot hra ha16 pcsI_tkn (by omega) hp hpu hr (by omega) (by omega) (by omega) (rgs_fill (rgs_c (by omega)) (by omega)) (oseen_n (oseen_0 (CL := fun _ => 0) (by omega)) (by omega) rfl) (by omega) (by omega) (by omega) (by omega)) (fun oc G2 h => by rcases h with ⟨_, _, _, _, _, _, _, _, h, _⟩ | ⟨_, _, _, _, _, _, _, _, h, _⟩ <;> exact ⟨_, h⟩) (by omega) m_OM_isClearFrom ml_OM_60 im_OM_isClearFrom se_OM_isClearFrom c_OM ha.2.2 (Nat.le_of_ble_eq_true rfl) d_OM_isOfOneMind_61 rfl ?_
  intro v G38 hq
  rcases hq with ⟨o39, dp240, st241, SK242, SE243, n244, c245, P246, hv, hfk, hNa, hNa7, hNa25, hNa16, pNcsI_tkn, hq47, hq48, hq49, hq50, hq51, hq52⟩ | ⟨o53, dp254, st255, SK256, SE257, n258, c259, P260, hv, hfk, hNa, hNa7, hNa25, hNa16, pNcsI_tkn, hq61, hq62, hq63, hq64, hq65, hq66, hq67, hq68⟩
  · cases hv
    have hq := hfk.get hq (by simp only [List.mem_cons, List.not_mem_nil, or_false]; omega)
    have hki := hfk.get hki (by simp only [List.mem_cons, List.not_mem_nil, or_false]; omega)
    have hne := hfk.get hne (by simp only [List.mem_cons, List.not_mem_nil, or_false]; omega)
    have hot := hfk.get hot (by simp only [List.mem_cons, List.not_mem_nil, or_false]; omega)
    have hra := hfk.get hra (by simp only [List.mem_cons, List.not_mem_nil, or_false]; omega)
    have pcsI_tkn := pNcsI_tkn
    have hfr := hfr.tr hfk (by decide)
    have hq69 := hfk.1
    have ha := hNa
    have ha7 := hNa7
    have ha25 := hNa25
    have ha16 := hNa16
    change ab_W _ _ _ G38 64 [some (vR a), some (vR q), none, none, none] [vz 0] _
    refine ab_istore_n d_OM_isOfOneMind_64 (Nat.le_of_ble_eq_true rfl) (Nat.le_of_ble_eq_true rfl) rfl ?_
    change ab_W _ _ _ G38 65 [some (vR a), some (vR q), some (vz 0), none, none] [] _
    refine zz_iconst d_OM_isOfOneMind_65 ?_
    refine ab_istore_n d_OM_isOfOneMind_66 (Nat.le_of_ble_eq_true rfl) (Nat.le_of_ble_eq_true rfl) rfl ?_
    change ab_W _ _ _ G38 67 [some (vR a), some (vR q), some (vz 0), some (vz 0), none] [] _
    refine y_OM_isOfOneMind_67 (a := a) (wk := wk) (onw := onw) (tkn := tkn) (se_ := a7) (cle := a16) (stk := a25) (fo := fo) (chn := chn) (hw := hw) (fy := fy) (q := q) (lq := lq) (ki := ki) (ne := ne) (ot := ot) (cnt := cnt) (fi := fi) (la := la) (ra := ra) (ru := ru) (gr := gr) (wi := wi) (sz := sz) (fl := fl) (ve := ve) (mi := mi) (na := na) (nl := nl) (K := K) (N := N) (O := O) (RR := RR) (nr := nr) (sp0 := sp0) (s0 := s0) (n0 := nt) (ex := 192) (exs := 2425) (st0 := st241) (dp := dp240) (stp := st241) (SK := SK242) (SE := SE243) (CL := (zu (zfill (fun _ => 0) 0 ↑808 0) fi 1)) (one := 0) (st_ := 0) (nt := n244) (ct := c245) (P := P246) (by omega) hp hpu hr (by omega) (by omega) (by omega) (by omega) (by omega) (by omega) (by omega) (Int.toNat (cnt - 0) + 1) ha ha7 ha16 ha25 hq hki hne hot hra pcsI_tkn (by omega) hq47 (rgs_zu (rgs_fill (rgs_c (by omega)) (by omega)) (by omega)) (oseen_s (oseen_0 (CL := (zfill (fun _ => 0) 0 ↑808 0)) (by omega)) cfi hq48) ocld_no ocl2_no (by omega) (by omega) (by omega) (by omega) hfr (by omega) (fun G71 o72 one273 dp274 st275 SK276 SE277 CL278 n279 c280 P281 ha ha7 ha16 ha25 pcsI_tkn hq82 hq83 hq84 hq85 hq86 hq87 hq88 hfr => ?_)
    · change ab_W _ _ _ G71 126 [none, none, some (vz one273), none, none] [] _
      refine ab_iload_n d_OM_isOfOneMind_126 rfl ?_
      refine zz_bret rfl (by omega) d_OM_isOfOneMind_127 ?_
      rw [hQ]; exact ⟨_, _, _, _, _, _, _, _, _, _, _, _, _, rfl, hfr, ha, ha7, ha16, ha25, pcsI_tkn, (by omega), (by omega), (by omega), (by omega), (by exact hq86), (by exact hq87), (by omega)⟩
  · cases hv
    have hq := hfk.get hq (by simp only [List.mem_cons, List.not_mem_nil, or_false]; omega)
    have hki := hfk.get hki (by simp only [List.mem_cons, List.not_mem_nil, or_false]; omega)
    have hne := hfk.get hne (by simp only [List.mem_cons, List.not_mem_nil, or_false]; omega)
    have hot := hfk.get hot (by simp only [List.mem_cons, List.not_mem_nil, or_false]; omega)
    have hra := hfk.get hra (by simp only [List.mem_cons, List.not_mem_nil, or_false]; omega)
    have pcsI_tkn := pNcsI_tkn
    have hfr := hfr.tr hfk (by decide)
    have hq70 := hfk.1
    have ha := hNa
    have ha7 := hNa7
    have ha25 := hNa25
    have ha16 := hNa16
    change ab_W _ _ _ G38 64 [some (vR a), some (vR q), none, none, none] [vz 1] _
    refine ab_istore_n d_OM_isOfOneMind_64 (Nat.le_of_ble_eq_true rfl) (Nat.le_of_ble_eq_true rfl) rfl ?_
    change ab_W _ _ _ G38 65 [some (vR a), some (vR q), some (vz 1), none, none] [] _
    refine zz_iconst d_OM_isOfOneMind_65 ?_
    refine ab_istore_n d_OM_isOfOneMind_66 (Nat.le_of_ble_eq_true rfl) (Nat.le_of_ble_eq_true rfl) rfl ?_
    change ab_W _ _ _ G38 67 [some (vR a), some (vR q), some (vz 1), some (vz 0), none] [] _
    refine y_OM_isOfOneMind_67 (a := a) (wk := wk) (onw := onw) (tkn := tkn) (se_ := a7) (cle := a16) (stk := a25) (fo := fo) (chn := chn) (hw := hw) (fy := fy) (q := q) (lq := lq) (ki := ki) (ne := ne) (ot := ot) (cnt := cnt) (fi := fi) (la := la) (ra := ra) (ru := ru) (gr := gr) (wi := wi) (sz := sz) (fl := fl) (ve := ve) (mi := mi) (na := na) (nl := nl) (K := K) (N := N) (O := O) (RR := RR) (nr := nr) (sp0 := sp0) (s0 := s0) (n0 := nt) (ex := 192) (exs := 2425) (st0 := st255) (dp := dp254) (stp := st255) (SK := SK256) (SE := SE257) (CL := (zu (zfill (fun _ => 0) 0 ↑808 0) fi 1)) (one := 1) (st_ := 0) (nt := n258) (ct := c259) (P := P260) (by omega) hp hpu hr (by omega) (by omega) (by omega) (by omega) (by omega) (by omega) (by omega) (Int.toNat (cnt - 0) + 1) ha ha7 ha16 ha25 hq hki hne hot hra pcsI_tkn (by omega) hq61 (rgs_zu (rgs_fill (rgs_c (by omega)) (by omega)) (by omega)) (oseen_s (oseen_0 (CL := (zfill (fun _ => 0) 0 ↑808 0)) (by omega)) cfi hq62) (ocld_0 hq67 (fun b_ h0 h1 => zfill_in (by omega))) (ocl2_0 hq68 (fun b_ h0 h1 => zfill_in (by omega))) (by omega) (by omega) (by omega) (by omega) hfr (by omega) (fun G89 o90 one291 dp292 st293 SK294 SE295 CL296 n297 c298 P299 ha ha7 ha16 ha25 pcsI_tkn hq100 hq101 hq102 hq103 hq104 hq105 hq106 hfr => ?_)
    · change ab_W _ _ _ G89 126 [none, none, some (vz one291), none, none] [] _
      refine ab_iload_n d_OM_isOfOneMind_126 rfl ?_
      refine zz_bret rfl (by omega) d_OM_isOfOneMind_127 ?_
      rw [hQ]; exact ⟨_, _, _, _, _, _, _, _, _, _, _, _, _, rfl, hfr, ha, ha7, ha16, ha25, pcsI_tkn, (by omega), (by omega), (by omega), (by omega), (by exact hq104), (by exact hq105), (by omega)⟩
set_option maxRecDepth 100000 in
set_option maxHeartbeats 4000000 in
theorem z1_OM_isOfOneMind {X : ab_X} {d : Nat} {o : Nat → Nat} {G : ab_G} {a : Nat} {wk : Nat} {onw : Nat} {tkn : Nat} {se_ : Nat} {cle : Nat} {stk : Nat} {dp : Int} {fo : Int} {chn : Int} {hw : Int} {fy : Int} {stp : Int} {SK : Int → Int} {q : Nat} {lq : Nat} {ki : Nat} {ne : Nat} {ot : Nat} {cnt : Int} {fi : Int} {la : Int} {ra : Nat} {ru : Int} {gr : Int} {wi : Int} {sz : Int} {fl : Int} {ve : Int} {mi : Int} {na : Nat} {nl : Nat} {K : Int → Int} {N : Int → Int} {O : Int → Int} {RR : Int → Int} {nr : Nat} {sp0 : Value} {s0 : Value} {SE : Int → Int} {CL : Int → Int} {q0 : Value} {nt : Nat} {ct : Int} {P : Int → Prop} (ha : cc o G a 50 (ab_ob 3 [sp0, vR wk, vR onw, vR tkn, vR se_, vR cle, vR stk, vz dp, vz fo, vz chn, q0, s0, vz hw, vz fy, vj stp])) (hse_ : cc o G se_ 55 (za 808 SE)) (hcle : cc o G cle 56 (za 808 CL)) (hstk : cc o G stk 57 (za 809 SK)) (hq : cc o G q lq (ab_ob 5 [vR ki, vR ne, vR ot, vz cnt, vz fi, vz la, vR ra, vz ru, vz gr, vz wi, vz sz, vz fl, vz ve, vz mi, vR na, vR nl])) (hki : cc o G ki (lq + 1) (za 808 K)) (hne : cc o G ne (lq + 2) (za 808 N)) (hot : cc o G ot (lq + 3) (za 808 O)) (hra : cc o G ra (lq + 4) (za nr RR)) (pcsI_tkn : csI o G tkn 53 54 nt ct P) (cq : 100 ≤ lq ∧ 0 ≤ cnt ∧ cnt ≤ 808 ∧ ↑nr ≤ (100000 : Int)) (hp : prok K N O RR cnt ↑nr wi) (hpu : prok K N O RR cnt ru wi) (hr : ∀ k : Int, 0 ≤ k → k < ↑nr → 0 ≤ RR k ∧ RR k ≤ 1114111) (cru : 0 ≤ ru ∧ ru ≤ ↑nr ∧ ru ≤ 50000) (ck9 : K 0 = 9) (cfi : 0 ≤ fi ∧ fi < cnt) (n18 : ab_n0 = 18) (hn : nt ≤ 104000) (rc : G.length + 5100 ≤ ab_n0 + room_1.cells) (rs : ab_slots G + 210500 ≤ room_1.slots + 2 * nt) (hd : 10 ≤ d) : ab_F X d y_OM_isOfOneMind (.code y_OM_isOfOneMind b_OM_isOfOneMind 5 (some (.boolean))) [vR a, vR q] G (fun oc G2 => ∃ o2 : Nat → Nat, ∃ dp2 : Int, ∃ st2 : Int, ∃ SK2 : Int → Int, ∃ SE2 : Int → Int, ∃ CL2 : Int → Int, ∃ n2 : Nat, ∃ c2 : Int, ∃ P2 : Int → Prop, ∃ v : Int, oc = .returned (some (vz v)) ∧ fx o o2 [50, 53, 54, 55, 56, 57] G G2 ∧ cc o2 G2 a 50 (ab_ob 3 [sp0, vR wk, vR onw, vR tkn, vR se_, vR cle, vR stk, vz dp2, vz fo, vz chn, vR q, s0, vz hw, vz fy, vj st2]) ∧ cc o2 G2 se_ 55 (za 808 SE2) ∧ cc o2 G2 cle 56 (za 808 CL2) ∧ cc o2 G2 stk 57 (za 809 SK2) ∧ csI o2 G2 tkn 53 54 n2 c2 P2 ∧ (0 ≤ v ∧ v ≤ 1) ∧ (n2 ≤ 104000) ∧ (64 * G2.length + nt ≤ 64 * G.length + n2 + 0) ∧ (ab_slots G2 + 2 * nt ≤ ab_slots G + 2 * n2 + 0) ∧ (v = 1 → pone K N O cnt fi) ∧ (v = 1 → omC K N O RR cnt fi) ∧ (stp ≤ st2 ∧ st2 ≤ stp + 1616 * (cnt + 1))) := by
  refine ab_F_of (by decide +kernel) (Nat.le_of_ble_eq_true rfl) ?_
  obtain ⟨Q, hQ⟩ : ∃ z : Outcome → ab_G → Prop, z = (fun oc G2 => ∃ o2 : Nat → Nat, ∃ dp2 : Int, ∃ st2 : Int, ∃ SK2 : Int → Int, ∃ SE2 : Int → Int, ∃ CL2 : Int → Int, ∃ n2 : Nat, ∃ c2 : Int, ∃ P2 : Int → Prop, ∃ v : Int, oc = .returned (some (vz v)) ∧ fx o o2 [50, 53, 54, 55, 56, 57] G G2 ∧ cc o2 G2 a 50 (ab_ob 3 [sp0, vR wk, vR onw, vR tkn, vR se_, vR cle, vR stk, vz dp2, vz fo, vz chn, vR q, s0, vz hw, vz fy, vj st2]) ∧ cc o2 G2 se_ 55 (za 808 SE2) ∧ cc o2 G2 cle 56 (za 808 CL2) ∧ cc o2 G2 stk 57 (za 809 SK2) ∧ csI o2 G2 tkn 53 54 n2 c2 P2 ∧ (0 ≤ v ∧ v ≤ 1) ∧ (n2 ≤ 104000) ∧ (64 * G2.length + nt ≤ 64 * G.length + n2 + 0) ∧ (ab_slots G2 + 2 * nt ≤ ab_slots G + 2 * n2 + 0) ∧ (v = 1 → pone K N O cnt fi) ∧ (v = 1 → omC K N O RR cnt fi) ∧ (stp ≤ st2 ∧ st2 ≤ stp + 1616 * (cnt + 1))) := ⟨_, rfl⟩
  rw [← hQ]
  change ab_W X (ab_pl y_OM_isOfOneMind b_OM_isOfOneMind 5 (some (.boolean))) d G 0 [some (vR a), some (vR q), none, none, none] [] Q
  have hfr : fx o o [50, 53, 54, 55, 56, 57] G G := fx.rf
  refine ab_aload_n d_OM_isOfOneMind_0 rfl ?_
  refine ab_aload_n d_OM_isOfOneMind_1 rfl ?_
  refine ab_putf (fs := [sp0, vR wk, vR onw, vR tkn, vR se_, vR cle, vR stk, vz dp, vz fo, vz chn, q0, s0, vz hw, vz fy, vj stp]) f_OM_47 (Or.inl rfl) d_OM_isOfOneMind_2 ha.2.2 (Nat.le_of_ble_eq_true rfl) (fun _ => ⟨rfl, rfl⟩) (ha.2.1 (by decide)) ?_
  obtain ⟨G1, eG1⟩ : ∃ z : ab_G, z = List.set G a (ab_ob 3 [sp0, vR wk, vR onw, vR tkn, vR se_, vR cle, vR stk, vz dp, vz fo, vz chn, vR q, s0, vz hw, vz fy, vj stp]) := ⟨_, rfl⟩
  have hse_ := hse_.keep ha eG1 (by decide)
  have hcle := hcle.keep ha eG1 (by decide)
  have hstk := hstk.keep ha eG1 (by decide)
  have hq := hq.keep ha eG1 (by omega)
  have hki := hki.keep ha eG1 (by omega)
  have hne := hne.keep ha eG1 (by omega)
  have hot := hot.keep ha eG1 (by omega)
  have hra := hra.keep ha eG1 (by omega)
  have hst := (fx.rf (o := o) (S := [50]) (G := G)).wr ha eG1 (List.mem_singleton.mpr rfl)
  have pcsI_tkn := csI.fr hst pcsI_tkn (by decide) (by decide)
  have hq2 := z_len eG1
  have hq3 := z_sl ha eG1 rfl
  have hfr := hfr.wr ha eG1 (by decide)
  have ha := ha.kept eG1
  change ab_W _ _ _ (List.set G a (ab_ob 3 [sp0, vR wk, vR onw, vR tkn, vR se_, vR cle, vR stk, vz dp, vz fo, vz chn, vR q, s0, vz hw, vz fy, vj stp])) 5 [some (vR a), some (vR q), none, none, none] [] _
  rw [← eG1]
  refine ab_aload_n d_OM_isOfOneMind_5 rfl ?_
  refine ab_getf (fs := [sp0, vR wk, vR onw, vR tkn, vR se_, vR cle, vR stk, vz dp, vz fo, vz chn, vR q, s0, vz hw, vz fy, vj stp]) f_OM_28 d_OM_isOfOneMind_6 ha.2.2 rfl ?_
  refine zz_alen d_OM_isOfOneMind_9 hse_ ?_
  change ab_W _ _ _ G1 10 [some (vR a), some (vR q), none, none, none] [vz 808] _
  refine zz_if_ne (tgt := 40) d_OM_isOfOneMind_10 (by decide) (by decide) (fun c4 => ?_) (fun c4 => absurd c4 (by decide))
  refine ab_aload_n d_OM_isOfOneMind_40 rfl ?_
  refine ab_getf (fs := [sp0, vR wk, vR onw, vR tkn, vR se_, vR cle, vR stk, vz dp, vz fo, vz chn, vR q, s0, vz hw, vz fy, vj stp]) f_OM_28 d_OM_isOfOneMind_41 ha.2.2 rfl ?_
  refine zz_iconst d_OM_isOfOneMind_44 ?_
  refine ab_callS (d' := d - 1) (as := [vR se_, vz (-1)]) (st := []) (z_AR_fill (o := o) (a := se_) (l := 55) (n := 808) (f := SE) (v := (-1)) hse_ (by have h18 : ab_n0 = 18 := rfl; omega)) (fun oc G2 h => by rcases h with ⟨h, _⟩ <;> exact ⟨_, h⟩) (by omega) m_AR_fill ml_OM_51 st_AR_fill (Nat.le_of_ble_eq_true rfl) d_OM_isOfOneMind_45 rfl ?_
  intro v G5 hq
  rcases hq with ⟨hv, hfk, hlk, hsk, hNse_⟩
  cases hv
  have ha := hfk.get ha (by decide)
  have hcle := hfk.get hcle (by decide)
  have hstk := hfk.get hstk (by decide)
  have hq := hfk.get hq (by simp only [List.mem_cons, List.not_mem_nil, or_false]; omega)
  have hki := hfk.get hki (by simp only [List.mem_cons, List.not_mem_nil, or_false]; omega)
  have hne := hfk.get hne (by simp only [List.mem_cons, List.not_mem_nil, or_false]; omega)
  have hot := hfk.get hot (by simp only [List.mem_cons, List.not_mem_nil, or_false]; omega)
  have hra := hfk.get hra (by simp only [List.mem_cons, List.not_mem_nil, or_false]; omega)
  have pcsI_tkn := csI.fr hfk pcsI_tkn (by decide) (by decide)
  have hfr := hfr.tr hfk (by decide)
  have hq6 := hlk
  have hq7 := hsk
  have hse_ := hNse_
  change ab_W _ _ _ G5 48 [some (vR a), some (vR q), none, none, none] [] _
  refine ab_aload_n d_OM_isOfOneMind_48 rfl ?_
  refine ab_getf (fs := [sp0, vR wk, vR onw, vR tkn, vR se_, vR cle, vR stk, vz dp, vz fo, vz chn, vR q, s0, vz hw, vz fy, vj stp]) f_OM_31 d_OM_isOfOneMind_49 ha.2.2 rfl ?_
  refine zz_iconst d_OM_isOfOneMind_52 ?_
  refine ab_callS (d' := d - 1) (as := [vR cle, vz 0]) (st := []) (z_AR_fill (o := o) (a := cle) (l := 56) (n := 808) (f := CL) (v := 0) hcle (by have h18 : ab_n0 = 18 := rfl; omega)) (fun oc G2 h => by rcases h with ⟨h, _⟩ <;> exact ⟨_, h⟩) (by omega) m_AR_fill ml_OM_51 st_AR_fill (Nat.le_of_ble_eq_true rfl) d_OM_isOfOneMind_53 rfl ?_
  intro v G8 hq
  rcases hq with ⟨hv, hfk, hlk, hsk, hNcle⟩
  cases hv
  have ha := hfk.get ha (by decide)
  have hse_ := hfk.get hse_ (by decide)
  have hstk := hfk.get hstk (by decide)
  have hq := hfk.get hq (by simp only [List.mem_cons, List.not_mem_nil, or_false]; omega)
  have hki := hfk.get hki (by simp only [List.mem_cons, List.not_mem_nil, or_false]; omega)
  have hne := hfk.get hne (by simp only [List.mem_cons, List.not_mem_nil, or_false]; omega)
  have hot := hfk.get hot (by simp only [List.mem_cons, List.not_mem_nil, or_false]; omega)
  have hra := hfk.get hra (by simp only [List.mem_cons, List.not_mem_nil, or_false]; omega)
  have pcsI_tkn := csI.fr hfk pcsI_tkn (by decide) (by decide)
  have hfr := hfr.tr hfk (by decide)
  have hq9 := hlk
  have hq10 := hsk
  have hcle := hNcle
  change ab_W _ _ _ G8 56 [some (vR a), some (vR q), none, none, none] [] _
  refine ab_aload_n d_OM_isOfOneMind_56 rfl ?_
  refine ab_aload_n d_OM_isOfOneMind_57 rfl ?_
  refine ab_getf (fs := [vR ki, vR ne, vR ot, vz cnt, vz fi, vz la, vR ra, vz ru, vz gr, vz wi, vz sz, vz fl, vz ve, vz mi, vR na, vR nl]) f_OM_57 d_OM_isOfOneMind_58 hq.2.2 rfl ?_
  refine ab_callV (d' := d - 1) (as := [vz fi]) (st := []) (r := _) (z_OM_isClearFrom (o := o) (a := a) (wk := wk) (onw := onw) (tkn := tkn) (se_ := se_) (cle := cle) (stk := stk) (dp := dp) (fo := fo) (chn := chn) (hw := hw) (fy := fy) (stp := stp) (SK := SK) (q := q) (lq := lq) (ki := ki) (ne := ne) (ot := ot) (cnt := cnt) (fi := fi) (la := la) (ra := ra) (ru := ru) (gr := gr) (wi := wi) (sz := sz) (fl := fl) (ve := ve) (mi := mi) (na := na) (nl := nl) (K := K) (N := N) (O := O) (RR := RR) (nr := nr) (sp0 := sp0) (s0 := s0) (SE := (zfill SE 0 ↑808 (-1))) (CL := (zfill CL 0 ↑808 0)) (b0 := fi) (nt := nt) (ct := ct) (P := P) ha hse_ hstk hq hki hne hot hra hcle pcsI_tkn (by omega) hp hpu hr (by omega) (by omega) (by omega) (rgs_fl (by omega)) (oseen_n (oseen_0 (CL := fun _ => 0) (by omega)) (by omega) rfl) (by omega) (by omega) (by omega) (by omega)) (fun oc G2 h => by rcases h with ⟨_, _, _, _, _, _, _, _, h, _⟩ | ⟨_, _, _, _, _, _, _, _, h, _⟩ <;> exact ⟨_, h⟩) (by omega) m_OM_isClearFrom ml_OM_60 im_OM_isClearFrom se_OM_isClearFrom c_OM ha.2.2 (Nat.le_of_ble_eq_true rfl) d_OM_isOfOneMind_61 rfl ?_
  intro v G11 hq
  rcases hq with ⟨o12, dp213, st214, SK215, SE216, n217, c218, P219, hv, hfk, hNa, hNse_, hNstk, hNcle, pNcsI_tkn, hq20, hq21, hq22, hq23, hq24, hq25⟩ | ⟨o26, dp227, st228, SK229, SE230, n231, c232, P233, hv, hfk, hNa, hNse_, hNstk, hNcle, pNcsI_tkn, hq34, hq35, hq36, hq37, hq38, hq39, hq40, hq41⟩
  · cases hv
    have hq := hfk.get hq (by simp only [List.mem_cons, List.not_mem_nil, or_false]; omega)
    have hki := hfk.get hki (by simp only [List.mem_cons, List.not_mem_nil, or_false]; omega)
    have hne := hfk.get hne (by simp only [List.mem_cons, List.not_mem_nil, or_false]; omega)
    have hot := hfk.get hot (by simp only [List.mem_cons, List.not_mem_nil, or_false]; omega)
    have hra := hfk.get hra (by simp only [List.mem_cons, List.not_mem_nil, or_false]; omega)
    have pcsI_tkn := pNcsI_tkn
    have hfr := hfr.tr hfk (by decide)
    have hq42 := hfk.1
    have ha := hNa
    have hse_ := hNse_
    have hstk := hNstk
    have hcle := hNcle
    change ab_W _ _ _ G11 64 [some (vR a), some (vR q), none, none, none] [vz 0] _
    refine ab_istore_n d_OM_isOfOneMind_64 (Nat.le_of_ble_eq_true rfl) (Nat.le_of_ble_eq_true rfl) rfl ?_
    change ab_W _ _ _ G11 65 [some (vR a), some (vR q), some (vz 0), none, none] [] _
    refine zz_iconst d_OM_isOfOneMind_65 ?_
    refine ab_istore_n d_OM_isOfOneMind_66 (Nat.le_of_ble_eq_true rfl) (Nat.le_of_ble_eq_true rfl) rfl ?_
    change ab_W _ _ _ G11 67 [some (vR a), some (vR q), some (vz 0), some (vz 0), none] [] _
    refine y_OM_isOfOneMind_67 (a := a) (wk := wk) (onw := onw) (tkn := tkn) (se_ := se_) (cle := cle) (stk := stk) (fo := fo) (chn := chn) (hw := hw) (fy := fy) (q := q) (lq := lq) (ki := ki) (ne := ne) (ot := ot) (cnt := cnt) (fi := fi) (la := la) (ra := ra) (ru := ru) (gr := gr) (wi := wi) (sz := sz) (fl := fl) (ve := ve) (mi := mi) (na := na) (nl := nl) (K := K) (N := N) (O := O) (RR := RR) (nr := nr) (sp0 := sp0) (s0 := s0) (n0 := nt) (ex := 0) (exs := 0) (st0 := st214) (dp := dp213) (stp := st214) (SK := SK215) (SE := SE216) (CL := (zu (zfill CL 0 ↑808 0) fi 1)) (one := 0) (st_ := 0) (nt := n217) (ct := c218) (P := P219) (by omega) hp hpu hr (by omega) (by omega) (by omega) (by omega) (by omega) (by omega) (by omega) (Int.toNat (cnt - 0) + 1) ha hse_ hcle hstk hq hki hne hot hra pcsI_tkn (by omega) hq20 (rgs_zu (rgs_fl (by omega)) (by omega)) (oseen_s (oseen_0 (CL := (zfill CL 0 ↑808 0)) (by omega)) cfi hq21) ocld_no ocl2_no (by omega) (by omega) (by omega) (by omega) hfr (by omega) (fun G44 o45 one246 dp247 st248 SK249 SE250 CL251 n252 c253 P254 ha hse_ hcle hstk pcsI_tkn hq55 hq56 hq57 hq58 hq59 hq60 hq61 hfr => ?_)
    · change ab_W _ _ _ G44 126 [none, none, some (vz one246), none, none] [] _
      refine ab_iload_n d_OM_isOfOneMind_126 rfl ?_
      refine zz_bret rfl (by omega) d_OM_isOfOneMind_127 ?_
      rw [hQ]; exact ⟨_, _, _, _, _, _, _, _, _, _, rfl, hfr, ha, hse_, hcle, hstk, pcsI_tkn, (by omega), (by omega), (by omega), (by omega), (by exact hq59), (by exact hq60), (by omega)⟩
  · cases hv
    have hq := hfk.get hq (by simp only [List.mem_cons, List.not_mem_nil, or_false]; omega)
    have hki := hfk.get hki (by simp only [List.mem_cons, List.not_mem_nil, or_false]; omega)
    have hne := hfk.get hne (by simp only [List.mem_cons, List.not_mem_nil, or_false]; omega)
    have hot := hfk.get hot (by simp only [List.mem_cons, List.not_mem_nil, or_false]; omega)
    have hra := hfk.get hra (by simp only [List.mem_cons, List.not_mem_nil, or_false]; omega)
    have pcsI_tkn := pNcsI_tkn
    have hfr := hfr.tr hfk (by decide)
    have hq43 := hfk.1
    have ha := hNa
    have hse_ := hNse_
    have hstk := hNstk
    have hcle := hNcle
    change ab_W _ _ _ G11 64 [some (vR a), some (vR q), none, none, none] [vz 1] _
    refine ab_istore_n d_OM_isOfOneMind_64 (Nat.le_of_ble_eq_true rfl) (Nat.le_of_ble_eq_true rfl) rfl ?_
    change ab_W _ _ _ G11 65 [some (vR a), some (vR q), some (vz 1), none, none] [] _
    refine zz_iconst d_OM_isOfOneMind_65 ?_
    refine ab_istore_n d_OM_isOfOneMind_66 (Nat.le_of_ble_eq_true rfl) (Nat.le_of_ble_eq_true rfl) rfl ?_
    change ab_W _ _ _ G11 67 [some (vR a), some (vR q), some (vz 1), some (vz 0), none] [] _
    refine y_OM_isOfOneMind_67 (a := a) (wk := wk) (onw := onw) (tkn := tkn) (se_ := se_) (cle := cle) (stk := stk) (fo := fo) (chn := chn) (hw := hw) (fy := fy) (q := q) (lq := lq) (ki := ki) (ne := ne) (ot := ot) (cnt := cnt) (fi := fi) (la := la) (ra := ra) (ru := ru) (gr := gr) (wi := wi) (sz := sz) (fl := fl) (ve := ve) (mi := mi) (na := na) (nl := nl) (K := K) (N := N) (O := O) (RR := RR) (nr := nr) (sp0 := sp0) (s0 := s0) (n0 := nt) (ex := 0) (exs := 0) (st0 := st228) (dp := dp227) (stp := st228) (SK := SK229) (SE := SE230) (CL := (zu (zfill CL 0 ↑808 0) fi 1)) (one := 1) (st_ := 0) (nt := n231) (ct := c232) (P := P233) (by omega) hp hpu hr (by omega) (by omega) (by omega) (by omega) (by omega) (by omega) (by omega) (Int.toNat (cnt - 0) + 1) ha hse_ hcle hstk hq hki hne hot hra pcsI_tkn (by omega) hq34 (rgs_zu (rgs_fl (by omega)) (by omega)) (oseen_s (oseen_0 (CL := (zfill CL 0 ↑808 0)) (by omega)) cfi hq35) (ocld_0 hq40 (fun b_ h0 h1 => zfill_in (by omega))) (ocl2_0 hq41 (fun b_ h0 h1 => zfill_in (by omega))) (by omega) (by omega) (by omega) (by omega) hfr (by omega) (fun G62 o63 one264 dp265 st266 SK267 SE268 CL269 n270 c271 P272 ha hse_ hcle hstk pcsI_tkn hq73 hq74 hq75 hq76 hq77 hq78 hq79 hfr => ?_)
    · change ab_W _ _ _ G62 126 [none, none, some (vz one264), none, none] [] _
      refine ab_iload_n d_OM_isOfOneMind_126 rfl ?_
      refine zz_bret rfl (by omega) d_OM_isOfOneMind_127 ?_
      rw [hQ]; exact ⟨_, _, _, _, _, _, _, _, _, _, rfl, hfr, ha, hse_, hcle, hstk, pcsI_tkn, (by omega), (by omega), (by omega), (by omega), (by exact hq77), (by exact hq78), (by omega)⟩
