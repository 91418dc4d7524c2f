/-! the law -/
theorem moW.recv {o : Nat → Nat} {G : ab_G} {t : Int} {A_ready : Int → Int} {A_tape : Int → Int} {m_taped : Int} {A_there : Int → Int} {A_groupsOf : Int → Int} {A_sizeOf : Int → Int} {A_flagsOf : Int → Int} {A_nameOf : Int → Int} {A_nameSize : Int → Int} {m_fault : Int} {m_place : Int} {A_subject : Int → Int} {m_length : Int} {m_founds : Int} {A_foundAt : Int → Int} {m_pieces : Int} {A_pieceAt : Int → Int} {V6 : Int → Sn} {m_out : Int} {A_output : Int → Int} {m_isMatch : Int} {m_matchGroups : Int} {A_kept : Int → Int} (h : moW o G t A_ready A_tape m_taped A_there A_groupsOf A_sizeOf A_flagsOf A_nameOf A_nameSize m_fault m_place A_subject m_length m_founds A_foundAt m_pieces A_pieceAt V6 m_out A_output m_isMatch m_matchGroups A_kept) : ∃ fs, G[80]? = some (.inr (12, fs)) := by
  obtain ⟨m_wide, m_gathered, m_sets, m_ranges, m_nodes, m_at, m_flags, m_numbered, m_depth, m_value, m_isNot, m_least0, m_most0, m_slot, m_work, m_got, m_rowMany, m_charAt, m_charWide, m_trail, m_allFrom, m_allBefore, m_writtenMany, m_templateWide, m_tooMuch, nd_, ns_, lv_, dn_, dh_, re_, fr_, rp_, ls_, dz_, SV_, FS_, ro_, vv_, dv_, nu9_, fo9_, A_rangeLow, A_rangeHigh, h80, _⟩ := h
  exact ⟨_, h80.2.2⟩
def lwI (o : Nat → Nat) (G : ab_G) (L : Nat) (f F : Int → Int) (lf : Nat) (t : Int) : Prop := ∃ (RD : Int → Int) (FT : Int → Int) (sz : Int) (PG : Nat → Option Nat) (cw : Int → Int) (fa : Int) (fp : Int) (sn : Int) (sf : Int → Int) (xa : Int) (Fa : Int → Int) (xb : Int) (Fb : Int → Int) (xr : Int) (Fr : Int → Int) (LA : Int → Int) (ry : Int → Int) (tq : Int → Int) (td : Int) (th : Int → Int) (gj : Int → Int) (zj : Int → Int) (fj : Int → Int) (nj : Int → Int) (sj : Int → Int) (fb : Int) (fq : Int) (us : Int → Int) (ul : Int) (uf : Int) (ua : Int → Int) (up : Int) (ub : Int → Int) (uv : Int → Sn) (uo : Int) (uO : Int → Int) (im : Int) (mg : Int) (ke : Int → Int), pwW o G 18 lf RD FT sz PG cw fa fp sn sf xa Fa xb Fb xr Fr LA ∧ moW o G t ry tq td th gj zj fj nj sj fb fq us ul uf ua up ub uv uo uO im mg ke ∧ cc o G 0 0 (za L f) ∧ cc o G 148 348 (zl 1 F) ∧ syn RD FT sz PG cw fa fp ry tq td th gj zj fj nj sj fb fq ∧ sy2 PG cw sn sf xa Fa xb Fb us ul uf ua up ub uv ∧ ouE Fr xr uO uo ∧ laE LA im mg ke
theorem lwI.h0 {o : Nat → Nat} {G : ab_G} {L : Nat} {f F : Int → Int} {lf : Nat} {t : Int} (h : lwI o G L f F lf t) : cc o G 0 0 (za L f) := by
  obtain ⟨_, _, _, _, _, _, _, _, _, _, _, _, _, _, _, _, _, _, _, _, _, _, _, _, _, _, _, _, _, _, _, _, _, _, _, _, _, _, _, _, _, h, _⟩ := h
  exact h
theorem nl_w {S : List Nat} (hS : ∀ l ∈ S, 18 ≤ l ∧ l < 190) (k : Nat) (hk : k < 18 ∨ 190 ≤ k) : ¬ k ∈ S := fun h => by have := hS k h; omega
theorem nl_v {S : List Nat} (hS : ∀ l ∈ S, (18 ≤ l ∧ l < 190) ∨ l = 348) (k : Nat) (hk : k < 18 ∨ (190 ≤ k ∧ ¬ k = 348)) : ¬ k ∈ S := fun h => by have := hS k h; omega
theorem fx_st {o : Nat → Nat} {G : ab_G} {a l : Nat} {E0 E : ab_E} (h : cc o G a l E0) : fx o o [l] G (List.set G a E) := ⟨by rw [List.length_set]; exact Nat.le_refl _, fun _ _ => rfl, fun b c hn hc => by
  rw [List.getElem?_set_ne (fun e => hn (by rw [← e, h.1]; exact List.mem_singleton.mpr rfl))]
  exact hc⟩
theorem cc_st {o : Nat → Nat} {G : ab_G} {a l : Nat} {E0 E : ab_E} (h : cc o G a l E0) : cc o (List.set G a E) a l E := ⟨h.1, h.2.1, List.getElem?_set_self (List.getElem?_eq_some_iff.mp h.2.2).1⟩
set_option maxRecDepth 100000 in
set_option maxHeartbeats 4000000 in
theorem w0_MO_over {X : ab_X} {d : Nat} {o : Nat → Nat} {G : ab_G} {m_thrown : Int} {A_ready : Int → Int} {A_tape : Int → Int} {m_taped : Int} {A_there : Int → Int} {A_groupsOf : Int → Int} {A_sizeOf : Int → Int} {A_flagsOf : Int → Int} {A_nameOf : Int → Int} {A_nameSize : Int → Int} {m_fault : Int} {m_place : Int} {A_subject : Int → Int} {m_length : Int} {m_founds : Int} {A_foundAt : Int → Int} {m_pieces : Int} {A_pieceAt : Int → Int} {V6 : Int → Sn} {m_out : Int} {A_output : Int → Int} {m_isMatch : Int} {m_matchGroups : Int} {A_kept : Int → Int}  (h : moW o G m_thrown A_ready A_tape m_taped A_there A_groupsOf A_sizeOf A_flagsOf A_nameOf A_nameSize m_fault m_place A_subject m_length m_founds A_foundAt m_pieces A_pieceAt V6 m_out A_output m_isMatch m_matchGroups A_kept)  (hd : 0 ≤ d) : ab_F X d y_MO_over (.code y_MO_over b_MO_over 1 (some (.int))) [vR 80] G (fun oc G2 => ∃ (ry2 : Int → Int) (tq2 : Int → Int) (td2 : Int) (tj2 : Int → Int) (gj2 : Int → Int) (zj2 : Int → Int) (fj2 : Int → Int) (nj2 : Int → Int) (sj2 : Int → Int) (fb2 : Int) (fq2 : Int) (us2 : Int → Int) (ul2 : Int) (uf2 : Int) (ua2 : Int → Int) (up2 : Int) (ub2 : Int → Int) (uv2 : Int → Sn) (uo2 : Int) (uO2 : Int → Int) (im2_ : Int) (mg2_ : Int) (ke2 : Int → Int), (ry2 = A_ready ∧ tq2 = A_tape ∧ td2 = m_taped ∧ tj2 = A_there ∧ gj2 = A_groupsOf ∧ zj2 = A_sizeOf ∧ fj2 = A_flagsOf ∧ nj2 = A_nameOf ∧ sj2 = A_nameSize ∧ fb2 = m_fault ∧ fq2 = m_place ∧ us2 = A_subject ∧ ul2 = m_length ∧ uf2 = m_founds ∧ ua2 = A_foundAt ∧ up2 = m_pieces ∧ ub2 = A_pieceAt ∧ uv2 = V6 ∧ uo2 = m_out ∧ uO2 = A_output ∧ im2_ = m_isMatch ∧ mg2_ = m_matchGroups ∧ ke2 = A_kept) ∧ oc = .returned (some (vz 0)) ∧ fx o o [280, 283, 284, 285, 286, 287, 288, 289, 290, 291, 292, 293, 294, 295, 296, 297, 298, 299, 300, 301, 302, 303, 304, 305, 306, 307, 308, 309, 310, 311, 312, 313, 314, 315, 316, 317, 318, 319, 320, 321, 322, 323, 324, 325, 326, 327, 328, 329, 330, 331, 332, 333, 334, 335, 336, 337, 338, 339, 340, 341, 342, 343, 344, 345, 346, 347] G G2 ∧ G2.length = G.length ∧ ab_slots G2 = ab_slots G ∧ ∃ t2 : Int, moW o G2 t2 ry2 tq2 td2 tj2 gj2 zj2 fj2 nj2 sj2 fb2 fq2 us2 ul2 uf2 ua2 up2 ub2 uv2 uo2 uO2 im2_ mg2_ ke2) := by
  have h0_ := h
  obtain ⟨m_wide, m_gathered, m_sets, m_ranges, m_nodes, m_at, m_flags, m_numbered, m_depth, m_value, m_isNot, m_least0, m_most0, m_slot, m_work, m_got, m_rowMany, m_charAt, m_charWide, m_trail, m_allFrom, m_allBefore, m_writtenMany, m_templateWide, m_tooMuch, nd_, ns_, lv_, dn_, dh_, re_, fr_, rp_, ls_, dz_, SV_, FS_, ro_, vv_, dv_, nu9_, fo9_, A_rangeLow, A_rangeHigh, h80, pmtx_0, pmma_0, pmpr_0, pmse_0, pmwk_0, pmnm_0, ptrI_0, n18, cta, cle, ycnt⟩ := h
  refine (z_MO_over (o := o) h80 n18).post (fun oc G2 hq => ?_)
  rcases hq with ⟨hv, hf, hl, hs, n_80⟩
  · exact ⟨A_ready, A_tape, m_taped, A_there, A_groupsOf, A_sizeOf, A_flagsOf, A_nameOf, A_nameSize, m_fault, m_place, A_subject, m_length, m_founds, A_foundAt, m_pieces, A_pieceAt, V6, m_out, A_output, m_isMatch, m_matchGroups, A_kept, ⟨rfl, rfl, rfl, rfl, rfl, rfl, rfl, rfl, rfl, rfl, rfl, rfl, rfl, rfl, rfl, rfl, rfl, rfl, rfl, rfl, rfl, rfl, rfl⟩, hv, fx_w hf (by decide), hl, hs, 0, m_wide, m_gathered, m_sets, m_ranges, m_nodes, m_at, m_flags, m_numbered, m_depth, m_value, m_isNot, m_least0, m_most0, m_slot, m_work, m_got, m_rowMany, m_charAt, m_charWide, m_trail, m_allFrom, m_allBefore, m_writtenMany, m_templateWide, m_tooMuch, nd_, ns_, lv_, dn_, dh_, re_, fr_, rp_, ls_, dz_, SV_, FS_, ro_, vv_, dv_, nu9_, fo9_, A_rangeLow, A_rangeHigh, n_80, mtx.fr hf pmtx_0 (by decide) (by decide) (by decide) (by decide), mma.fr hf pmma_0 (by decide) (by decide) (by decide) (by decide) (by decide) (by decide) (by decide) (by decide) (by decide) (by decide) (by decide) (by decide) (by decide) (by decide), mpr.fr hf pmpr_0 (by decide) (by decide) (by decide) (by decide) (by decide) (by decide) (by decide) (by decide) (by decide) (by decide) (by decide) (by decide) (by decide) (by decide) (by decide) (by decide), mse.fr hf pmse_0 (by decide) (by decide) (by decide) (by decide) (by decide) (by decide) (by decide), mwk.fr hf pmwk_0 (by decide) (by decide) (by decide) (by decide) (by decide) (by decide), mnm.fr hf pmnm_0 (by decide) (by decide), trI.fr hf ptrI_0 (by decide) (by decide) (by decide) (by decide) (by decide) (by decide) (by decide) (by decide) (by decide) (by decide) (by decide) (by decide) (by decide) (by decide) (by decide) (by decide) (by decide) (by decide), n18, cta, cle, ycnt⟩
set_option maxRecDepth 100000 in
theorem c_LA_compile {X : ab_X} {d : Nat} {o : Nat → Nat} {G : ab_G} {lf : Nat} {F : Int → Int} {RD : Int → Int} {FT : Int → Int} {sz : Int} {PG : Nat → Option Nat} {cw : Int → Int} {fa : Int} {fp : Int} {sn : Int} {sf : Int → Int} {xa : Int} {Fa : Int → Int} {xb : Int} {Fb : Int → Int} {xr : Int} {Fr : Int → Int} {LA : Int → Int} {p0 : Int} {p1 : Int} (hp : pwW o G 18 (lf + 1) RD FT sz PG cw fa fp sn sf xa Fa xb Fb xr Fr LA) (ho : cc o G 148 348 (zl 1 F)) (cr : -2147483648 ≤ p0 ∧ p0 ≤ 2147483647 ∧ -2147483648 ≤ p1 ∧ p1 ≤ 2147483647) (n18 : ab_n0 = 18) (hd : 213 ≤ d) : ab_F X d y_LA_compile (.codeWith y_LA_compile b_LA_compile 5 (some (.int)) [(0, 10, 13, 13)]) [vR 18, vz p0, vz p1, vR 148] G (fun oc G2 => ∃ (o2 : Nat → Nat) (S : List Nat) (F2 : Int → Int) (k : Int) (RD2 : Int → Int) (FT2 : Int → Int) (sz2 : Int) (PG2 : Nat → Option Nat) (cw2 : Int → Int) (fa2 : Int) (fp2 : Int) (sn2 : Int) (sf2 : Int → Int) (xa2 : Int) (Fa2 : Int → Int) (xb2 : Int) (Fb2 : Int → Int) (xr2 : Int) (Fr2 : Int → Int) (LA2 : Int → Int), oc = .returned (some (vz k)) ∧ fx o o2 S G G2 ∧ (∀ l ∈ S, (18 ≤ l ∧ l < 190) ∨ l = 348) ∧ pwW o2 G2 18 lf RD2 FT2 sz2 PG2 cw2 fa2 fp2 sn2 sf2 xa2 Fa2 xb2 Fb2 xr2 Fr2 LA2 ∧ cc o2 G2 148 348 (zl 1 F2) ∧ (RD2 = RD ∧ FT2 = FT ∧ sn2 = sn ∧ sf2 = sf ∧ xa2 = xa ∧ Fa2 = Fa ∧ xb2 = xb ∧ Fb2 = Fb ∧ xr2 = xr ∧ Fr2 = Fr ∧ LA2 = LA ∧ cmpL FT sz p0 p1 PG cw fa fp k (F2 0) sz2 PG2 cw2 fa2 fp2)) := by
  refine ab_F_ofW (by decide +kernel) (Nat.le_of_ble_eq_true rfl) ?_
  change ab_W X (ab_plW y_LA_compile b_LA_compile 5 (some (.int)) [(0, 10, 13, 13)]) d G 0 [some (vR 18), some (vz p0), some (vz p1), some (vR 148), none] [] _
  refine ab_aload_n d_LA_compile_0 rfl ?_
  refine zz_iconst d_LA_compile_1 ?_
  refine ab_aload_n d_LA_compile_2 rfl ?_
  refine ab_iload_n d_LA_compile_3 rfl ?_
  refine ab_iload_n d_LA_compile_4 rfl ?_
  obtain ⟨fsR, hR⟩ := hp.recv
  refine ab_callVE (d' := d - 1) (hp := 13) (ct := 13) (as := [vz p0, vz p1]) (st := [vz 0, vR 148]) (w_compile hp cr n18 (by omega)) (fun oc G2 h => ?_) (by omega) m_PW_compile (ab_t6 (List.mem_of_getElem? (i := 26) rfl)) im_PW_compile se_PW_compile c_PW hR (Nat.le_of_ble_eq_true rfl) d_LA_compile_5 rfl (fun c hc => ab_hx hc (by decide)) (by decide) cl_LA_13 cast_IA ?_ ?_
  · obtain ⟨_, _, _, _, _, _, _, _, _, _, _, _, _, _, _, _, _, _, _, _, _, h⟩ := h
    rcases h with ⟨v, h, _⟩ | ⟨b, h, h2, _⟩
    · exact Or.inl ⟨_, h⟩
    · exact Or.inr ⟨_, h, h2⟩
  · intro v G2 hq
    obtain ⟨o2, S, RD2, FT2, sz2, PG2, cw2, fa2, fp2, sn2, sf2, xa2, Fa2, xb2, Fb2, xr2, Fr2, LA2, hf, hS, hp2, hr⟩ := hq
    rcases hr with ⟨w, hr, hrk, hr1⟩ | ⟨b, hr, _⟩
    · cases hr
      have ho2 := hf.get ho (nl_w hS 348 (by decide))
      change ab_W X _ d G2 8 [some (vR 18), some (vz p0), some (vz p1), some (vR 148), none] [vz w, vz 0, vR 148] _
      have hw9 : 0 ≤ w ∧ w ≤ 9 := hrk.2.2.2.2.2
      obtain ⟨w2, hw2, ew⟩ : ∃ w2 : Int, (-2147483648 ≤ w2 ∧ w2 ≤ 2147483647) ∧ w2 = w := ⟨w, by omega, rfl⟩
      rw [← ew]
      refine zz_i2l d_LA_compile_8 hw2 ?_
      refine zz_last d_LA_compile_9 ho2 (by decide) (by decide) ?_
      refine ab_goto d_LA_compile_10 (tgt := 17) (by decide) ?_
      refine zz_iconst d_LA_compile_17 ?_
      refine zz_iret rfl d_LA_compile_18 ?_
      have hw : fx o2 o2 [348] G2 (List.set G2 148 (zl 1 (zu F 0 w2))) := fx_st ho2
      exact ⟨o2, 348 :: S, zu F 0 w2, 0, RD2, FT2, sz2, PG2, cw2, fa2, fp2, sn2, sf2, xa2, Fa2, xb2, Fb2, xr2, Fr2, LA2, rfl, fx.tr (fx_w hf (fun x hx => List.mem_cons_of_mem _ hx)) hw (by simp), fun l hl => by rcases List.mem_cons.mp hl with e | e; exact Or.inr e; exact Or.inl (hS l e), hp2.fr hw (List.length_set ..) (ab_slots_set ho2.2.2 rfl) (by decide), cc_st ho2, hr1.1, hr1.2.1, hr1.2.2.1, hr1.2.2.2.1, hr1.2.2.2.2.1, hr1.2.2.2.2.2.1, hr1.2.2.2.2.2.2.1, hr1.2.2.2.2.2.2.2.1, hr1.2.2.2.2.2.2.2.2.1, hr1.2.2.2.2.2.2.2.2.2.1, hr1.2.2.2.2.2.2.2.2.2.2, Or.inl ⟨rfl, by rw [zu_self, ew]; exact hrk⟩⟩
    · cases hr
  · intro b G2 hq
    obtain ⟨o2, S, RD2, FT2, sz2, PG2, cw2, fa2, fp2, sn2, sf2, xa2, Fa2, xb2, Fb2, xr2, Fr2, LA2, hf, hS, hp2, hr⟩ := hq
    rcases hr with ⟨w, hr, _⟩ | ⟨b2, hr, hb, hrk, hr1, hr2, hr3, hr4, hr5⟩
    · cases hr
    · cases hr
      have ho2 := hf.get ho (nl_w hS 348 (by decide))
      refine ab_astore d_LA_compile_13 (Nat.le_of_ble_eq_true rfl) (Nat.le_of_ble_eq_true rfl) rfl ?_
      refine zz_iconst d_LA_compile_15 ?_
      refine zz_iret rfl d_LA_compile_16 ?_
      exact ⟨o2, S, F, 1, RD2, FT2, sz2, PG2, cw2, fa2, fp2, sn2, sf2, xa2, Fa2, xb2, Fb2, xr2, Fr2, LA2, rfl, hf, fun l hl => Or.inl (hS l hl), hp2, ho2, hr1, hr2, hr5.1, hr5.2.1, hr5.2.2.1, hr5.2.2.2.1, hr5.2.2.2.2.1, hr5.2.2.2.2.2.1, hr5.2.2.2.2.2.2.1, hr5.2.2.2.2.2.2.2.1, hr5.2.2.2.2.2.2.2.2, Or.inr ⟨rfl, hrk, hr3, hr4⟩⟩
set_option maxRecDepth 100000 in
theorem c_LA_match {X : ab_X} {d : Nat} {o : Nat → Nat} {G : ab_G} {lf : Nat} {F : Int → Int} {RD : Int → Int} {FT : Int → Int} {sz : Int} {PG : Nat → Option Nat} {cw : Int → Int} {fa : Int} {fp : Int} {sn : Int} {sf : Int → Int} {xa : Int} {Fa : Int → Int} {xb : Int} {Fb : Int → Int} {xr : Int} {Fr : Int → Int} {LA : Int → Int} {p0 : Int} {p1 : Int} {p2 : Int} {p3 : Int} (hp : pwW o G 18 (lf + 1) RD FT sz PG cw fa fp sn sf xa Fa xb Fb xr Fr LA) (ho : cc o G 148 348 (zl 1 F)) (cr : -2147483648 ≤ p0 ∧ p0 ≤ 2147483647 ∧ -2147483648 ≤ p1 ∧ p1 ≤ 2147483647 ∧ -2147483648 ≤ p2 ∧ p2 ≤ 2147483647 ∧ -2147483648 ≤ p3 ∧ p3 ≤ 2147483647) (n18 : ab_n0 = 18) (hd : 17 ≤ d) : ab_F X d y_LA_match (.codeWith y_LA_match b_LA_match 7 (some (.int)) [(0, 14, 17, 13)]) [vR 18, vz p0, vz p1, vz p2, vz p3, vR 148] G (fun oc G2 => ∃ (o2 : Nat → Nat) (S : List Nat) (F2 : Int → Int) (k : Int) (RD2 : Int → Int) (FT2 : Int → Int) (sz2 : Int) (PG2 : Nat → Option Nat) (cw2 : Int → Int) (fa2 : Int) (fp2 : Int) (sn2 : Int) (sf2 : Int → Int) (xa2 : Int) (Fa2 : Int → Int) (xb2 : Int) (Fb2 : Int → Int) (xr2 : Int) (Fr2 : Int → Int) (LA2 : Int → Int), oc = .returned (some (vz k)) ∧ fx o o2 S G G2 ∧ (∀ l ∈ S, (18 ≤ l ∧ l < 190) ∨ l = 348) ∧ pwW o2 G2 18 lf RD2 FT2 sz2 PG2 cw2 fa2 fp2 sn2 sf2 xa2 Fa2 xb2 Fb2 xr2 Fr2 LA2 ∧ cc o2 G2 148 348 (zl 1 F2) ∧ (mtZ PG cw p0 sf sn p1 p2 p3 k (F2 0) LA LA2 ∧ RD2 = RD ∧ FT2 = FT ∧ sz2 = sz ∧ PG2 = PG ∧ cw2 = cw ∧ fa2 = fa ∧ fp2 = fp ∧ sn2 = sn ∧ sf2 = sf ∧ xa2 = xa ∧ Fa2 = Fa ∧ xb2 = xb ∧ Fb2 = Fb ∧ xr2 = xr ∧ Fr2 = Fr)) := by
  refine ab_F_ofW (by decide +kernel) (Nat.le_of_ble_eq_true rfl) ?_
  change ab_W X (ab_plW y_LA_match b_LA_match 7 (some (.int)) [(0, 14, 17, 13)]) d G 0 [some (vR 18), some (vz p0), some (vz p1), some (vz p2), some (vz p3), some (vR 148), none] [] _
  refine ab_aload d_LA_match_0 rfl ?_
  refine zz_iconst d_LA_match_2 ?_
  refine ab_aload_n d_LA_match_3 rfl ?_
  refine ab_iload_n d_LA_match_4 rfl ?_
  refine ab_iload_n d_LA_match_5 rfl ?_
  refine ab_iload_n d_LA_match_6 rfl ?_
  refine ab_iload d_LA_match_7 rfl ?_
  obtain ⟨fsR, hR⟩ := hp.recv
  refine ab_callVE (d' := d - 1) (hp := 17) (ct := 13) (as := [vz p0, vz p1, vz p2, vz p3]) (st := [vz 0, vR 148]) (w_match hp cr n18 (by omega)) (fun oc G2 h => ?_) (by omega) m_PW_match (ab_t7 (List.mem_of_getElem? (i := 182) rfl)) im_PW_match se_PW_match c_PW hR (Nat.le_of_ble_eq_true rfl) d_LA_match_9 rfl (fun c hc => ab_hx hc (by decide)) (by decide) cl_LA_13 cast_IA ?_ ?_
  · obtain ⟨_, _, _, _, _, _, _, _, _, _, _, _, _, _, _, _, _, _, _, _, _, h, _⟩ := h
    rcases h with ⟨v, h, _⟩ | ⟨b, h, h2, _⟩
    · exact Or.inl ⟨_, h⟩
    · exact Or.inr ⟨_, h, h2⟩
  · intro v G2 hq
    obtain ⟨o2, S, RD2, FT2, sz2, PG2, cw2, fa2, fp2, sn2, sf2, xa2, Fa2, xb2, Fb2, xr2, Fr2, LA2, hf, hS, hp2, hr, hrel⟩ := hq
    rcases hr with ⟨w, hr, hrk⟩ | ⟨b, hr, _⟩
    · cases hr
      have ho2 := hf.get ho (nl_w hS 348 (by decide))
      change ab_W X _ d G2 12 [some (vR 18), some (vz p0), some (vz p1), some (vz p2), some (vz p3), some (vR 148), none] [vz w, vz 0, vR 148] _
      have hw9 : -1 ≤ w ∧ w ≤ 3000 := mtP.b hrk
      obtain ⟨w2, hw2, ew⟩ : ∃ w2 : Int, (-2147483648 ≤ w2 ∧ w2 ≤ 2147483647) ∧ w2 = w := ⟨w, by omega, rfl⟩
      rw [← ew]
      refine zz_i2l d_LA_match_12 hw2 ?_
      refine zz_last d_LA_match_13 ho2 (by decide) (by decide) ?_
      refine ab_goto d_LA_match_14 (tgt := 21) (by decide) ?_
      refine zz_iconst d_LA_match_21 ?_
      refine zz_iret rfl d_LA_match_22 ?_
      have hw : fx o2 o2 [348] G2 (List.set G2 148 (zl 1 (zu F 0 w2))) := fx_st ho2
      exact ⟨o2, 348 :: S, zu F 0 w2, 0, RD2, FT2, sz2, PG2, cw2, fa2, fp2, sn2, sf2, xa2, Fa2, xb2, Fb2, xr2, Fr2, LA2, rfl, fx.tr (fx_w hf (fun x hx => List.mem_cons_of_mem _ hx)) hw (by simp), fun l hl => by rcases List.mem_cons.mp hl with e | e; exact Or.inr e; exact Or.inl (hS l e), hp2.fr hw (List.length_set ..) (ab_slots_set ho2.2.2 rfl) (by decide), cc_st ho2, Or.inl ⟨rfl, by rw [zu_self, ew]; exact hrk⟩, hrel⟩
    · cases hr
  · intro b G2 hq
    obtain ⟨o2, S, RD2, FT2, sz2, PG2, cw2, fa2, fp2, sn2, sf2, xa2, Fa2, xb2, Fb2, xr2, Fr2, LA2, hf, hS, hp2, hr, hrel⟩ := hq
    rcases hr with ⟨w, hr, _⟩ | ⟨b2, hr, hb, hrk⟩
    · cases hr
    · cases hr
      have ho2 := hf.get ho (nl_w hS 348 (by decide))
      refine ab_astore d_LA_match_17 (Nat.le_of_ble_eq_true rfl) (Nat.le_of_ble_eq_true rfl) rfl ?_
      refine zz_iconst d_LA_match_19 ?_
      refine zz_iret rfl d_LA_match_20 ?_
      exact ⟨o2, S, F, 1, RD2, FT2, sz2, PG2, cw2, fa2, fp2, sn2, sf2, xa2, Fa2, xb2, Fb2, xr2, Fr2, LA2, rfl, hf, fun l hl => Or.inl (hS l hl), hp2, ho2, Or.inr ⟨rfl, hrk⟩, hrel⟩
set_option maxRecDepth 100000 in
theorem c_LA_all {X : ab_X} {d : Nat} {o : Nat → Nat} {G : ab_G} {lf : Nat} {F : Int → Int} {RD : Int → Int} {FT : Int → Int} {sz : Int} {PG : Nat → Option Nat} {cw : Int → Int} {fa : Int} {fp : Int} {sn : Int} {sf : Int → Int} {xa : Int} {Fa : Int → Int} {xb : Int} {Fb : Int → Int} {xr : Int} {Fr : Int → Int} {LA : Int → Int} {p0 : Int} (hp : pwW o G 18 (lf + 1) RD FT sz PG cw fa fp sn sf xa Fa xb Fb xr Fr LA) (ho : cc o G 148 348 (zl 1 F)) (cr : -2147483648 ≤ p0 ∧ p0 ≤ 2147483647) (n18 : ab_n0 = 18) (hd : 17 ≤ d) : ab_F X d y_LA_all (.codeWith y_LA_all b_LA_all 4 (some (.int)) [(0, 9, 12, 13)]) [vR 18, vz p0, vR 148] G (fun oc G2 => ∃ (o2 : Nat → Nat) (S : List Nat) (F2 : Int → Int) (k : Int) (RD2 : Int → Int) (FT2 : Int → Int) (sz2 : Int) (PG2 : Nat → Option Nat) (cw2 : Int → Int) (fa2 : Int) (fp2 : Int) (sn2 : Int) (sf2 : Int → Int) (xa2 : Int) (Fa2 : Int → Int) (xb2 : Int) (Fb2 : Int → Int) (xr2 : Int) (Fr2 : Int → Int) (LA2 : Int → Int), oc = .returned (some (vz k)) ∧ fx o o2 S G G2 ∧ (∀ l ∈ S, (18 ≤ l ∧ l < 190) ∨ l = 348) ∧ pwW o2 G2 18 lf RD2 FT2 sz2 PG2 cw2 fa2 fp2 sn2 sf2 xa2 Fa2 xb2 Fb2 xr2 Fr2 LA2 ∧ cc o2 G2 148 348 (zl 1 F2) ∧ (alZ PG cw p0 sf sn k (F2 0) xa Fa xa2 Fa2 ∧ RD2 = RD ∧ FT2 = FT ∧ sz2 = sz ∧ PG2 = PG ∧ cw2 = cw ∧ fa2 = fa ∧ fp2 = fp ∧ sn2 = sn ∧ sf2 = sf ∧ xb2 = xb ∧ Fb2 = Fb ∧ xr2 = xr ∧ Fr2 = Fr ∧ LA2 = LA)) := by
  refine ab_F_ofW (by decide +kernel) (Nat.le_of_ble_eq_true rfl) ?_
  change ab_W X (ab_plW y_LA_all b_LA_all 4 (some (.int)) [(0, 9, 12, 13)]) d G 0 [some (vR 18), some (vz p0), some (vR 148), none] [] _
  refine ab_aload_n d_LA_all_0 rfl ?_
  refine zz_iconst d_LA_all_1 ?_
  refine ab_aload_n d_LA_all_2 rfl ?_
  refine ab_iload_n d_LA_all_3 rfl ?_
  obtain ⟨fsR, hR⟩ := hp.recv
  refine ab_callVE (d' := d - 1) (hp := 12) (ct := 13) (as := [vz p0]) (st := [vz 0, vR 148]) (w_all hp cr n18 (by omega)) (fun oc G2 h => ?_) (by omega) m_PW_all (ab_t7 (List.mem_of_getElem? (i := 192) rfl)) im_PW_all se_PW_all c_PW hR (Nat.le_of_ble_eq_true rfl) d_LA_all_4 rfl (fun c hc => ab_hx hc (by decide)) (by decide) cl_LA_13 cast_IA ?_ ?_
  · obtain ⟨_, _, _, _, _, _, _, _, _, _, _, _, _, _, _, _, _, _, _, _, _, h, _⟩ := h
    rcases h with ⟨v, h, _⟩ | ⟨b, h, h2, _⟩
    · exact Or.inl ⟨_, h⟩
    · exact Or.inr ⟨_, h, h2⟩
  · intro v G2 hq
    obtain ⟨o2, S, RD2, FT2, sz2, PG2, cw2, fa2, fp2, sn2, sf2, xa2, Fa2, xb2, Fb2, xr2, Fr2, LA2, hf, hS, hp2, hr, hrel⟩ := hq
    rcases hr with ⟨w, hr, hrk⟩ | ⟨b, hr, _⟩
    · cases hr
      have ho2 := hf.get ho (nl_w hS 348 (by decide))
      change ab_W X _ d G2 7 [some (vR 18), some (vz p0), some (vR 148), none] [vz w, vz 0, vR 148] _
      have hw9 : 0 ≤ w ∧ w ≤ 3000 := alP.b hrk
      obtain ⟨w2, hw2, ew⟩ : ∃ w2 : Int, (-2147483648 ≤ w2 ∧ w2 ≤ 2147483647) ∧ w2 = w := ⟨w, by omega, rfl⟩
      rw [← ew]
      refine zz_i2l d_LA_all_7 hw2 ?_
      refine zz_last d_LA_all_8 ho2 (by decide) (by decide) ?_
      refine ab_goto d_LA_all_9 (tgt := 15) (by decide) ?_
      refine zz_iconst d_LA_all_15 ?_
      refine zz_iret rfl d_LA_all_16 ?_
      have hw : fx o2 o2 [348] G2 (List.set G2 148 (zl 1 (zu F 0 w2))) := fx_st ho2
      exact ⟨o2, 348 :: S, zu F 0 w2, 0, RD2, FT2, sz2, PG2, cw2, fa2, fp2, sn2, sf2, xa2, Fa2, xb2, Fb2, xr2, Fr2, LA2, rfl, fx.tr (fx_w hf (fun x hx => List.mem_cons_of_mem _ hx)) hw (by simp), fun l hl => by rcases List.mem_cons.mp hl with e | e; exact Or.inr e; exact Or.inl (hS l e), hp2.fr hw (List.length_set ..) (ab_slots_set ho2.2.2 rfl) (by decide), cc_st ho2, Or.inl ⟨rfl, by rw [zu_self, ew]; exact hrk⟩, hrel⟩
    · cases hr
  · intro b G2 hq
    obtain ⟨o2, S, RD2, FT2, sz2, PG2, cw2, fa2, fp2, sn2, sf2, xa2, Fa2, xb2, Fb2, xr2, Fr2, LA2, hf, hS, hp2, hr, hrel⟩ := hq
    rcases hr with ⟨w, hr, _⟩ | ⟨b2, hr, hb, hrk⟩
    · cases hr
    · cases hr
      have ho2 := hf.get ho (nl_w hS 348 (by decide))
      refine ab_astore_n d_LA_all_12 (Nat.le_of_ble_eq_true rfl) (Nat.le_of_ble_eq_true rfl) rfl ?_
      refine zz_iconst d_LA_all_13 ?_
      refine zz_iret rfl d_LA_all_14 ?_
      exact ⟨o2, S, F, 1, RD2, FT2, sz2, PG2, cw2, fa2, fp2, sn2, sf2, xa2, Fa2, xb2, Fb2, xr2, Fr2, LA2, rfl, hf, fun l hl => Or.inl (hS l hl), hp2, ho2, Or.inr ⟨rfl, hrk⟩, hrel⟩
set_option maxRecDepth 100000 in
theorem c_LA_replace {X : ab_X} {d : Nat} {o : Nat → Nat} {G : ab_G} {lf : Nat} {F : Int → Int} {RD : Int → Int} {FT : Int → Int} {sz : Int} {PG : Nat → Option Nat} {cw : Int → Int} {fa : Int} {fp : Int} {sn : Int} {sf : Int → Int} {xa : Int} {Fa : Int → Int} {xb : Int} {Fb : Int → Int} {xr : Int} {Fr : Int → Int} {LA : Int → Int} {p0 : Int} (hp : pwW o G 18 (lf + 1) RD FT sz PG cw fa fp sn sf xa Fa xb Fb xr Fr LA) (ho : cc o G 148 348 (zl 1 F)) (cr : -2147483648 ≤ p0 ∧ p0 ≤ 2147483647) (n18 : ab_n0 = 18) (hd : 18 ≤ d) : ab_F X d y_LA_replace (.codeWith y_LA_replace b_LA_replace 4 (some (.int)) [(0, 9, 12, 13)]) [vR 18, vz p0, vR 148] G (fun oc G2 => ∃ (o2 : Nat → Nat) (S : List Nat) (F2 : Int → Int) (k : Int) (RD2 : Int → Int) (FT2 : Int → Int) (sz2 : Int) (PG2 : Nat → Option Nat) (cw2 : Int → Int) (fa2 : Int) (fp2 : Int) (sn2 : Int) (sf2 : Int → Int) (xa2 : Int) (Fa2 : Int → Int) (xb2 : Int) (Fb2 : Int → Int) (xr2 : Int) (Fr2 : Int → Int) (LA2 : Int → Int), oc = .returned (some (vz k)) ∧ fx o o2 S G G2 ∧ (∀ l ∈ S, (18 ≤ l ∧ l < 190) ∨ l = 348) ∧ pwW o2 G2 18 lf RD2 FT2 sz2 PG2 cw2 fa2 fp2 sn2 sf2 xa2 Fa2 xb2 Fb2 xr2 Fr2 LA2 ∧ cc o2 G2 148 348 (zl 1 F2) ∧ (rpZ PG cw p0 sf sn FT sz k (F2 0) xr Fr xr2 Fr2 ∧ pgQ PG p0 sz sz2 ∧ RD2 = RD ∧ FT2 = FT ∧ PG2 = PG ∧ cw2 = cw ∧ fa2 = fa ∧ fp2 = fp ∧ sn2 = sn ∧ sf2 = sf ∧ xa2 = xa ∧ Fa2 = Fa ∧ xb2 = xb ∧ Fb2 = Fb ∧ LA2 = LA)) := by
  refine ab_F_ofW (by decide +kernel) (Nat.le_of_ble_eq_true rfl) ?_
  change ab_W X (ab_plW y_LA_replace b_LA_replace 4 (some (.int)) [(0, 9, 12, 13)]) d G 0 [some (vR 18), some (vz p0), some (vR 148), none] [] _
  refine ab_aload_n d_LA_replace_0 rfl ?_
  refine zz_iconst d_LA_replace_1 ?_
  refine ab_aload_n d_LA_replace_2 rfl ?_
  refine ab_iload_n d_LA_replace_3 rfl ?_
  obtain ⟨fsR, hR⟩ := hp.recv
  refine ab_callVE (d' := d - 1) (hp := 12) (ct := 13) (as := [vz p0]) (st := [vz 0, vR 148]) (w_replace hp cr n18 (by omega)) (fun oc G2 h => ?_) (by omega) m_PW_replace (ab_t7 (List.mem_of_getElem? (i := 205) rfl)) im_PW_replace se_PW_replace c_PW hR (Nat.le_of_ble_eq_true rfl) d_LA_replace_4 rfl (fun c hc => ab_hx hc (by decide)) (by decide) cl_LA_13 cast_IA ?_ ?_
  · obtain ⟨_, _, _, _, _, _, _, _, _, _, _, _, _, _, _, _, _, _, _, _, _, h, _⟩ := h
    rcases h with ⟨v, h, _⟩ | ⟨b, h, h2, _⟩
    · exact Or.inl ⟨_, h⟩
    · exact Or.inr ⟨_, h, h2⟩
  · intro v G2 hq
    obtain ⟨o2, S, RD2, FT2, sz2, PG2, cw2, fa2, fp2, sn2, sf2, xa2, Fa2, xb2, Fb2, xr2, Fr2, LA2, hf, hS, hp2, hr, hrel⟩ := hq
    rcases hr with ⟨w, hr, hrk⟩ | ⟨b, hr, _⟩
    · cases hr
      have ho2 := hf.get ho (nl_w hS 348 (by decide))
      change ab_W X _ d G2 7 [some (vR 18), some (vz p0), some (vR 148), none] [vz w, vz 0, vR 148] _
      have hw9 : 0 ≤ w ∧ w ≤ 6000 := rpC.b hrk
      obtain ⟨w2, hw2, ew⟩ : ∃ w2 : Int, (-2147483648 ≤ w2 ∧ w2 ≤ 2147483647) ∧ w2 = w := ⟨w, by omega, rfl⟩
      rw [← ew]
      refine zz_i2l d_LA_replace_7 hw2 ?_
      refine zz_last d_LA_replace_8 ho2 (by decide) (by decide) ?_
      refine ab_goto d_LA_replace_9 (tgt := 15) (by decide) ?_
      refine zz_iconst d_LA_replace_15 ?_
      refine zz_iret rfl d_LA_replace_16 ?_
      have hw : fx o2 o2 [348] G2 (List.set G2 148 (zl 1 (zu F 0 w2))) := fx_st ho2
      exact ⟨o2, 348 :: S, zu F 0 w2, 0, RD2, FT2, sz2, PG2, cw2, fa2, fp2, sn2, sf2, xa2, Fa2, xb2, Fb2, xr2, Fr2, LA2, rfl, fx.tr (fx_w hf (fun x hx => List.mem_cons_of_mem _ hx)) hw (by simp), fun l hl => by rcases List.mem_cons.mp hl with e | e; exact Or.inr e; exact Or.inl (hS l e), hp2.fr hw (List.length_set ..) (ab_slots_set ho2.2.2 rfl) (by decide), cc_st ho2, Or.inl ⟨rfl, by rw [zu_self, ew]; exact hrk⟩, hrel⟩
    · cases hr
  · intro b G2 hq
    obtain ⟨o2, S, RD2, FT2, sz2, PG2, cw2, fa2, fp2, sn2, sf2, xa2, Fa2, xb2, Fb2, xr2, Fr2, LA2, hf, hS, hp2, hr, hrel⟩ := hq
    rcases hr with ⟨w, hr, _⟩ | ⟨b2, hr, hb, hrk⟩
    · cases hr
    · cases hr
      have ho2 := hf.get ho (nl_w hS 348 (by decide))
      refine ab_astore_n d_LA_replace_12 (Nat.le_of_ble_eq_true rfl) (Nat.le_of_ble_eq_true rfl) rfl ?_
      refine zz_iconst d_LA_replace_13 ?_
      refine zz_iret rfl d_LA_replace_14 ?_
      exact ⟨o2, S, F, 1, RD2, FT2, sz2, PG2, cw2, fa2, fp2, sn2, sf2, xa2, Fa2, xb2, Fb2, xr2, Fr2, LA2, rfl, hf, fun l hl => Or.inl (hS l hl), hp2, ho2, Or.inr ⟨rfl, hrk⟩, hrel⟩
set_option maxRecDepth 100000 in
theorem c_LA_split {X : ab_X} {d : Nat} {o : Nat → Nat} {G : ab_G} {lf : Nat} {F : Int → Int} {RD : Int → Int} {FT : Int → Int} {sz : Int} {PG : Nat → Option Nat} {cw : Int → Int} {fa : Int} {fp : Int} {sn : Int} {sf : Int → Int} {xa : Int} {Fa : Int → Int} {xb : Int} {Fb : Int → Int} {xr : Int} {Fr : Int → Int} {LA : Int → Int} {p0 : Int} (hp : pwW o G 18 (lf + 1) RD FT sz PG cw fa fp sn sf xa Fa xb Fb xr Fr LA) (ho : cc o G 148 348 (zl 1 F)) (cr : -2147483648 ≤ p0 ∧ p0 ≤ 2147483647) (n18 : ab_n0 = 18) (hd : 17 ≤ d) : ab_F X d y_LA_split (.codeWith y_LA_split b_LA_split 4 (some (.int)) [(0, 9, 12, 13)]) [vR 18, vz p0, vR 148] G (fun oc G2 => ∃ (o2 : Nat → Nat) (S : List Nat) (F2 : Int → Int) (k : Int) (RD2 : Int → Int) (FT2 : Int → Int) (sz2 : Int) (PG2 : Nat → Option Nat) (cw2 : Int → Int) (fa2 : Int) (fp2 : Int) (sn2 : Int) (sf2 : Int → Int) (xa2 : Int) (Fa2 : Int → Int) (xb2 : Int) (Fb2 : Int → Int) (xr2 : Int) (Fr2 : Int → Int) (LA2 : Int → Int), oc = .returned (some (vz k)) ∧ fx o o2 S G G2 ∧ (∀ l ∈ S, (18 ≤ l ∧ l < 190) ∨ l = 348) ∧ pwW o2 G2 18 lf RD2 FT2 sz2 PG2 cw2 fa2 fp2 sn2 sf2 xa2 Fa2 xb2 Fb2 xr2 Fr2 LA2 ∧ cc o2 G2 148 348 (zl 1 F2) ∧ (spL2 PG cw p0 sf sn k (F2 0) xb Fb xb2 Fb2 ∧ RD2 = RD ∧ FT2 = FT ∧ sz2 = sz ∧ PG2 = PG ∧ cw2 = cw ∧ fa2 = fa ∧ fp2 = fp ∧ sn2 = sn ∧ sf2 = sf ∧ xa2 = xa ∧ Fa2 = Fa ∧ xr2 = xr ∧ Fr2 = Fr ∧ LA2 = LA)) := by
  refine ab_F_ofW (by decide +kernel) (Nat.le_of_ble_eq_true rfl) ?_
  change ab_W X (ab_plW y_LA_split b_LA_split 4 (some (.int)) [(0, 9, 12, 13)]) d G 0 [some (vR 18), some (vz p0), some (vR 148), none] [] _
  refine ab_aload_n d_LA_split_0 rfl ?_
  refine zz_iconst d_LA_split_1 ?_
  refine ab_aload_n d_LA_split_2 rfl ?_
  refine ab_iload_n d_LA_split_3 rfl ?_
  obtain ⟨fsR, hR⟩ := hp.recv
  refine ab_callVE (d' := d - 1) (hp := 12) (ct := 13) (as := [vz p0]) (st := [vz 0, vR 148]) (w_split hp cr n18 (by omega)) (fun oc G2 h => ?_) (by omega) m_PW_split (ab_t7 (List.mem_of_getElem? (i := 235) rfl)) im_PW_split se_PW_split c_PW hR (Nat.le_of_ble_eq_true rfl) d_LA_split_4 rfl (fun c hc => ab_hx hc (by decide)) (by decide) cl_LA_13 cast_IA ?_ ?_
  · obtain ⟨_, _, _, _, _, _, _, _, _, _, _, _, _, _, _, _, _, _, _, _, _, h, _⟩ := h
    rcases h with ⟨v, h, _⟩ | ⟨b, h, h2, _⟩
    · exact Or.inl ⟨_, h⟩
    · exact Or.inr ⟨_, h, h2⟩
  · intro v G2 hq
    obtain ⟨o2, S, RD2, FT2, sz2, PG2, cw2, fa2, fp2, sn2, sf2, xa2, Fa2, xb2, Fb2, xr2, Fr2, LA2, hf, hS, hp2, hr, hrel⟩ := hq
    rcases hr with ⟨w, hr, hrk⟩ | ⟨b, hr, _⟩
    · cases hr
      have ho2 := hf.get ho (nl_w hS 348 (by decide))
      change ab_W X _ d G2 7 [some (vR 18), some (vz p0), some (vR 148), none] [vz w, vz 0, vR 148] _
      have hw9 : 0 ≤ w ∧ w ≤ 3000 := spP.b hrk
      obtain ⟨w2, hw2, ew⟩ : ∃ w2 : Int, (-2147483648 ≤ w2 ∧ w2 ≤ 2147483647) ∧ w2 = w := ⟨w, by omega, rfl⟩
      rw [← ew]
      refine zz_i2l d_LA_split_7 hw2 ?_
      refine zz_last d_LA_split_8 ho2 (by decide) (by decide) ?_
      refine ab_goto d_LA_split_9 (tgt := 15) (by decide) ?_
      refine zz_iconst d_LA_split_15 ?_
      refine zz_iret rfl d_LA_split_16 ?_
      have hw : fx o2 o2 [348] G2 (List.set G2 148 (zl 1 (zu F 0 w2))) := fx_st ho2
      exact ⟨o2, 348 :: S, zu F 0 w2, 0, RD2, FT2, sz2, PG2, cw2, fa2, fp2, sn2, sf2, xa2, Fa2, xb2, Fb2, xr2, Fr2, LA2, rfl, fx.tr (fx_w hf (fun x hx => List.mem_cons_of_mem _ hx)) hw (by simp), fun l hl => by rcases List.mem_cons.mp hl with e | e; exact Or.inr e; exact Or.inl (hS l e), hp2.fr hw (List.length_set ..) (ab_slots_set ho2.2.2 rfl) (by decide), cc_st ho2, Or.inl ⟨rfl, by rw [zu_self, ew]; exact hrk⟩, hrel⟩
    · cases hr
  · intro b G2 hq
    obtain ⟨o2, S, RD2, FT2, sz2, PG2, cw2, fa2, fp2, sn2, sf2, xa2, Fa2, xb2, Fb2, xr2, Fr2, LA2, hf, hS, hp2, hr, hrel⟩ := hq
    rcases hr with ⟨w, hr, _⟩ | ⟨b2, hr, hb, hrk⟩
    · cases hr
    · cases hr
      have ho2 := hf.get ho (nl_w hS 348 (by decide))
      refine ab_astore_n d_LA_split_12 (Nat.le_of_ble_eq_true rfl) (Nat.le_of_ble_eq_true rfl) rfl ?_
      refine zz_iconst d_LA_split_13 ?_
      refine zz_iret rfl d_LA_split_14 ?_
      exact ⟨o2, S, F, 1, RD2, FT2, sz2, PG2, cw2, fa2, fp2, sn2, sf2, xa2, Fa2, xb2, Fb2, xr2, Fr2, LA2, rfl, hf, fun l hl => Or.inl (hS l hl), hp2, ho2, Or.inr ⟨rfl, hrk⟩, hrel⟩
set_option maxRecDepth 100000 in
theorem c_LA_keep {X : ab_X} {d : Nat} {o : Nat → Nat} {G : ab_G} {lf : Nat} {F : Int → Int} {RD : Int → Int} {FT : Int → Int} {sz : Int} {PG : Nat → Option Nat} {cw : Int → Int} {fa : Int} {fp : Int} {sn : Int} {sf : Int → Int} {xa : Int} {Fa : Int → Int} {xb : Int} {Fb : Int → Int} {xr : Int} {Fr : Int → Int} {LA : Int → Int} {p0 : Int} (hp : pwW o G 18 (lf + 1) RD FT sz PG cw fa fp sn sf xa Fa xb Fb xr Fr LA) (ho : cc o G 148 348 (zl 1 F)) (cr : -2147483648 ≤ p0 ∧ p0 ≤ 2147483647) (n18 : ab_n0 = 18) (hd : 8 ≤ d) : ab_F X d y_LA_keep (.codeWith y_LA_keep b_LA_keep 3 (some (.int)) [(0, 5, 8, 13)]) [vR 18, vz p0] G (fun oc G2 => ∃ (o2 : Nat → Nat) (S : List Nat) (F2 : Int → Int) (k : Int) (RD2 : Int → Int) (FT2 : Int → Int) (sz2 : Int) (PG2 : Nat → Option Nat) (cw2 : Int → Int) (fa2 : Int) (fp2 : Int) (sn2 : Int) (sf2 : Int → Int) (xa2 : Int) (Fa2 : Int → Int) (xb2 : Int) (Fb2 : Int → Int) (xr2 : Int) (Fr2 : Int → Int) (LA2 : Int → Int), oc = .returned (some (vz k)) ∧ fx o o2 S G G2 ∧ (∀ l ∈ S, (18 ≤ l ∧ l < 190) ∨ l = 348) ∧ pwW o2 G2 18 lf RD2 FT2 sz2 PG2 cw2 fa2 fp2 sn2 sf2 xa2 Fa2 xb2 Fb2 xr2 Fr2 LA2 ∧ cc o2 G2 148 348 (zl 1 F2) ∧ (RD2 = RD ∧ FT2 = FT ∧ sz2 = sz ∧ PG2 = PG ∧ cw2 = cw ∧ fa2 = fa ∧ fp2 = fp ∧ sn2 = sn ∧ sf2 = sf ∧ xa2 = xa ∧ Fa2 = Fa ∧ xb2 = xb ∧ Fb2 = Fb ∧ xr2 = xr ∧ Fr2 = Fr ∧ LA2 = LA) ∧ ((k = 0 ∧ 4 ≤ p0 ∧ p0 ≤ 64) ∨ (k = 1 ∧ (p0 < 4 ∨ 64 < p0)))) := by
  refine ab_F_ofW (by decide +kernel) (Nat.le_of_ble_eq_true rfl) ?_
  change ab_W X (ab_plW y_LA_keep b_LA_keep 3 (some (.int)) [(0, 5, 8, 13)]) d G 0 [some (vR 18), some (vz p0), none] [] _
  refine ab_aload_n d_LA_keep_0 rfl ?_
  refine ab_iload_n d_LA_keep_1 rfl ?_
  obtain ⟨fsR, hR⟩ := hp.recv
  refine ab_callVE (d' := d - 1) (hp := 8) (ct := 13) (as := [vz p0]) (st := []) (w_keep hp cr n18 (by omega)) (fun oc G2 h => ?_) (by omega) m_PW_keep (ab_t8 (List.mem_of_getElem? (i := 2) rfl)) im_PW_keep se_PW_keep c_PW hR (Nat.le_of_ble_eq_true rfl) d_LA_keep_2 rfl (fun c hc => ab_hx hc (by decide)) (by decide) cl_LA_13 cast_IA ?_ ?_
  · obtain ⟨_, _, _, _, _, _, _, _, _, _, _, _, _, _, _, _, _, _, _, _, _, h, _⟩ := h
    rcases h with ⟨h, _⟩ | ⟨b, h, h2, _⟩
    · exact Or.inl ⟨_, h⟩
    · exact Or.inr ⟨_, h, h2⟩
  · intro v G2 hq
    obtain ⟨o2, S, RD2, FT2, sz2, PG2, cw2, fa2, fp2, sn2, sf2, xa2, Fa2, xb2, Fb2, xr2, Fr2, LA2, hf, hS, hp2, hr, hrel⟩ := hq
    rcases hr with ⟨hr, hk⟩ | ⟨b, hr, _⟩
    · cases hr
      have ho2 := hf.get ho (nl_w hS 348 (by decide))
      change ab_W X _ d G2 5 [some (vR 18), some (vz p0), none] [] _
      refine ab_goto d_LA_keep_5 (tgt := 11) (by decide) ?_
      refine zz_iconst d_LA_keep_11 ?_
      refine zz_iret rfl d_LA_keep_12 ?_
      exact ⟨o2, S, F, 0, RD2, FT2, sz2, PG2, cw2, fa2, fp2, sn2, sf2, xa2, Fa2, xb2, Fb2, xr2, Fr2, LA2, rfl, hf, fun l hl => Or.inl (hS l hl), hp2, ho2, hrel, Or.inl ⟨rfl, hk⟩⟩
    · cases hr
  · intro b G2 hq
    obtain ⟨o2, S, RD2, FT2, sz2, PG2, cw2, fa2, fp2, sn2, sf2, xa2, Fa2, xb2, Fb2, xr2, Fr2, LA2, hf, hS, hp2, hr, hrel⟩ := hq
    rcases hr with ⟨hr, _⟩ | ⟨b2, hr, hb, hk⟩
    · cases hr
    · cases hr
      have ho2 := hf.get ho (nl_w hS 348 (by decide))
      refine ab_astore_n d_LA_keep_8 (Nat.le_of_ble_eq_true rfl) (Nat.le_of_ble_eq_true rfl) rfl ?_
      refine zz_iconst d_LA_keep_9 ?_
      refine zz_iret rfl d_LA_keep_10 ?_
      exact ⟨o2, S, F, 1, RD2, FT2, sz2, PG2, cw2, fa2, fp2, sn2, sf2, xa2, Fa2, xb2, Fb2, xr2, Fr2, LA2, rfl, hf, fun l hl => Or.inl (hS l hl), hp2, ho2, hrel, Or.inr ⟨rfl, hk⟩⟩
