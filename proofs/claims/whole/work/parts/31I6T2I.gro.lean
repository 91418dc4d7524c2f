theorem axPW_group_0 {nm : Nat} (h0 : 64 ≤ nm ∧ nm ≤ 52026) : (nm : Int) ≤ 52026 := by omega
theorem axPW_group_1 {n : Int} {m : Nat} (h0 : m ≤ 2000 ∧ 32 ≤ m ∧ 0 ≤ n ∧ n ≤ 2000) : (m : Int) ≤ 2000 := by omega
theorem axPW_group_2 {mr_t : Nat} {mr_a : Nat} {mr_b : Nat} {mr_p : Nat} {mr_r : Nat} {mr_s : Nat} {sz_t : Int} (h0 : mr_t ≤ 2000 ∧ mr_a ≤ 4002 ∧ mr_b ≤ 4004 ∧ mr_p ≤ 2000 ∧ mr_r ≤ 6000 ∧ mr_s ≤ 6000 ∧ 0 ≤ sz_t ∧ sz_t ≤ 2000) : (mr_t : Int) ≤ 2000 := by omega
theorem axPW_group_3 {mr_t : Nat} {mr_a : Nat} {mr_b : Nat} {mr_p : Nat} {mr_r : Nat} {mr_s : Nat} {sz_t : Int} (h0 : mr_t ≤ 2000 ∧ mr_a ≤ 4002 ∧ mr_b ≤ 4004 ∧ mr_p ≤ 2000 ∧ mr_r ≤ 6000 ∧ mr_s ≤ 6000 ∧ 0 ≤ sz_t ∧ sz_t ≤ 2000) : (mr_a : Int) ≤ 4002 := by omega
theorem axPW_group_4 {mr_t : Nat} {mr_a : Nat} {mr_b : Nat} {mr_p : Nat} {mr_r : Nat} {mr_s : Nat} {sz_t : Int} (h0 : mr_t ≤ 2000 ∧ mr_a ≤ 4002 ∧ mr_b ≤ 4004 ∧ mr_p ≤ 2000 ∧ mr_r ≤ 6000 ∧ mr_s ≤ 6000 ∧ 0 ≤ sz_t ∧ sz_t ≤ 2000) : (mr_b : Int) ≤ 4004 := by omega
theorem axPW_group_5 {mr_t : Nat} {mr_a : Nat} {mr_b : Nat} {mr_p : Nat} {mr_r : Nat} {mr_s : Nat} {sz_t : Int} (h0 : mr_t ≤ 2000 ∧ mr_a ≤ 4002 ∧ mr_b ≤ 4004 ∧ mr_p ≤ 2000 ∧ mr_r ≤ 6000 ∧ mr_s ≤ 6000 ∧ 0 ≤ sz_t ∧ sz_t ≤ 2000) : (mr_p : Int) ≤ 2000 := by omega
theorem axPW_group_6 {mr_t : Nat} {mr_a : Nat} {mr_b : Nat} {mr_p : Nat} {mr_r : Nat} {mr_s : Nat} {sz_t : Int} (h0 : mr_t ≤ 2000 ∧ mr_a ≤ 4002 ∧ mr_b ≤ 4004 ∧ mr_p ≤ 2000 ∧ mr_r ≤ 6000 ∧ mr_s ≤ 6000 ∧ 0 ≤ sz_t ∧ sz_t ≤ 2000) : (mr_r : Int) ≤ 6000 := by omega
theorem axPW_group_7 {mr_t : Nat} {mr_a : Nat} {mr_b : Nat} {mr_p : Nat} {mr_r : Nat} {mr_s : Nat} {sz_t : Int} (h0 : mr_t ≤ 2000 ∧ mr_a ≤ 4002 ∧ mr_b ≤ 4004 ∧ mr_p ≤ 2000 ∧ mr_r ≤ 6000 ∧ mr_s ≤ 6000 ∧ 0 ≤ sz_t ∧ sz_t ≤ 2000) : (mr_s : Int) ≤ 6000 := by omega
theorem axPW_group_8 {cmp : Int} {lf : Nat} (h0 : 0 ≤ cmp ∧ cmp + ↑(lf + 1) ≤ 600) : 0 ≤ cmp ∧ cmp + ↑lf ≤ 600 := by omega
theorem axPW_group_9 {NR : Nat → Nat} {on : Nat} {nm : Nat} {ns : Nat} {nt : Nat} {m : Nat} {mr_t : Nat} {mr_a : Nat} {mr_b : Nat} {mr_p : Nat} {mr_r : Nat} {mr_s : Nat} {nb : Nat} {sz_t : Int} {lf : Nat} {G : ab_G} (h0 : (↑(ab_slots G) : Int) + 4238526 + 2200 * ↑(lf + 1) + 100 * sz_t ≤ ↑room_1.slots + ↑(zT nm 52026 + stT ns + 2 * nt + onSQ on + 2 * nb + sumN prS NR + zT mr_t 2000 + zT mr_a 4002 + zT mr_b 4004 + zT mr_p 2000 + zT mr_r 6000 + zT mr_s 6000 + 4 * zT m 2000 + 3 * m)) : (↑(ab_slots G) : Int) + 4238526 + 2200 * ↑lf + 100 * sz_t ≤ ↑room_1.slots + ↑(zT nm 52026 + stT ns + 2 * nt + onSQ on + 2 * nb + sumN prS NR + zT mr_t 2000 + zT mr_a 4002 + zT mr_b 4004 + zT mr_p 2000 + zT mr_r 6000 + zT mr_s 6000 + 4 * zT m 2000 + 3 * m) := by omega
theorem axPW_group_10 {NR : Nat → Nat} {on : Nat} {nm : Nat} {ns : Nat} {nt : Nat} {m : Nat} {mr_t : Nat} {mr_a : Nat} {mr_b : Nat} {mr_p : Nat} {mr_r : Nat} {mr_s : Nat} {nb : Nat} {sz_t : Int} {lf : Nat} {G : ab_G} (h0 : 64 * (↑G.length : Int) + 11489248 + 9000 * ↑(lf + 1) + 400 * sz_t ≤ 64 * (↑ab_n0 + ↑room_1.cells) + ↑(64 * nm + 64 * stC ns + nt + onPQ on + nb + 2 * sumN prC NR + 64 * mr_t + 64 * mr_a + 64 * mr_b + 64 * mr_p + 64 * mr_r + 64 * mr_s + 256 * m)) : 64 * (↑G.length : Int) + 11489248 + 9000 * ↑lf + 400 * sz_t ≤ 64 * (↑ab_n0 + ↑room_1.cells) + ↑(64 * nm + 64 * stC ns + nt + onPQ on + nb + 2 * sumN prC NR + 64 * mr_t + 64 * mr_a + 64 * mr_b + 64 * mr_p + 64 * mr_r + 64 * mr_s + 256 * m) := by omega
theorem axPW_group_11 {sb : Int} {lf : Nat} (h0 : 0 ≤ sb ∧ sb + 25000 * ↑(lf + 1) ≤ 13000000) : 0 ≤ sb ∧ sb + 25000 * ↑lf ≤ 13000000 := by omega
set_option maxRecDepth 100000 in
set_option maxHeartbeats 4000000 in
theorem w_group {X : ab_X} {d : Nat} {o : Nat → Nat} {G : ab_G} {w_ lf : Nat} {k : Int} {wh : Int} {RD_ : Int → Int} {F_t : Int → Int} {sz_t : Int} {PG : Nat → Option Nat} {cv : Int → Int} {fa : Int} {fp : Int} {n : Int} {f : Int → Int} {sz_a : Int} {F_a : Int → Int} {sz_b : Int} {F_b : Int → Int} {sz_r : Int} {F_r : Int → Int} {LA : Int → Int} (h : pwW o G w_ (lf + 1) RD_ F_t sz_t PG cv fa fp n f sz_a F_a sz_b F_b sz_r F_r LA) (cr : -2147483648 ≤ k ∧ k ≤ 2147483647 ∧ -2147483648 ≤ wh ∧ wh ≤ 2147483647) (n18 : ab_n0 = 18) (hd : 0 ≤ d) : ab_F X d y_PW_group (.code y_PW_group b_PW_group 3 (some (.int))) [vR w_, vz k, vz wh] G (fun oc G2 => ∃ (o2 : Nat → Nat) (S : List Nat) (RD2 : Int → Int) (F2 : Int → Int) (sz2 : Int) (PG2 : Nat → Option Nat) (cw2 : Int → Int) (fa2 : Int) (fp2 : Int) (sn2 : Int) (sf2 : Int → Int) (za2 : Int) (Fa2 : Int → Int) (zb2 : Int) (Fb2 : Int → Int) (zr2 : Int) (Fr2 : Int → Int) (LA2 : Int → Int), fx o o2 S G G2 ∧ (∀ l ∈ S, 18 ≤ l ∧ l < 190) ∧ pwW o2 G2 w_ lf RD2 F2 sz2 PG2 cw2 fa2 fp2 sn2 sf2 za2 Fa2 zb2 Fb2 zr2 Fr2 LA2 ∧ ∃ v : Int, oc = .returned (some (vz v)) ∧ grC LA k wh v ∧ RD2 = RD_ ∧ F2 = F_t ∧ sz2 = sz_t ∧ PG2 = PG ∧ cw2 = cv ∧ fa2 = fa ∧ fp2 = fp ∧ sn2 = n ∧ sf2 = f ∧ za2 = sz_a ∧ Fa2 = F_a ∧ zb2 = sz_b ∧ Fb2 = F_b ∧ zr2 = sz_r ∧ Fr2 = F_r ∧ LA2 = LA) := by
  obtain ⟨k_, hkq⟩ := kq6_ex 0
  have hk6 := hkq.1
  obtain ⟨f_ready, f_tape, f_reader, f_programs, f_subject, f_spans, f_threads, f_marks, f_oneMind, f_states, f_latest, f_matches, f_pieces, f_template, f_result, f_spare, cmp, sb, NR, on, nm, ns, nt, m, mr_t, mr_a, mr_b, mr_p, mr_r, mr_s, lr_, ls_, jr_, nb, sz_s, F_s, hw_, hf_programs, h17, h15, h16, pthI_f_threads, pmkI_f_marks, pomI_f_oneMind, pstI_f_states, psuI_f_subject, ppgI_0, prdI_f_reader, ptbI_0, pryJ_f_ready, ptpJ_f_tape, pspJ_f_spans, plaJ_f_latest, pmaJ_f_matches, ppcJ_f_pieces, ptmJ_f_template, prsJ_f_result, prsJ_f_spare, cjr, hmr, hpn, ccm, hS, hC, csb⟩ := h
  have hb1 : 64 ≤ nm ∧ nm ≤ 52026 := pmkI_f_marks.b
  have hb2 : nt ≤ 104000 := pomI_f_oneMind.nt
  have hb3 : nb ≤ 104000 := prdI_f_reader.b
  have hb4 : m ≤ 2000 ∧ 32 ≤ m ∧ 0 ≤ n ∧ n ≤ 2000 := psuI_f_subject.b
  have hb5 : stT ns ≤ 1916393 := stT_le ns
  have hb6 : stC ns ≤ 5 := stC_le ns
  have hb7 : onPQ on ≤ 192 := onPQ_le on
  have hb8 : onSQ on ≤ 2425 := onSQ_le on
  have hb9 : zT nm 52026 ≤ 156078 := zT_le (n := nm) (lim := 52026) (c := 52026) (axPW_group_0 hb1) rfl
  have hb10 : zT m 2000 ≤ 6000 := zT_le (n := m) (lim := 2000) (c := 2000) (axPW_group_1 hb4) rfl
  have hb11 : zT mr_t 2000 ≤ 6000 := zT_le (n := mr_t) (lim := 2000) (c := 2000) (axPW_group_2 hmr) rfl
  have hb12 : zT mr_a 4002 ≤ 12006 := zT_le (n := mr_a) (lim := 4002) (c := 4002) (axPW_group_3 hmr) rfl
  have hb13 : zT mr_b 4004 ≤ 12012 := zT_le (n := mr_b) (lim := 4004) (c := 4004) (axPW_group_4 hmr) rfl
  have hb14 : zT mr_p 2000 ≤ 6000 := zT_le (n := mr_p) (lim := 2000) (c := 2000) (axPW_group_5 hmr) rfl
  have hb15 : zT mr_r 6000 ≤ 18000 := zT_le (n := mr_r) (lim := 6000) (c := 6000) (axPW_group_6 hmr) rfl
  have hb16 : zT mr_s 6000 ≤ 18000 := zT_le (n := mr_s) (lim := 6000) (c := 6000) (axPW_group_7 hmr) rfl
  have hb17 : sumN prS NR ≤ 5 * 202602 + prS (NR k_) := sumN_le (f := prS) (k := k_) (fun j hj => prS_le (ppgI_0.nr hpn j hj)) hk6
  have hb18 : prS (NR k_) ≤ 202602 := prS_le (ppgI_0.nr hpn k_ hk6)
  have hb19 : sumN prC NR ≤ 5 * 100224 + prC (NR k_) := sumN_le (f := prC) (k := k_) (fun j hj => prC_le (ppgI_0.nr hpn j hj)) hk6
  have hb20 : prC (NR k_) ≤ 100224 := prC_le (ppgI_0.nr hpn k_ hk6)
  obtain ⟨hf_latest, jla⟩ := plaJ_f_latest
  have hfr : fx o o [] G G := fx.rf
  refine (z_PW_group (o := o) (w_ := w_) (f_ready := f_ready) (f_tape := f_tape) (f_reader := f_reader) (f_programs := f_programs) (f_subject := f_subject) (f_spans := f_spans) (f_threads := f_threads) (f_marks := f_marks) (f_oneMind := f_oneMind) (f_states := f_states) (f_latest := f_latest) (f_matches := f_matches) (f_pieces := f_pieces) (f_template := f_template) (f_result := f_result) (f_spare := f_spare) (cmp := cmp) (ovs := 0) (k := k) (wh := wh) (LA := LA) hw_ hf_latest cr).post (fun oc G21 hq => ?_)
  rcases hq with ⟨v22, hv, hGe, hq23⟩
  cases hv
  rw [hGe]
  have plaJ_f_latest : laJ o G f_latest LA := ⟨hf_latest, jla⟩
  have ppwW_w_ : pwW o G w_ lf RD_ F_t sz_t PG cv fa fp n f sz_a F_a sz_b F_b sz_r F_r LA := ⟨f_ready, f_tape, f_reader, f_programs, f_subject, f_spans, f_threads, f_marks, f_oneMind, f_states, f_latest, f_matches, f_pieces, f_template, f_result, f_spare, cmp, sb, NR, on, nm, ns, nt, m, mr_t, mr_a, mr_b, mr_p, mr_r, mr_s, lr_, ls_, jr_, nb, sz_s, F_s, hw_, hf_programs, h17, h15, h16, pthI_f_threads, pmkI_f_marks, pomI_f_oneMind, pstI_f_states, psuI_f_subject, ppgI_0, prdI_f_reader, ptbI_0, pryJ_f_ready, ptpJ_f_tape, pspJ_f_spans, plaJ_f_latest, pmaJ_f_matches, ppcJ_f_pieces, ptmJ_f_template, prsJ_f_result, prsJ_f_spare, cjr, hmr, hpn, (axPW_group_8 ccm), (axPW_group_9 hS), (axPW_group_10 hC), (axPW_group_11 csb)⟩
  exact ⟨_, _, RD_, F_t, sz_t, PG, cv, fa, fp, n, f, sz_a, F_a, sz_b, F_b, sz_r, F_r, LA, fx.rf (S := []), fun _ h => absurd h List.not_mem_nil, ppwW_w_, _, rfl, hq23, rfl, rfl, rfl, rfl, rfl, rfl, rfl, rfl, rfl, rfl, rfl, rfl, rfl, rfl, rfl, rfl⟩
