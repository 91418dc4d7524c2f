theorem axPW_subject_0 {nm : Nat} (h0 : 64 ≤ nm ∧ nm ≤ 52026) : (nm : Int) ≤ 52026 := by omega
theorem axPW_subject_1 {n : Int} {m : Nat} (h0 : m ≤ 2000 ∧ 32 ≤ m ∧ 0 ≤ n ∧ n ≤ 2000) : (m : Int) ≤ 2000 := by omega
theorem axPW_subject_2 {mr_t : Nat} {mr_a : Nat} {mr_b : Nat} {mr_p : Nat} {mr_r : Nat} {mr_s : Nat} {sz_t : Int} (h0 : mr_t ≤ 2000 ∧ mr_a ≤ 4002 ∧ mr_b ≤ 4004 ∧ mr_p ≤ 2000 ∧ mr_r ≤ 6000 ∧ mr_s ≤ 6000 ∧ 0 ≤ sz_t ∧ sz_t ≤ 2000) : (mr_t : Int) ≤ 2000 := by omega
theorem axPW_subject_3 {mr_t : Nat} {mr_a : Nat} {mr_b : Nat} {mr_p : Nat} {mr_r : Nat} {mr_s : Nat} {sz_t : Int} (h0 : mr_t ≤ 2000 ∧ mr_a ≤ 4002 ∧ mr_b ≤ 4004 ∧ mr_p ≤ 2000 ∧ mr_r ≤ 6000 ∧ mr_s ≤ 6000 ∧ 0 ≤ sz_t ∧ sz_t ≤ 2000) : (mr_a : Int) ≤ 4002 := by omega
theorem axPW_subject_4 {mr_t : Nat} {mr_a : Nat} {mr_b : Nat} {mr_p : Nat} {mr_r : Nat} {mr_s : Nat} {sz_t : Int} (h0 : mr_t ≤ 2000 ∧ mr_a ≤ 4002 ∧ mr_b ≤ 4004 ∧ mr_p ≤ 2000 ∧ mr_r ≤ 6000 ∧ mr_s ≤ 6000 ∧ 0 ≤ sz_t ∧ sz_t ≤ 2000) : (mr_b : Int) ≤ 4004 := by omega
theorem axPW_subject_5 {mr_t : Nat} {mr_a : Nat} {mr_b : Nat} {mr_p : Nat} {mr_r : Nat} {mr_s : Nat} {sz_t : Int} (h0 : mr_t ≤ 2000 ∧ mr_a ≤ 4002 ∧ mr_b ≤ 4004 ∧ mr_p ≤ 2000 ∧ mr_r ≤ 6000 ∧ mr_s ≤ 6000 ∧ 0 ≤ sz_t ∧ sz_t ≤ 2000) : (mr_p : Int) ≤ 2000 := by omega
theorem axPW_subject_6 {mr_t : Nat} {mr_a : Nat} {mr_b : Nat} {mr_p : Nat} {mr_r : Nat} {mr_s : Nat} {sz_t : Int} (h0 : mr_t ≤ 2000 ∧ mr_a ≤ 4002 ∧ mr_b ≤ 4004 ∧ mr_p ≤ 2000 ∧ mr_r ≤ 6000 ∧ mr_s ≤ 6000 ∧ 0 ≤ sz_t ∧ sz_t ≤ 2000) : (mr_r : Int) ≤ 6000 := by omega
theorem axPW_subject_7 {mr_t : Nat} {mr_a : Nat} {mr_b : Nat} {mr_p : Nat} {mr_r : Nat} {mr_s : Nat} {sz_t : Int} (h0 : mr_t ≤ 2000 ∧ mr_a ≤ 4002 ∧ mr_b ≤ 4004 ∧ mr_p ≤ 2000 ∧ mr_r ≤ 6000 ∧ mr_s ≤ 6000 ∧ 0 ≤ sz_t ∧ sz_t ≤ 2000) : (mr_s : Int) ≤ 6000 := by omega
theorem axPW_subject_8 {NR : Nat → Nat} {on : Nat} {nm : Nat} {ns : Nat} {nt : Nat} {n : Int} {m : Nat} {mr_t : Nat} {mr_a : Nat} {mr_b : Nat} {mr_p : Nat} {mr_r : Nat} {mr_s : Nat} {nb : Nat} {sz_t : Int} {lf : Nat} {k_ : Nat} {G : ab_G} (h0 : mr_t ≤ 2000 ∧ mr_a ≤ 4002 ∧ mr_b ≤ 4004 ∧ mr_p ≤ 2000 ∧ mr_r ≤ 6000 ∧ mr_s ≤ 6000 ∧ 0 ≤ sz_t ∧ sz_t ≤ 2000) (h1 : 64 * (↑G.length : Int) + 11489248 + 9000 * ↑(lf + 1) + 400 * sz_t ≤ 64 * (↑ab_n0 + ↑room_1.cells) + ↑(64 * nm + 64 * stC ns + nt + onPQ on + nb + 2 * sumN prC NR + 64 * mr_t + 64 * mr_a + 64 * mr_b + 64 * mr_p + 64 * mr_r + 64 * mr_s + 256 * m)) (h2 : 64 ≤ nm ∧ nm ≤ 52026) (h3 : nt ≤ 104000) (h4 : nb ≤ 104000) (h5 : m ≤ 2000 ∧ 32 ≤ m ∧ 0 ≤ n ∧ n ≤ 2000) (h6 : stC ns ≤ 5) (h7 : onPQ on ≤ 192) (h8 : sumN prC NR ≤ 5 * 100224 + prC (NR k_)) (h9 : prC (NR k_) ≤ 100224) : G.length + 4 ≤ ab_n0 + room_1.cells := by omega
theorem axPW_subject_9 {NR : Nat → Nat} {on : Nat} {nm : Nat} {ns : Nat} {nt : Nat} {n : Int} {m : Nat} {mr_t : Nat} {mr_a : Nat} {mr_b : Nat} {mr_p : Nat} {mr_r : Nat} {mr_s : Nat} {nb : Nat} {sz_t : Int} {lf : Nat} {k_ : Nat} {G : ab_G} (h0 : mr_t ≤ 2000 ∧ mr_a ≤ 4002 ∧ mr_b ≤ 4004 ∧ mr_p ≤ 2000 ∧ mr_r ≤ 6000 ∧ mr_s ≤ 6000 ∧ 0 ≤ sz_t ∧ sz_t ≤ 2000) (h1 : (↑(ab_slots G) : Int) + 4238526 + 2200 * ↑(lf + 1) + 100 * sz_t ≤ ↑room_1.slots + ↑(zT nm 52026 + stT ns + 2 * nt + onSQ on + 2 * nb + sumN prS NR + zT mr_t 2000 + zT mr_a 4002 + zT mr_b 4004 + zT mr_p 2000 + zT mr_r 6000 + zT mr_s 6000 + 4 * zT m 2000 + 3 * m)) (h2 : nt ≤ 104000) (h3 : nb ≤ 104000) (h4 : m ≤ 2000 ∧ 32 ≤ m ∧ 0 ≤ n ∧ n ≤ 2000) (h5 : stT ns ≤ 1916393) (h6 : onSQ on ≤ 2425) (h7 : zT nm 52026 ≤ 156078) (h8 : zT m 2000 ≤ 6000) (h9 : zT mr_t 2000 ≤ 6000) (h10 : zT mr_a 4002 ≤ 12006) (h11 : zT mr_b 4004 ≤ 12012) (h12 : zT mr_p 2000 ≤ 6000) (h13 : zT mr_r 6000 ≤ 18000) (h14 : zT mr_s 6000 ≤ 18000) (h15 : sumN prS NR ≤ 5 * 202602 + prS (NR k_)) (h16 : prS (NR k_) ≤ 202602) : ab_slots G + 8003 ≤ room_1.slots := by omega
theorem axPW_subject_10 {lr_ : Nat} {ls_ : Nat} {jr_ : Nat} {k_ : Nat} (hk6 : k_ < 6) (cjr : lr_ = 77 + 2 * jr_ ∧ ls_ + 2 * jr_ = 79 ∧ jr_ ≤ 1) : ¬ lr_ ∈ [22, 26, 27, 28, 29, 30] := by simp only [List.mem_cons, List.not_mem_nil, or_false]; omega
theorem axPW_subject_11 {lr_ : Nat} {ls_ : Nat} {jr_ : Nat} {k_ : Nat} (hk6 : k_ < 6) (cjr : lr_ = 77 + 2 * jr_ ∧ ls_ + 2 * jr_ = 79 ∧ jr_ ≤ 1) : ¬ (lr_ + 1) ∈ [22, 26, 27, 28, 29, 30] := by simp only [List.mem_cons, List.not_mem_nil, or_false]; omega
theorem axPW_subject_12 {lr_ : Nat} {ls_ : Nat} {jr_ : Nat} {k_ : Nat} (hk6 : k_ < 6) (cjr : lr_ = 77 + 2 * jr_ ∧ ls_ + 2 * jr_ = 79 ∧ jr_ ≤ 1) : ¬ ls_ ∈ [22, 26, 27, 28, 29, 30] := by simp only [List.mem_cons, List.not_mem_nil, or_false]; omega
theorem axPW_subject_13 {lr_ : Nat} {ls_ : Nat} {jr_ : Nat} {k_ : Nat} (hk6 : k_ < 6) (cjr : lr_ = 77 + 2 * jr_ ∧ ls_ + 2 * jr_ = 79 ∧ jr_ ≤ 1) : ¬ (ls_ + 1) ∈ [22, 26, 27, 28, 29, 30] := by simp only [List.mem_cons, List.not_mem_nil, or_false]; omega
theorem axPW_subject_14 {n : Int} {m : Nat} {mr_t : Nat} {mr_a : Nat} {mr_b : Nat} {mr_p : Nat} {mr_r : Nat} {mr_s : Nat} {sz_t : Int} {m231 : Nat} {mc232 : Nat} {G : ab_G} {G21 : ab_G} (h0 : mr_t ≤ 2000 ∧ mr_a ≤ 4002 ∧ mr_b ≤ 4004 ∧ mr_p ≤ 2000 ∧ mr_r ≤ 6000 ∧ mr_s ≤ 6000 ∧ 0 ≤ sz_t ∧ sz_t ≤ 2000) (h1 : m ≤ 2000 ∧ 32 ≤ m ∧ 0 ≤ n ∧ n ≤ 2000) (h2 : G.length ≤ G21.length) (h3 : sz_t ≤ ↑m231 ∧ 32 ≤ m231 ∧ m231 ≤ 2000 ∧ mc232 = m231 + 1) (h4 : G21.length + 4 * m ≤ G.length + 4 * m231) : 0 ≤ sz_t ∧ sz_t ≤ ↑m231 ∧ 32 ≤ m231 ∧ m231 ≤ 2000 ∧ mc232 = m231 + 1 := by omega
theorem axPW_subject_15 {mr_t : Nat} {mr_a : Nat} {mr_b : Nat} {mr_p : Nat} {mr_r : Nat} {mr_s : Nat} {sz_t : Int} (h0 : mr_t ≤ 2000 ∧ mr_a ≤ 4002 ∧ mr_b ≤ 4004 ∧ mr_p ≤ 2000 ∧ mr_r ≤ 6000 ∧ mr_s ≤ 6000 ∧ 0 ≤ sz_t ∧ sz_t ≤ 2000) : 0 ≤ sz_t := by omega
theorem axPW_subject_16 {mr_t : Nat} {mr_a : Nat} {mr_b : Nat} {mr_p : Nat} {mr_r : Nat} {mr_s : Nat} {sz_t : Int} (h0 : mr_t ≤ 2000 ∧ mr_a ≤ 4002 ∧ mr_b ≤ 4004 ∧ mr_p ≤ 2000 ∧ mr_r ≤ 6000 ∧ mr_s ≤ 6000 ∧ 0 ≤ sz_t ∧ sz_t ≤ 2000) (h1 : 0 ≤ sz_t ∧ sz_t ≤ ↑mr_t ∧ ↑mr_t ≤ (2000 : Int) ∧ 32 ≤ mr_t) : (0 : Int) ≤ 0 ∧ (0 : Int) ≤ ↑mr_t ∧ ↑mr_t ≤ (2000 : Int) ∧ 32 ≤ mr_t := by omega
theorem axPW_subject_17 {mr_t : Nat} {mr_a : Nat} {mr_b : Nat} {mr_p : Nat} {mr_r : Nat} {mr_s : Nat} {sz_t : Int} (h0 : mr_t ≤ 2000 ∧ mr_a ≤ 4002 ∧ mr_b ≤ 4004 ∧ mr_p ≤ 2000 ∧ mr_r ≤ 6000 ∧ mr_s ≤ 6000 ∧ 0 ≤ sz_t ∧ sz_t ≤ 2000) : mr_t ≤ 2000 ∧ mr_a ≤ 4002 ∧ mr_b ≤ 4004 ∧ mr_p ≤ 2000 ∧ mr_r ≤ 6000 ∧ mr_s ≤ 6000 ∧ (0 : Int) ≤ 0 ∧ (0 : Int) ≤ 2000 := by omega
theorem axPW_subject_18 {cmp : Int} {lf : Nat} (h0 : 0 ≤ cmp ∧ cmp + ↑(lf + 1) ≤ 600) : 0 ≤ cmp ∧ cmp + ↑lf ≤ 600 := by omega
theorem axPW_subject_19 {NR : Nat → Nat} {on : Nat} {nm : Nat} {ns : Nat} {nt : Nat} {m : Nat} {mr_t : Nat} {mr_a : Nat} {mr_b : Nat} {mr_p : Nat} {mr_r : Nat} {mr_s : Nat} {nb : Nat} {sz_t : Int} {lf : Nat} {m231 : Nat} {G : ab_G} {G21 : ab_G} (h0 : mr_t ≤ 2000 ∧ mr_a ≤ 4002 ∧ mr_b ≤ 4004 ∧ mr_p ≤ 2000 ∧ mr_r ≤ 6000 ∧ mr_s ≤ 6000 ∧ 0 ≤ sz_t ∧ sz_t ≤ 2000) (h1 : (↑(ab_slots G) : Int) + 4238526 + 2200 * ↑(lf + 1) + 100 * sz_t ≤ ↑room_1.slots + ↑(zT nm 52026 + stT ns + 2 * nt + onSQ on + 2 * nb + sumN prS NR + zT mr_t 2000 + zT mr_a 4002 + zT mr_b 4004 + zT mr_p 2000 + zT mr_r 6000 + zT mr_s 6000 + 4 * zT m 2000 + 3 * m)) (h2 : ab_slots G21 + 4 * zT m 2000 + 3 * m ≤ ab_slots G + 4 * zT m231 2000 + 3 * m231) : (↑(ab_slots G21) : Int) + 4238526 + 2200 * ↑lf + 100 * 0 ≤ ↑room_1.slots + ↑(zT nm 52026 + stT ns + 2 * nt + onSQ on + 2 * nb + sumN prS NR + zT mr_t 2000 + zT mr_a 4002 + zT mr_b 4004 + zT mr_p 2000 + zT mr_r 6000 + zT mr_s 6000 + 4 * zT m231 2000 + 3 * m231) := by omega
theorem axPW_subject_20 {NR : Nat → Nat} {on : Nat} {nm : Nat} {ns : Nat} {nt : Nat} {m : Nat} {mr_t : Nat} {mr_a : Nat} {mr_b : Nat} {mr_p : Nat} {mr_r : Nat} {mr_s : Nat} {nb : Nat} {sz_t : Int} {lf : Nat} {m231 : Nat} {G : ab_G} {G21 : ab_G} (h0 : mr_t ≤ 2000 ∧ mr_a ≤ 4002 ∧ mr_b ≤ 4004 ∧ mr_p ≤ 2000 ∧ mr_r ≤ 6000 ∧ mr_s ≤ 6000 ∧ 0 ≤ sz_t ∧ sz_t ≤ 2000) (h1 : 64 * (↑G.length : Int) + 11489248 + 9000 * ↑(lf + 1) + 400 * sz_t ≤ 64 * (↑ab_n0 + ↑room_1.cells) + ↑(64 * nm + 64 * stC ns + nt + onPQ on + nb + 2 * sumN prC NR + 64 * mr_t + 64 * mr_a + 64 * mr_b + 64 * mr_p + 64 * mr_r + 64 * mr_s + 256 * m)) (h2 : G21.length + 4 * m ≤ G.length + 4 * m231) : 64 * (↑G21.length : Int) + 11489248 + 9000 * ↑lf + 400 * 0 ≤ 64 * (↑ab_n0 + ↑room_1.cells) + ↑(64 * nm + 64 * stC ns + nt + onPQ on + nb + 2 * sumN prC NR + 64 * mr_t + 64 * mr_a + 64 * mr_b + 64 * mr_p + 64 * mr_r + 64 * mr_s + 256 * m231) := by omega
theorem axPW_subject_21 {sb : Int} {lf : Nat} (h0 : 0 ≤ sb ∧ sb + 25000 * ↑(lf + 1) ≤ 13000000) : 0 ≤ sb ∧ sb + 25000 * ↑lf ≤ 13000000 := by omega
set_option maxRecDepth 100000 in
set_option maxHeartbeats 4000000 in
theorem w_subject {X : ab_X} {d : Nat} {o : Nat → Nat} {G : ab_G} {w_ lf : Nat} {RD_ : Int → Int} {F_t : Int → Int} {sz_t : Int} {PG : Nat → Option Nat} {cv : Int → Int} {fa : Int} {fp : Int} {n : Int} {f : Int → Int} {sz_a : Int} {F_a : Int → Int} {sz_b : Int} {F_b : Int → Int} {sz_r : Int} {F_r : Int → Int} {LA : Int → Int} (h : pwW o G w_ (lf + 1) RD_ F_t sz_t PG cv fa fp n f sz_a F_a sz_b F_b sz_r F_r LA)  (n18 : ab_n0 = 18) (hd : 5 ≤ d) : ab_F X d y_PW_subject (.code y_PW_subject b_PW_subject 1 (some (.int))) [vR w_] G (fun oc G2 => ∃ (o2 : Nat → Nat) (S : List Nat) (RD2 : Int → Int) (F2 : Int → Int) (sz2 : Int) (PG2 : Nat → Option Nat) (cw2 : Int → Int) (fa2 : Int) (fp2 : Int) (sn2 : Int) (sf2 : Int → Int) (za2 : Int) (Fa2 : Int → Int) (zb2 : Int) (Fb2 : Int → Int) (zr2 : Int) (Fr2 : Int → Int) (LA2 : Int → Int), fx o o2 S G G2 ∧ (∀ l ∈ S, 18 ≤ l ∧ l < 190) ∧ pwW o2 G2 w_ lf RD2 F2 sz2 PG2 cw2 fa2 fp2 sn2 sf2 za2 Fa2 zb2 Fb2 zr2 Fr2 LA2 ∧ oc = .returned (some (vz sz_t)) ∧ sz2 = 0 ∧ sn2 = sz_t ∧ cpE sf2 F_t sz_t ∧ RD2 = RD_ ∧ F2 = F_t ∧ PG2 = PG ∧ cw2 = cv ∧ fa2 = fa ∧ fp2 = fp ∧ za2 = sz_a ∧ Fa2 = F_a ∧ zb2 = sz_b ∧ Fb2 = F_b ∧ zr2 = sz_r ∧ Fr2 = F_r ∧ LA2 = LA) := by
  obtain ⟨k_, hkq⟩ := kq6_ex 0
  have hk6 := hkq.1
  obtain ⟨f_ready, f_tape, f_reader, f_programs, f_subject, f_spans, f_threads, f_marks, f_oneMind, f_states, f_latest, f_matches, f_pieces, f_template, f_result, f_spare, cmp, sb, NR, on, nm, ns, nt, m, mr_t, mr_a, mr_b, mr_p, mr_r, mr_s, lr_, ls_, jr_, nb, sz_s, F_s, hw_, hf_programs, h17, h15, h16, pthI_f_threads, pmkI_f_marks, pomI_f_oneMind, pstI_f_states, psuI_f_subject, ppgI_0, prdI_f_reader, ptbI_0, pryJ_f_ready, ptpJ_f_tape, pspJ_f_spans, plaJ_f_latest, pmaJ_f_matches, ppcJ_f_pieces, ptmJ_f_template, prsJ_f_result, prsJ_f_spare, cjr, hmr, hpn, ccm, hS, hC, csb⟩ := h
  have hb1 : 64 ≤ nm ∧ nm ≤ 52026 := pmkI_f_marks.b
  have hb2 : nt ≤ 104000 := pomI_f_oneMind.nt
  have hb3 : nb ≤ 104000 := prdI_f_reader.b
  have hb4 : m ≤ 2000 ∧ 32 ≤ m ∧ 0 ≤ n ∧ n ≤ 2000 := psuI_f_subject.b
  have hb5 : stT ns ≤ 1916393 := stT_le ns
  have hb6 : stC ns ≤ 5 := stC_le ns
  have hb7 : onPQ on ≤ 192 := onPQ_le on
  have hb8 : onSQ on ≤ 2425 := onSQ_le on
  have hb9 : zT nm 52026 ≤ 156078 := zT_le (n := nm) (lim := 52026) (c := 52026) (axPW_subject_0 hb1) rfl
  have hb10 : zT m 2000 ≤ 6000 := zT_le (n := m) (lim := 2000) (c := 2000) (axPW_subject_1 hb4) rfl
  have hb11 : zT mr_t 2000 ≤ 6000 := zT_le (n := mr_t) (lim := 2000) (c := 2000) (axPW_subject_2 hmr) rfl
  have hb12 : zT mr_a 4002 ≤ 12006 := zT_le (n := mr_a) (lim := 4002) (c := 4002) (axPW_subject_3 hmr) rfl
  have hb13 : zT mr_b 4004 ≤ 12012 := zT_le (n := mr_b) (lim := 4004) (c := 4004) (axPW_subject_4 hmr) rfl
  have hb14 : zT mr_p 2000 ≤ 6000 := zT_le (n := mr_p) (lim := 2000) (c := 2000) (axPW_subject_5 hmr) rfl
  have hb15 : zT mr_r 6000 ≤ 18000 := zT_le (n := mr_r) (lim := 6000) (c := 6000) (axPW_subject_6 hmr) rfl
  have hb16 : zT mr_s 6000 ≤ 18000 := zT_le (n := mr_s) (lim := 6000) (c := 6000) (axPW_subject_7 hmr) rfl
  have hb17 : sumN prS NR ≤ 5 * 202602 + prS (NR k_) := sumN_le (f := prS) (k := k_) (fun j hj => prS_le (ppgI_0.nr hpn j hj)) hk6
  have hb18 : prS (NR k_) ≤ 202602 := prS_le (ppgI_0.nr hpn k_ hk6)
  have hb19 : sumN prC NR ≤ 5 * 100224 + prC (NR k_) := sumN_le (f := prC) (k := k_) (fun j hj => prC_le (ppgI_0.nr hpn j hj)) hk6
  have hb20 : prC (NR k_) ≤ 100224 := prC_le (ppgI_0.nr hpn k_ hk6)
  obtain ⟨it_t, hf_tape, hit_t, crw_t, hbt⟩ := ptpJ_f_tape
  obtain ⟨by_, co, re, ho, C, Rs, H, mc, hf_subject, hby_, hco, hre, hho, csu, hsu⟩ := psuI_f_subject
  have hfr : fx o o [22, 26, 27, 28, 29, 30] G G := fx.rf
  refine (z_PW_subject (o := o) (w_ := w_) (f_ready := f_ready) (f_tape := f_tape) (f_reader := f_reader) (f_programs := f_programs) (f_subject := f_subject) (f_spans := f_spans) (f_threads := f_threads) (f_marks := f_marks) (f_oneMind := f_oneMind) (f_states := f_states) (f_latest := f_latest) (f_matches := f_matches) (f_pieces := f_pieces) (f_template := f_template) (f_result := f_result) (f_spare := f_spare) (cmp := cmp) (ovs := 0) (by_ := by_) (co := co) (re := re) (ho := ho) (n := n) (f := f) (C := C) (Rs := Rs) (H := H) (m := m) (mc := mc) (it_t := it_t) (sz_t := sz_t) (mr_t := mr_t) (F_t := F_t) hw_ hf_subject hby_ hco hre hho hf_tape hit_t n18 csu crw_t hbt (axPW_subject_8 hmr hC hb1 hb2 hb3 hb4 hb6 hb7 hb19 hb20) (axPW_subject_9 hmr hS hb2 hb3 hb4 hb5 hb8 hb9 hb10 hb11 hb12 hb13 hb14 hb15 hb16 hb17 hb18) hd).post (fun oc G21 hq => ?_)
  rcases hq with ⟨o22, by223, co224, re225, ho226, f227, C228, R229, H230, m231, mc232, hv, hfk, hNf_subject, hNby223, hNco224, hNre225, hNho226, hNf_tape, hq33, hq34, hq35, hq36, hq37⟩
  cases hv
  have hw_ := hfk.get hw_ (by decide)
  have hf_programs := hfk.get hf_programs (by decide)
  have h17 := hfk.get h17 (by decide)
  have h15 := hfk.get h15 (by decide)
  have h16 := hfk.get h16 (by decide)
  have hit_t := hfk.get hit_t (by decide)
  have pthI_f_threads := thI.fr hfk pthI_f_threads (by decide) (by decide) (by decide) (by decide) (by decide) (by decide) (by decide) (by decide)
  have pmkI_f_marks := mkI.fr hfk pmkI_f_marks (by decide) (by decide) (by decide) (by decide)
  have pomI_f_oneMind := omI.fr hfk pomI_f_oneMind (by decide) (by decide) (by decide) (by decide) (by decide) (by decide) (by decide) (by decide)
  have pstI_f_states := stI.fr hfk pstI_f_states (by decide) (by decide) (by decide) (by decide) (by decide) (by decide) (by decide) (by decide) (by decide)
  have ppgI_0 := pgI.fr hfk ppgI_0  (by decide)
  have prdI_f_reader := rdI.fr hfk prdI_f_reader (by decide) (by decide) (by decide) (by decide) (by decide) (by decide)
  have ptbI_0 := tbI.fr hfk ptbI_0  (by decide)
  have pryJ_f_ready := ryJ.fr hfk pryJ_f_ready (by decide)
  have pspJ_f_spans := spJ.fr hfk pspJ_f_spans (by decide)
  have plaJ_f_latest := laJ.fr hfk plaJ_f_latest (by decide)
  have pmaJ_f_matches := maJ.fr hfk pmaJ_f_matches (by decide) (by decide)
  have ppcJ_f_pieces := pcJ.fr hfk ppcJ_f_pieces (by decide) (by decide)
  have ptmJ_f_template := tmJ.fr hfk ptmJ_f_template (by decide) (by decide)
  have prsJ_f_result := rsJ.fr hfk prsJ_f_result (axPW_subject_10 hk6 cjr) (axPW_subject_11 hk6 cjr)
  have prsJ_f_spare := rsJ.fr hfk prsJ_f_spare (axPW_subject_12 hk6 cjr) (axPW_subject_13 hk6 cjr)
  have hfr := hfr.tr hfk (fun _ h => h)
  have hq38 := hfk.1
  have hf_subject := hNf_subject
  have hby223 := hNby223
  have hco224 := hNco224
  have hre225 := hNre225
  have hho226 := hNho226
  have hf_tape := hNf_tape
  have psuI_f_subject : suI o22 G21 f_subject sz_t m231 f227 := ⟨by223, co224, re225, ho226, C228, R229, H230, mc232, hf_subject, hby223, hco224, hre225, hho226, (axPW_subject_14 hmr hb4 hq38 hq35 hq36), hq33⟩
  have ptpJ_f_tape : tpJ o22 G21 f_tape mr_t 0 F_t := ⟨it_t, hf_tape, hit_t, (axPW_subject_16 hmr crw_t), (bytes_le hbt (axPW_subject_15 hmr))⟩
  have ppwW_w_ : pwW o22 G21 w_ lf RD_ F_t 0 PG cv fa fp sz_t f227 sz_a F_a sz_b F_b sz_r F_r LA := ⟨f_ready, f_tape, f_reader, f_programs, f_subject, f_spans, f_threads, f_marks, f_oneMind, f_states, f_latest, f_matches, f_pieces, f_template, f_result, f_spare, cmp, sb, NR, on, nm, ns, nt, m231, mr_t, mr_a, mr_b, mr_p, mr_r, mr_s, lr_, ls_, jr_, nb, sz_s, F_s, hw_, hf_programs, h17, h15, h16, pthI_f_threads, pmkI_f_marks, pomI_f_oneMind, pstI_f_states, psuI_f_subject, ppgI_0, prdI_f_reader, ptbI_0, pryJ_f_ready, ptpJ_f_tape, pspJ_f_spans, plaJ_f_latest, pmaJ_f_matches, ppcJ_f_pieces, ptmJ_f_template, prsJ_f_result, prsJ_f_spare, cjr, (axPW_subject_17 hmr), hpn, (axPW_subject_18 ccm), (axPW_subject_19 hmr hS hq37), (axPW_subject_20 hmr hC hq36), (axPW_subject_21 csb)⟩
  exact ⟨_, _, RD_, F_t, 0, PG, cv, fa, fp, sz_t, f227, sz_a, F_a, sz_b, F_b, sz_r, F_r, LA, hfr, (by decide), ppwW_w_, rfl, rfl, rfl, hq34, rfl, rfl, rfl, rfl, rfl, rfl, rfl, rfl, rfl, rfl, rfl, rfl, rfl⟩
