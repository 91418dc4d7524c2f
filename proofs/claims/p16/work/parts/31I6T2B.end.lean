theorem axPW_end_0 {nm : Nat} (h0 : 64 ≤ nm ∧ nm ≤ 52026) : (nm : Int) ≤ 52026 := by omega
theorem axPW_end_1 {n : Int} {m : Nat} (h0 : m ≤ 2000 ∧ 32 ≤ m ∧ 0 ≤ n ∧ n ≤ 2000) : (m : Int) ≤ 2000 := by omega
theorem axPW_end_2 {mr_t : Nat} {mr_a : Nat} {mr_b : Nat} {mr_p : Nat} {mr_r : Nat} {mr_s : Nat} {sz_t : Int} (h0 : mr_t ≤ 2000 ∧ mr_a ≤ 4002 ∧ mr_b ≤ 4004 ∧ mr_p ≤ 2000 ∧ mr_r ≤ 6000 ∧ mr_s ≤ 6000 ∧ 0 ≤ sz_t ∧ sz_t ≤ 2000) : (mr_t : Int) ≤ 2000 := by omega
theorem axPW_end_3 {mr_t : Nat} {mr_a : Nat} {mr_b : Nat} {mr_p : Nat} {mr_r : Nat} {mr_s : Nat} {sz_t : Int} (h0 : mr_t ≤ 2000 ∧ mr_a ≤ 4002 ∧ mr_b ≤ 4004 ∧ mr_p ≤ 2000 ∧ mr_r ≤ 6000 ∧ mr_s ≤ 6000 ∧ 0 ≤ sz_t ∧ sz_t ≤ 2000) : (mr_a : Int) ≤ 4002 := by omega
theorem axPW_end_4 {mr_t : Nat} {mr_a : Nat} {mr_b : Nat} {mr_p : Nat} {mr_r : Nat} {mr_s : Nat} {sz_t : Int} (h0 : mr_t ≤ 2000 ∧ mr_a ≤ 4002 ∧ mr_b ≤ 4004 ∧ mr_p ≤ 2000 ∧ mr_r ≤ 6000 ∧ mr_s ≤ 6000 ∧ 0 ≤ sz_t ∧ sz_t ≤ 2000) : (mr_b : Int) ≤ 4004 := by omega
theorem axPW_end_5 {mr_t : Nat} {mr_a : Nat} {mr_b : Nat} {mr_p : Nat} {mr_r : Nat} {mr_s : Nat} {sz_t : Int} (h0 : mr_t ≤ 2000 ∧ mr_a ≤ 4002 ∧ mr_b ≤ 4004 ∧ mr_p ≤ 2000 ∧ mr_r ≤ 6000 ∧ mr_s ≤ 6000 ∧ 0 ≤ sz_t ∧ sz_t ≤ 2000) : (mr_p : Int) ≤ 2000 := by omega
theorem axPW_end_6 {mr_t : Nat} {mr_a : Nat} {mr_b : Nat} {mr_p : Nat} {mr_r : Nat} {mr_s : Nat} {sz_t : Int} (h0 : mr_t ≤ 2000 ∧ mr_a ≤ 4002 ∧ mr_b ≤ 4004 ∧ mr_p ≤ 2000 ∧ mr_r ≤ 6000 ∧ mr_s ≤ 6000 ∧ 0 ≤ sz_t ∧ sz_t ≤ 2000) : (mr_r : Int) ≤ 6000 := by omega
theorem axPW_end_7 {mr_t : Nat} {mr_a : Nat} {mr_b : Nat} {mr_p : Nat} {mr_r : Nat} {mr_s : Nat} {sz_t : Int} (h0 : mr_t ≤ 2000 ∧ mr_a ≤ 4002 ∧ mr_b ≤ 4004 ∧ mr_p ≤ 2000 ∧ mr_r ≤ 6000 ∧ mr_s ≤ 6000 ∧ 0 ≤ sz_t ∧ sz_t ≤ 2000) : (mr_s : Int) ≤ 6000 := by omega
theorem axPW_end_8 {NR : Nat → Nat} {on : Nat} {nm : Nat} {ns : Nat} {nt : Nat} {n : Int} {m : Nat} {mr_t : Nat} {mr_a : Nat} {mr_b : Nat} {mr_p : Nat} {mr_r : Nat} {mr_s : Nat} {nb : Nat} {sz_t : Int} {lf : Nat} {k_ : Nat} {G : ab_G} (h0 : mr_t ≤ 2000 ∧ mr_a ≤ 4002 ∧ mr_b ≤ 4004 ∧ mr_p ≤ 2000 ∧ mr_r ≤ 6000 ∧ mr_s ≤ 6000 ∧ 0 ≤ sz_t ∧ sz_t ≤ 2000) (h1 : 64 * (↑G.length : Int) + 11489248 + 9000 * ↑(lf + 1) + 400 * sz_t ≤ 64 * (↑ab_n0 + ↑room_1.cells) + ↑(64 * nm + 64 * stC ns + nt + onPQ on + nb + 2 * sumN prC NR + 64 * mr_t + 64 * mr_a + 64 * mr_b + 64 * mr_p + 64 * mr_r + 64 * mr_s + 256 * m)) (h2 : 64 ≤ nm ∧ nm ≤ 52026) (h3 : nt ≤ 104000) (h4 : nb ≤ 104000) (h5 : m ≤ 2000 ∧ 32 ≤ m ∧ 0 ≤ n ∧ n ≤ 2000) (h6 : stC ns ≤ 5) (h7 : onPQ on ≤ 192) (h8 : sumN prC NR ≤ 5 * 100224 + prC (NR k_)) (h9 : prC (NR k_) ≤ 100224) : G.length + 1 ≤ ab_n0 + room_1.cells := by omega
theorem axPW_end_9 {NR : Nat → Nat} {on : Nat} {nm : Nat} {ns : Nat} {nt : Nat} {n : Int} {m : Nat} {mr_t : Nat} {mr_a : Nat} {mr_b : Nat} {mr_p : Nat} {mr_r : Nat} {mr_s : Nat} {nb : Nat} {sz_t : Int} {lf : Nat} {k_ : Nat} {G : ab_G} (h0 : mr_t ≤ 2000 ∧ mr_a ≤ 4002 ∧ mr_b ≤ 4004 ∧ mr_p ≤ 2000 ∧ mr_r ≤ 6000 ∧ mr_s ≤ 6000 ∧ 0 ≤ sz_t ∧ sz_t ≤ 2000) (h1 : (↑(ab_slots G) : Int) + 4238526 + 2200 * ↑(lf + 1) + 100 * sz_t ≤ ↑room_1.slots + ↑(zT nm 52026 + stT ns + 2 * nt + onSQ on + 2 * nb + sumN prS NR + zT mr_t 2000 + zT mr_a 4002 + zT mr_b 4004 + zT mr_p 2000 + zT mr_r 6000 + zT mr_s 6000 + 4 * zT m 2000 + 3 * m)) (h2 : nt ≤ 104000) (h3 : nb ≤ 104000) (h4 : m ≤ 2000 ∧ 32 ≤ m ∧ 0 ≤ n ∧ n ≤ 2000) (h5 : stT ns ≤ 1916393) (h6 : onSQ on ≤ 2425) (h7 : zT nm 52026 ≤ 156078) (h8 : zT m 2000 ≤ 6000) (h9 : zT mr_t 2000 ≤ 6000) (h10 : zT mr_a 4002 ≤ 12006) (h11 : zT mr_b 4004 ≤ 12012) (h12 : zT mr_p 2000 ≤ 6000) (h13 : zT mr_r 6000 ≤ 18000) (h14 : zT mr_s 6000 ≤ 18000) (h15 : sumN prS NR ≤ 5 * 202602 + prS (NR k_)) (h16 : prS (NR k_) ≤ 202602) : ab_slots G + 2000 ≤ room_1.slots := by omega
theorem axPW_end_10 {cmp : Int} {lf : Nat} (h0 : 0 ≤ cmp ∧ cmp + ↑(lf + 1) ≤ 600) : 0 ≤ cmp ∧ cmp + ↑lf ≤ 600 := by omega
theorem axPW_end_11 {NR : Nat → Nat} {on : Nat} {nm : Nat} {ns : Nat} {nt : Nat} {m : Nat} {mr_t : Nat} {mr_a : Nat} {mr_b : Nat} {mr_p : Nat} {mr_r : Nat} {mr_s : Nat} {nb : Nat} {sz_t : Int} {lf : Nat} {G : ab_G} (h0 : (↑(ab_slots G) : Int) + 4238526 + 2200 * ↑(lf + 1) + 100 * sz_t ≤ ↑room_1.slots + ↑(zT nm 52026 + stT ns + 2 * nt + onSQ on + 2 * nb + sumN prS NR + zT mr_t 2000 + zT mr_a 4002 + zT mr_b 4004 + zT mr_p 2000 + zT mr_r 6000 + zT mr_s 6000 + 4 * zT m 2000 + 3 * m)) : (↑(ab_slots G) : Int) + 4238526 + 2200 * ↑lf + 100 * sz_t ≤ ↑room_1.slots + ↑(zT nm 52026 + stT ns + 2 * nt + onSQ on + 2 * nb + sumN prS NR + zT mr_t 2000 + zT mr_a 4002 + zT mr_b 4004 + zT mr_p 2000 + zT mr_r 6000 + zT mr_s 6000 + 4 * zT m 2000 + 3 * m) := by omega
theorem axPW_end_12 {NR : Nat → Nat} {on : Nat} {nm : Nat} {ns : Nat} {nt : Nat} {m : Nat} {mr_t : Nat} {mr_a : Nat} {mr_b : Nat} {mr_p : Nat} {mr_r : Nat} {mr_s : Nat} {nb : Nat} {sz_t : Int} {lf : Nat} {G : ab_G} (h0 : 64 * (↑G.length : Int) + 11489248 + 9000 * ↑(lf + 1) + 400 * sz_t ≤ 64 * (↑ab_n0 + ↑room_1.cells) + ↑(64 * nm + 64 * stC ns + nt + onPQ on + nb + 2 * sumN prC NR + 64 * mr_t + 64 * mr_a + 64 * mr_b + 64 * mr_p + 64 * mr_r + 64 * mr_s + 256 * m)) : 64 * (↑G.length : Int) + 11489248 + 9000 * ↑lf + 400 * sz_t ≤ 64 * (↑ab_n0 + ↑room_1.cells) + ↑(64 * nm + 64 * stC ns + nt + onPQ on + nb + 2 * sumN prC NR + 64 * mr_t + 64 * mr_a + 64 * mr_b + 64 * mr_p + 64 * mr_r + 64 * mr_s + 256 * m) := by omega
theorem axPW_end_13 {sb : Int} {lf : Nat} (h0 : 0 ≤ sb ∧ sb + 25000 * ↑(lf + 1) ≤ 13000000) : 0 ≤ sb ∧ sb + 25000 * ↑lf ≤ 13000000 := by omega
theorem axPW_end_14 {lr_ : Nat} {ls_ : Nat} {jr_ : Nat} {k_ : Nat} (hk6 : k_ < 6) (cjr : lr_ = 77 + 2 * jr_ ∧ ls_ + 2 * jr_ = 79 ∧ jr_ ≤ 1) : ¬ lr_ ∈ [19, 22, 23] := by simp only [List.mem_cons, List.not_mem_nil, or_false]; omega
theorem axPW_end_15 {lr_ : Nat} {ls_ : Nat} {jr_ : Nat} {k_ : Nat} (hk6 : k_ < 6) (cjr : lr_ = 77 + 2 * jr_ ∧ ls_ + 2 * jr_ = 79 ∧ jr_ ≤ 1) : ¬ (lr_ + 1) ∈ [19, 22, 23] := by simp only [List.mem_cons, List.not_mem_nil, or_false]; omega
theorem axPW_end_16 {lr_ : Nat} {ls_ : Nat} {jr_ : Nat} {k_ : Nat} (hk6 : k_ < 6) (cjr : lr_ = 77 + 2 * jr_ ∧ ls_ + 2 * jr_ = 79 ∧ jr_ ≤ 1) : ¬ ls_ ∈ [19, 22, 23] := by simp only [List.mem_cons, List.not_mem_nil, or_false]; omega
theorem axPW_end_17 {lr_ : Nat} {ls_ : Nat} {jr_ : Nat} {k_ : Nat} (hk6 : k_ < 6) (cjr : lr_ = 77 + 2 * jr_ ∧ ls_ + 2 * jr_ = 79 ∧ jr_ ≤ 1) : ¬ (ls_ + 1) ∈ [19, 22, 23] := by simp only [List.mem_cons, List.not_mem_nil, or_false]; omega
theorem axPW_end_18 {mr_t : Nat} {mr_a : Nat} {mr_b : Nat} {mr_p : Nat} {mr_r : Nat} {mr_s : Nat} {sz_t : Int} {v24 : Int} {mt226 : Nat} (h0 : mr_t ≤ 2000 ∧ mr_a ≤ 4002 ∧ mr_b ≤ 4004 ∧ mr_p ≤ 2000 ∧ mr_r ≤ 6000 ∧ mr_s ≤ 6000 ∧ 0 ≤ sz_t ∧ sz_t ≤ 2000) (h1 : 0 ≤ sz_t ∧ sz_t ≤ ↑mr_t ∧ ↑mr_t ≤ (2000 : Int) ∧ 32 ≤ mr_t) (h2 : sz_t ≤ v24 ∧ v24 ≤ sz_t + 20 ∧ v24 ≤ ↑mt226 ∧ ↑mt226 ≤ (2000 : Int) ∧ mr_t ≤ mt226) : 0 ≤ v24 ∧ v24 ≤ ↑mt226 ∧ ↑mt226 ≤ (2000 : Int) ∧ 32 ≤ mt226 := by omega
theorem axPW_end_19 {mr_t : Nat} {mr_a : Nat} {mr_b : Nat} {mr_p : Nat} {mr_r : Nat} {mr_s : Nat} {sz_t : Int} {v24 : Int} {mt226 : Nat} (h0 : mr_t ≤ 2000 ∧ mr_a ≤ 4002 ∧ mr_b ≤ 4004 ∧ mr_p ≤ 2000 ∧ mr_r ≤ 6000 ∧ mr_s ≤ 6000 ∧ 0 ≤ sz_t ∧ sz_t ≤ 2000) (h1 : sz_t ≤ v24 ∧ v24 ≤ sz_t + 20 ∧ v24 ≤ ↑mt226 ∧ ↑mt226 ≤ (2000 : Int) ∧ mr_t ≤ mt226) : mt226 ≤ 2000 ∧ mr_a ≤ 4002 ∧ mr_b ≤ 4004 ∧ mr_p ≤ 2000 ∧ mr_r ≤ 6000 ∧ mr_s ≤ 6000 ∧ 0 ≤ v24 ∧ v24 ≤ 2000 := by omega
theorem axPW_end_20 {cmp : Int} {lf : Nat} (h0 : 0 ≤ cmp ∧ cmp + ↑(lf + 1) ≤ 600) : 0 ≤ cmp ∧ cmp + ↑lf ≤ 600 := by omega
theorem axPW_end_21 {NR : Nat → Nat} {on : Nat} {nm : Nat} {ns : Nat} {nt : Nat} {m : Nat} {mr_t : Nat} {mr_a : Nat} {mr_b : Nat} {mr_p : Nat} {mr_r : Nat} {mr_s : Nat} {nb : Nat} {sz_t : Int} {lf : Nat} {v24 : Int} {mt226 : Nat} {G : ab_G} {G21 : ab_G} (h0 : (↑(ab_slots G) : Int) + 4238526 + 2200 * ↑(lf + 1) + 100 * sz_t ≤ ↑room_1.slots + ↑(zT nm 52026 + stT ns + 2 * nt + onSQ on + 2 * nb + sumN prS NR + zT mr_t 2000 + zT mr_a 4002 + zT mr_b 4004 + zT mr_p 2000 + zT mr_r 6000 + zT mr_s 6000 + 4 * zT m 2000 + 3 * m)) (h1 : sz_t ≤ v24 ∧ v24 ≤ sz_t + 20 ∧ v24 ≤ ↑mt226 ∧ ↑mt226 ≤ (2000 : Int) ∧ mr_t ≤ mt226) (h2 : ab_slots G21 + zT mr_t 2000 ≤ ab_slots G + zT mt226 2000) : (↑(ab_slots G21) : Int) + 4238526 + 2200 * ↑lf + 100 * v24 ≤ ↑room_1.slots + ↑(zT nm 52026 + stT ns + 2 * nt + onSQ on + 2 * nb + sumN prS NR + zT mt226 2000 + zT mr_a 4002 + zT mr_b 4004 + zT mr_p 2000 + zT mr_r 6000 + zT mr_s 6000 + 4 * zT m 2000 + 3 * m) := by omega
theorem axPW_end_22 {NR : Nat → Nat} {on : Nat} {nm : Nat} {ns : Nat} {nt : Nat} {m : Nat} {mr_t : Nat} {mr_a : Nat} {mr_b : Nat} {mr_p : Nat} {mr_r : Nat} {mr_s : Nat} {nb : Nat} {sz_t : Int} {lf : Nat} {v24 : Int} {mt226 : Nat} {G : ab_G} {G21 : ab_G} (h0 : 64 * (↑G.length : Int) + 11489248 + 9000 * ↑(lf + 1) + 400 * sz_t ≤ 64 * (↑ab_n0 + ↑room_1.cells) + ↑(64 * nm + 64 * stC ns + nt + onPQ on + nb + 2 * sumN prC NR + 64 * mr_t + 64 * mr_a + 64 * mr_b + 64 * mr_p + 64 * mr_r + 64 * mr_s + 256 * m)) (h1 : sz_t ≤ v24 ∧ v24 ≤ sz_t + 20 ∧ v24 ≤ ↑mt226 ∧ ↑mt226 ≤ (2000 : Int) ∧ mr_t ≤ mt226) (h2 : G21.length + mr_t ≤ G.length + mt226) : 64 * (↑G21.length : Int) + 11489248 + 9000 * ↑lf + 400 * v24 ≤ 64 * (↑ab_n0 + ↑room_1.cells) + ↑(64 * nm + 64 * stC ns + nt + onPQ on + nb + 2 * sumN prC NR + 64 * mt226 + 64 * mr_a + 64 * mr_b + 64 * mr_p + 64 * mr_r + 64 * mr_s + 256 * m) := by omega
theorem axPW_end_23 {sb : Int} {lf : Nat} (h0 : 0 ≤ sb ∧ sb + 25000 * ↑(lf + 1) ≤ 13000000) : 0 ≤ sb ∧ sb + 25000 * ↑lf ≤ 13000000 := by omega
theorem axPW_end_24 {mr_t : Nat} {sz_t : Int} {n_ : Int} {v24 : Int} {mt226 : Nat} (h0 : sz_t ≤ v24 ∧ v24 ≤ sz_t + 20 ∧ v24 ≤ ↑mt226 ∧ ↑mt226 ≤ (2000 : Int) ∧ mr_t ≤ mt226) (h1 : v24 = sz_t + n_) : 0 ≤ n_ ∧ n_ ≤ 20 ∧ sz_t + n_ ≤ 2000 := by omega
set_option maxRecDepth 100000 in
set_option maxHeartbeats 4000000 in
theorem w_end {X : ab_X} {d : Nat} {o : Nat → Nat} {G : ab_G} {w_ lf : Nat} {n_ : Int} {RD_ : Int → Int} {F_t : Int → Int} {sz_t : Int} {PG : Nat → Option Nat} {cv : Int → Int} {fa : Int} {fp : Int} {n : Int} {f : Int → Int} {sz_a : Int} {F_a : Int → Int} {sz_b : Int} {F_b : Int → Int} {sz_r : Int} {F_r : Int → Int} (h : pwW o G w_ (lf + 1) RD_ F_t sz_t PG cv fa fp n f sz_a F_a sz_b F_b sz_r F_r) (cr : -2147483648 ≤ n_ ∧ n_ ≤ 2147483647) (n18 : ab_n0 = 18) (hd : 6 ≤ d) : ab_F X d y_PW_end (.code y_PW_end b_PW_end 2 (some (.int))) [vR w_, vz n_] G (fun oc G2 => ∃ (o2 : Nat → Nat) (S : List Nat) (RD2 : Int → Int) (F2 : Int → Int) (sz2 : Int) (PG2 : Nat → Option Nat) (cw2 : Int → Int) (fa2 : Int) (fp2 : Int) (sn2 : Int) (sf2 : Int → Int) (za2 : Int) (Fa2 : Int → Int) (zb2 : Int) (Fb2 : Int → Int) (zr2 : Int) (Fr2 : Int → Int), fx o o2 S G G2 ∧ (∀ l ∈ S, 18 ≤ l ∧ l < 190) ∧ pwW o2 G2 w_ lf RD2 F2 sz2 PG2 cw2 fa2 fp2 sn2 sf2 za2 Fa2 zb2 Fb2 zr2 Fr2 ∧ ∃ v : Int, oc = .returned (some (vz v)) ∧ endC n_ RD_ F_t sz_t RD2 F2 sz2 v ∧ PG2 = PG ∧ cw2 = cv ∧ fa2 = fa ∧ fp2 = fp ∧ sn2 = n ∧ sf2 = f ∧ za2 = sz_a ∧ Fa2 = F_a ∧ zb2 = sz_b ∧ Fb2 = F_b ∧ zr2 = sz_r ∧ Fr2 = F_r) := by
  obtain ⟨k_, hkq⟩ := kq6_ex 0
  have hk6 := hkq.1
  obtain ⟨f_ready, f_tape, f_reader, f_programs, f_subject, f_spans, f_threads, f_marks, f_oneMind, f_states, f_latest, f_matches, f_pieces, f_template, f_result, f_spare, cmp, ovs, sb, NR, on, nm, ns, nt, m, mr_t, mr_a, mr_b, mr_p, mr_r, mr_s, lr_, ls_, jr_, nb, sz_s, F_s, hw_, hf_programs, h17, h15, h16, pthI_f_threads, pmkI_f_marks, pomI_f_oneMind, pstI_f_states, psuI_f_subject, ppgI_0, prdI_f_reader, ptbI_0, pryJ_f_ready, ptpJ_f_tape, pspJ_f_spans, plaJ_f_latest, pmaJ_f_matches, ppcJ_f_pieces, ptmJ_f_template, prsJ_f_result, prsJ_f_spare, cjr, hmr, hpn, ccm, hS, hC, csb⟩ := h
  have hb1 : 64 ≤ nm ∧ nm ≤ 52026 := pmkI_f_marks.b
  have hb2 : nt ≤ 104000 := pomI_f_oneMind.nt
  have hb3 : nb ≤ 104000 := prdI_f_reader.b
  have hb4 : m ≤ 2000 ∧ 32 ≤ m ∧ 0 ≤ n ∧ n ≤ 2000 := psuI_f_subject.b
  have hb5 : stT ns ≤ 1916393 := stT_le ns
  have hb6 : stC ns ≤ 5 := stC_le ns
  have hb7 : onPQ on ≤ 192 := onPQ_le on
  have hb8 : onSQ on ≤ 2425 := onSQ_le on
  have hb9 : zT nm 52026 ≤ 156078 := zT_le (n := nm) (lim := 52026) (c := 52026) (axPW_end_0 hb1) rfl
  have hb10 : zT m 2000 ≤ 6000 := zT_le (n := m) (lim := 2000) (c := 2000) (axPW_end_1 hb4) rfl
  have hb11 : zT mr_t 2000 ≤ 6000 := zT_le (n := mr_t) (lim := 2000) (c := 2000) (axPW_end_2 hmr) rfl
  have hb12 : zT mr_a 4002 ≤ 12006 := zT_le (n := mr_a) (lim := 4002) (c := 4002) (axPW_end_3 hmr) rfl
  have hb13 : zT mr_b 4004 ≤ 12012 := zT_le (n := mr_b) (lim := 4004) (c := 4004) (axPW_end_4 hmr) rfl
  have hb14 : zT mr_p 2000 ≤ 6000 := zT_le (n := mr_p) (lim := 2000) (c := 2000) (axPW_end_5 hmr) rfl
  have hb15 : zT mr_r 6000 ≤ 18000 := zT_le (n := mr_r) (lim := 6000) (c := 6000) (axPW_end_6 hmr) rfl
  have hb16 : zT mr_s 6000 ≤ 18000 := zT_le (n := mr_s) (lim := 6000) (c := 6000) (axPW_end_7 hmr) rfl
  have hb17 : sumN prS NR ≤ 5 * 202602 + prS (NR k_) := sumN_le (f := prS) (k := k_) (fun j hj => prS_le (ppgI_0.nr hpn j hj)) hk6
  have hb18 : prS (NR k_) ≤ 202602 := prS_le (ppgI_0.nr hpn k_ hk6)
  have hb19 : sumN prC NR ≤ 5 * 100224 + prC (NR k_) := sumN_le (f := prC) (k := k_) (fun j hj => prC_le (ppgI_0.nr hpn j hj)) hk6
  have hb20 : prC (NR k_) ≤ 100224 := prC_le (ppgI_0.nr hpn k_ hk6)
  obtain ⟨hf_ready, jr⟩ := pryJ_f_ready
  obtain ⟨it_t, hf_tape, hit_t, crw_t, hbt⟩ := ptpJ_f_tape
  have hfr : fx o o [19, 22, 23] G G := fx.rf
  refine (z_PW_end (o := o) (w_ := w_) (f_ready := f_ready) (f_tape := f_tape) (f_reader := f_reader) (f_programs := f_programs) (f_subject := f_subject) (f_spans := f_spans) (f_threads := f_threads) (f_marks := f_marks) (f_oneMind := f_oneMind) (f_states := f_states) (f_latest := f_latest) (f_matches := f_matches) (f_pieces := f_pieces) (f_template := f_template) (f_result := f_result) (f_spare := f_spare) (cmp := cmp) (ovs := ovs) (it_t := it_t) (sz_t := sz_t) (mr_t := mr_t) (F_t := F_t) (n_ := n_) (RD_ := RD_) hw_ hf_ready hf_tape hit_t n18 crw_t hbt jr cr (axPW_end_8 hmr hC hb1 hb2 hb3 hb4 hb6 hb7 hb19 hb20) (axPW_end_9 hmr hS hb2 hb3 hb4 hb5 hb8 hb9 hb10 hb11 hb12 hb13 hb14 hb15 hb16 hb17 hb18) hd).post (fun oc G21 hq => ?_)
  rcases hq with ⟨hv, hGe, hq22⟩ | ⟨o23, v24, it225, mt226, F227, R228, hv, hfk, hNf_tape, hNit225, hNf_ready, hq29, hq30, hq31, hq32, hq33, hq34, hq35, hq36, hq37⟩
  · cases hv
    rw [hGe]
    have pryJ_f_ready : ryJ o G f_ready RD_ := ⟨hf_ready, jr⟩
    have ptpJ_f_tape : tpJ o G f_tape mr_t sz_t F_t := ⟨it_t, hf_tape, hit_t, crw_t, hbt⟩
    have ppwW_w_ : pwW o G w_ lf RD_ F_t sz_t PG cv fa fp n f sz_a F_a sz_b F_b sz_r F_r := ⟨f_ready, f_tape, f_reader, f_programs, f_subject, f_spans, f_threads, f_marks, f_oneMind, f_states, f_latest, f_matches, f_pieces, f_template, f_result, f_spare, cmp, ovs, sb, NR, on, nm, ns, nt, m, mr_t, mr_a, mr_b, mr_p, mr_r, mr_s, lr_, ls_, jr_, nb, sz_s, F_s, hw_, hf_programs, h17, h15, h16, pthI_f_threads, pmkI_f_marks, pomI_f_oneMind, pstI_f_states, psuI_f_subject, ppgI_0, prdI_f_reader, ptbI_0, pryJ_f_ready, ptpJ_f_tape, pspJ_f_spans, plaJ_f_latest, pmaJ_f_matches, ppcJ_f_pieces, ptmJ_f_template, prsJ_f_result, prsJ_f_spare, cjr, hmr, hpn, (axPW_end_10 ccm), (axPW_end_11 hS), (axPW_end_12 hC), (axPW_end_13 csb)⟩
    exact ⟨_, _, RD_, F_t, sz_t, PG, cv, fa, fp, n, f, sz_a, F_a, sz_b, F_b, sz_r, F_r, fx.rf (S := []), fun _ h => absurd h List.not_mem_nil, ppwW_w_, _, rfl, Or.inl ⟨hq22, rfl, rfl, rfl, rfl⟩, rfl, rfl, rfl, rfl, rfl, rfl, rfl, rfl, rfl, rfl, rfl, rfl⟩
  · cases hv
    have hw_ := hfk.get hw_ (by decide)
    have hf_programs := hfk.get hf_programs (by decide)
    have h17 := hfk.get h17 (by decide)
    have h15 := hfk.get h15 (by decide)
    have h16 := hfk.get h16 (by decide)
    have pthI_f_threads := thI.fr hfk pthI_f_threads (by decide) (by decide) (by decide) (by decide) (by decide) (by decide) (by decide) (by decide)
    have pmkI_f_marks := mkI.fr hfk pmkI_f_marks (by decide) (by decide) (by decide) (by decide)
    have pomI_f_oneMind := omI.fr hfk pomI_f_oneMind (by decide) (by decide) (by decide) (by decide) (by decide) (by decide) (by decide) (by decide)
    have pstI_f_states := stI.fr hfk pstI_f_states (by decide) (by decide) (by decide) (by decide) (by decide) (by decide) (by decide) (by decide) (by decide)
    have psuI_f_subject := suI.fr hfk psuI_f_subject (by decide) (by decide) (by decide) (by decide) (by decide)
    have ppgI_0 := pgI.fr hfk ppgI_0  (by decide)
    have prdI_f_reader := rdI.fr hfk prdI_f_reader (by decide) (by decide) (by decide) (by decide) (by decide) (by decide)
    have ptbI_0 := tbI.fr hfk ptbI_0  (by decide)
    have pspJ_f_spans := spJ.fr hfk pspJ_f_spans (by decide)
    have plaJ_f_latest := laJ.fr hfk plaJ_f_latest (by decide)
    have pmaJ_f_matches := maJ.fr hfk pmaJ_f_matches (by decide) (by decide)
    have ppcJ_f_pieces := pcJ.fr hfk ppcJ_f_pieces (by decide) (by decide)
    have ptmJ_f_template := tmJ.fr hfk ptmJ_f_template (by decide) (by decide)
    have prsJ_f_result := rsJ.fr hfk prsJ_f_result (axPW_end_14 hk6 cjr) (axPW_end_15 hk6 cjr)
    have prsJ_f_spare := rsJ.fr hfk prsJ_f_spare (axPW_end_16 hk6 cjr) (axPW_end_17 hk6 cjr)
    have hfr := hfr.tr hfk (fun _ h => h)
    have hq38 := hfk.1
    have hf_tape := hNf_tape
    have hit225 := hNit225
    have hf_ready := hNf_ready
    have pryJ_f_ready : ryJ o23 G21 f_ready R228 := ⟨hf_ready, hq31⟩
    have ptpJ_f_tape : tpJ o23 G21 f_tape mt226 v24 F227 := ⟨it225, hf_tape, hit225, (axPW_end_18 hmr crw_t hq29), hq30⟩
    have ppwW_w_ : pwW o23 G21 w_ lf R228 F227 v24 PG cv fa fp n f sz_a F_a sz_b F_b sz_r F_r := ⟨f_ready, f_tape, f_reader, f_programs, f_subject, f_spans, f_threads, f_marks, f_oneMind, f_states, f_latest, f_matches, f_pieces, f_template, f_result, f_spare, cmp, ovs, sb, NR, on, nm, ns, nt, m, mt226, mr_a, mr_b, mr_p, mr_r, mr_s, lr_, ls_, jr_, nb, sz_s, F_s, hw_, hf_programs, h17, h15, h16, pthI_f_threads, pmkI_f_marks, pomI_f_oneMind, pstI_f_states, psuI_f_subject, ppgI_0, prdI_f_reader, ptbI_0, pryJ_f_ready, ptpJ_f_tape, pspJ_f_spans, plaJ_f_latest, pmaJ_f_matches, ppcJ_f_pieces, ptmJ_f_template, prsJ_f_result, prsJ_f_spare, cjr, (axPW_end_19 hmr hq29), hpn, (axPW_end_20 ccm), (axPW_end_21 hS hq29 hq33), (axPW_end_22 hC hq29 hq32), (axPW_end_23 csb)⟩
    exact ⟨_, _, R228, F227, v24, PG, cv, fa, fp, n, f, sz_a, F_a, sz_b, F_b, sz_r, F_r, hfr, (by decide), ppwW_w_, _, rfl, Or.inr ⟨(axPW_end_24 hq29 hq34), rfl, hq34, hq36, hq37⟩, rfl, rfl, rfl, rfl, rfl, rfl, rfl, rfl, rfl, rfl, rfl, rfl⟩
