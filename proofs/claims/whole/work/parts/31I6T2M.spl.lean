theorem axPW_split_0 {nm : Nat} (h0 : 64 ≤ nm ∧ nm ≤ 52026) : (nm : Int) ≤ 52026 := by omega
theorem axPW_split_1 {n : Int} {m : Nat} (h0 : m ≤ 2000 ∧ 32 ≤ m ∧ 0 ≤ n ∧ n ≤ 2000) : (m : Int) ≤ 2000 := by omega
theorem axPW_split_2 {mr_t : Nat} {mr_a : Nat} {mr_b : Nat} {mr_p : Nat} {mr_r : Nat} {mr_s : Nat} {sz_t : Int} (h0 : mr_t ≤ 2000 ∧ mr_a ≤ 4002 ∧ mr_b ≤ 4004 ∧ mr_p ≤ 2000 ∧ mr_r ≤ 6000 ∧ mr_s ≤ 6000 ∧ 0 ≤ sz_t ∧ sz_t ≤ 2000) : (mr_t : Int) ≤ 2000 := by omega
theorem axPW_split_3 {mr_t : Nat} {mr_a : Nat} {mr_b : Nat} {mr_p : Nat} {mr_r : Nat} {mr_s : Nat} {sz_t : Int} (h0 : mr_t ≤ 2000 ∧ mr_a ≤ 4002 ∧ mr_b ≤ 4004 ∧ mr_p ≤ 2000 ∧ mr_r ≤ 6000 ∧ mr_s ≤ 6000 ∧ 0 ≤ sz_t ∧ sz_t ≤ 2000) : (mr_a : Int) ≤ 4002 := by omega
theorem axPW_split_4 {mr_t : Nat} {mr_a : Nat} {mr_b : Nat} {mr_p : Nat} {mr_r : Nat} {mr_s : Nat} {sz_t : Int} (h0 : mr_t ≤ 2000 ∧ mr_a ≤ 4002 ∧ mr_b ≤ 4004 ∧ mr_p ≤ 2000 ∧ mr_r ≤ 6000 ∧ mr_s ≤ 6000 ∧ 0 ≤ sz_t ∧ sz_t ≤ 2000) : (mr_b : Int) ≤ 4004 := by omega
theorem axPW_split_5 {mr_t : Nat} {mr_a : Nat} {mr_b : Nat} {mr_p : Nat} {mr_r : Nat} {mr_s : Nat} {sz_t : Int} (h0 : mr_t ≤ 2000 ∧ mr_a ≤ 4002 ∧ mr_b ≤ 4004 ∧ mr_p ≤ 2000 ∧ mr_r ≤ 6000 ∧ mr_s ≤ 6000 ∧ 0 ≤ sz_t ∧ sz_t ≤ 2000) : (mr_p : Int) ≤ 2000 := by omega
theorem axPW_split_6 {mr_t : Nat} {mr_a : Nat} {mr_b : Nat} {mr_p : Nat} {mr_r : Nat} {mr_s : Nat} {sz_t : Int} (h0 : mr_t ≤ 2000 ∧ mr_a ≤ 4002 ∧ mr_b ≤ 4004 ∧ mr_p ≤ 2000 ∧ mr_r ≤ 6000 ∧ mr_s ≤ 6000 ∧ 0 ≤ sz_t ∧ sz_t ≤ 2000) : (mr_r : Int) ≤ 6000 := by omega
theorem axPW_split_7 {mr_t : Nat} {mr_a : Nat} {mr_b : Nat} {mr_p : Nat} {mr_r : Nat} {mr_s : Nat} {sz_t : Int} (h0 : mr_t ≤ 2000 ∧ mr_a ≤ 4002 ∧ mr_b ≤ 4004 ∧ mr_p ≤ 2000 ∧ mr_r ≤ 6000 ∧ mr_s ≤ 6000 ∧ 0 ≤ sz_t ∧ sz_t ≤ 2000) : (mr_s : Int) ≤ 6000 := by omega
theorem axPW_split_8 {NR : Nat → Nat} {on : Nat} {nm : Nat} {ns : Nat} {nt : Nat} {n : Int} {m : Nat} {mr_t : Nat} {mr_a : Nat} {mr_b : Nat} {mr_p : Nat} {mr_r : Nat} {mr_s : Nat} {nb : Nat} {sz_t : Int} {lf : Nat} {k_ : Nat} {G : ab_G} (h0 : mr_t ≤ 2000 ∧ mr_a ≤ 4002 ∧ mr_b ≤ 4004 ∧ mr_p ≤ 2000 ∧ mr_r ≤ 6000 ∧ mr_s ≤ 6000 ∧ 0 ≤ sz_t ∧ sz_t ≤ 2000) (h1 : 64 * (↑G.length : Int) + 11489248 + 9000 * ↑(lf + 1) + 400 * sz_t ≤ 64 * (↑ab_n0 + ↑room_1.cells) + ↑(64 * nm + 64 * stC ns + nt + onPQ on + nb + 2 * sumN prC NR + 64 * mr_t + 64 * mr_a + 64 * mr_b + 64 * mr_p + 64 * mr_r + 64 * mr_s + 256 * m)) (h2 : nb ≤ 104000) (h3 : m ≤ 2000 ∧ 32 ≤ m ∧ 0 ≤ n ∧ n ≤ 2000) (h4 : sumN prC NR ≤ 5 * 100224 + prC (NR k_)) (h5 : prC (NR k_) ≤ 100224) : 64 * G.length + 4600000 ≤ 64 * (ab_n0 + room_1.cells) + (64 * nm + 64 * stC ns + nt + onPQ on) := by omega
theorem axPW_split_9 {NR : Nat → Nat} {on : Nat} {nm : Nat} {ns : Nat} {nt : Nat} {n : Int} {m : Nat} {mr_t : Nat} {mr_a : Nat} {mr_b : Nat} {mr_p : Nat} {mr_r : Nat} {mr_s : Nat} {nb : Nat} {sz_t : Int} {lf : Nat} {k_ : Nat} {G : ab_G} (h0 : mr_t ≤ 2000 ∧ mr_a ≤ 4002 ∧ mr_b ≤ 4004 ∧ mr_p ≤ 2000 ∧ mr_r ≤ 6000 ∧ mr_s ≤ 6000 ∧ 0 ≤ sz_t ∧ sz_t ≤ 2000) (h1 : (↑(ab_slots G) : Int) + 4238526 + 2200 * ↑(lf + 1) + 100 * sz_t ≤ ↑room_1.slots + ↑(zT nm 52026 + stT ns + 2 * nt + onSQ on + 2 * nb + sumN prS NR + zT mr_t 2000 + zT mr_a 4002 + zT mr_b 4004 + zT mr_p 2000 + zT mr_r 6000 + zT mr_s 6000 + 4 * zT m 2000 + 3 * m)) (h2 : nb ≤ 104000) (h3 : m ≤ 2000 ∧ 32 ≤ m ∧ 0 ≤ n ∧ n ≤ 2000) (h4 : zT m 2000 ≤ 6000) (h5 : zT mr_t 2000 ≤ 6000) (h6 : zT mr_a 4002 ≤ 12006) (h7 : zT mr_b 4004 ≤ 12012) (h8 : zT mr_p 2000 ≤ 6000) (h9 : zT mr_r 6000 ≤ 18000) (h10 : zT mr_s 6000 ≤ 18000) (h11 : sumN prS NR ≤ 5 * 202602 + prS (NR k_)) (h12 : prS (NR k_) ≤ 202602) : ab_slots G + 2360000 ≤ room_1.slots + (zT nm 52026 + stT ns + 2 * nt + onSQ on) := by omega
theorem axPW_split_10 {lr_ : Nat} {ls_ : Nat} {jr_ : Nat} {k_ : Nat} (hk6 : k_ < 6) (cjr : lr_ = 77 + 2 * jr_ ∧ ls_ + 2 * jr_ = 79 ∧ jr_ ≤ 1) : ¬ lr_ ∈ [18, 31, 73, 74, 32, 33, 35, 36, 37, 38, 39, 40, 44, 45, 46, 47, 50, 51, 52, 53, 54, 55, 56, 57, 60, 61, 62, 63, 64, 65, 66, 67, 68] := by simp only [List.mem_cons, List.not_mem_nil, or_false]; omega
theorem axPW_split_11 {lr_ : Nat} {ls_ : Nat} {jr_ : Nat} {k_ : Nat} (hk6 : k_ < 6) (cjr : lr_ = 77 + 2 * jr_ ∧ ls_ + 2 * jr_ = 79 ∧ jr_ ≤ 1) : ¬ (lr_ + 1) ∈ [18, 31, 73, 74, 32, 33, 35, 36, 37, 38, 39, 40, 44, 45, 46, 47, 50, 51, 52, 53, 54, 55, 56, 57, 60, 61, 62, 63, 64, 65, 66, 67, 68] := by simp only [List.mem_cons, List.not_mem_nil, or_false]; omega
theorem axPW_split_12 {lr_ : Nat} {ls_ : Nat} {jr_ : Nat} {k_ : Nat} (hk6 : k_ < 6) (cjr : lr_ = 77 + 2 * jr_ ∧ ls_ + 2 * jr_ = 79 ∧ jr_ ≤ 1) : ¬ ls_ ∈ [18, 31, 73, 74, 32, 33, 35, 36, 37, 38, 39, 40, 44, 45, 46, 47, 50, 51, 52, 53, 54, 55, 56, 57, 60, 61, 62, 63, 64, 65, 66, 67, 68] := by simp only [List.mem_cons, List.not_mem_nil, or_false]; omega
theorem axPW_split_13 {lr_ : Nat} {ls_ : Nat} {jr_ : Nat} {k_ : Nat} (hk6 : k_ < 6) (cjr : lr_ = 77 + 2 * jr_ ∧ ls_ + 2 * jr_ = 79 ∧ jr_ ≤ 1) : ¬ (ls_ + 1) ∈ [18, 31, 73, 74, 32, 33, 35, 36, 37, 38, 39, 40, 44, 45, 46, 47, 50, 51, 52, 53, 54, 55, 56, 57, 60, 61, 62, 63, 64, 65, 66, 67, 68] := by simp only [List.mem_cons, List.not_mem_nil, or_false]; omega
theorem axPW_split_14 {cmp : Int} {lf : Nat} (h0 : 0 ≤ cmp ∧ cmp + ↑(lf + 1) ≤ 600) : 0 ≤ cmp ∧ cmp + ↑lf ≤ 600 := by omega
theorem axPW_split_15 {NR : Nat → Nat} {on : Nat} {nm : Nat} {ns : Nat} {nt : Nat} {m : Nat} {mr_t : Nat} {mr_a : Nat} {mr_b : Nat} {mr_p : Nat} {mr_r : Nat} {mr_s : Nat} {nb : Nat} {sz_t : Int} {lf : Nat} {G : ab_G} {G21 : ab_G} (h0 : (↑(ab_slots G) : Int) + 4238526 + 2200 * ↑(lf + 1) + 100 * sz_t ≤ ↑room_1.slots + ↑(zT nm 52026 + stT ns + 2 * nt + onSQ on + 2 * nb + sumN prS NR + zT mr_t 2000 + zT mr_a 4002 + zT mr_b 4004 + zT mr_p 2000 + zT mr_r 6000 + zT mr_s 6000 + 4 * zT m 2000 + 3 * m)) (h1 : ab_slots G21 = ab_slots G + 6) : (↑(ab_slots G21) : Int) + 4238526 + 2200 * ↑lf + 100 * sz_t ≤ ↑room_1.slots + ↑(zT nm 52026 + stT ns + 2 * nt + onSQ on + 2 * nb + sumN prS NR + zT mr_t 2000 + zT mr_a 4002 + zT mr_b 4004 + zT mr_p 2000 + zT mr_r 6000 + zT mr_s 6000 + 4 * zT m 2000 + 3 * m) := by omega
theorem axPW_split_16 {NR : Nat → Nat} {on : Nat} {nm : Nat} {ns : Nat} {nt : Nat} {m : Nat} {mr_t : Nat} {mr_a : Nat} {mr_b : Nat} {mr_p : Nat} {mr_r : Nat} {mr_s : Nat} {nb : Nat} {sz_t : Int} {lf : Nat} {G : ab_G} {G21 : ab_G} (h0 : 64 * (↑G.length : Int) + 11489248 + 9000 * ↑(lf + 1) + 400 * sz_t ≤ 64 * (↑ab_n0 + ↑room_1.cells) + ↑(64 * nm + 64 * stC ns + nt + onPQ on + nb + 2 * sumN prC NR + 64 * mr_t + 64 * mr_a + 64 * mr_b + 64 * mr_p + 64 * mr_r + 64 * mr_s + 256 * m)) (h1 : G21.length = G.length + 1) : 64 * (↑G21.length : Int) + 11489248 + 9000 * ↑lf + 400 * sz_t ≤ 64 * (↑ab_n0 + ↑room_1.cells) + ↑(64 * nm + 64 * stC ns + nt + onPQ on + nb + 2 * sumN prC NR + 64 * mr_t + 64 * mr_a + 64 * mr_b + 64 * mr_p + 64 * mr_r + 64 * mr_s + 256 * m) := by omega
theorem axPW_split_17 {sb : Int} {lf : Nat} (h0 : 0 ≤ sb ∧ sb + 25000 * ↑(lf + 1) ≤ 13000000) : 0 ≤ sb ∧ sb + 25000 * ↑lf ≤ 13000000 := by omega
theorem axPW_split_18 {lr_ : Nat} {ls_ : Nat} {jr_ : Nat} {k_ : Nat} (hk6 : k_ < 6) (cjr : lr_ = 77 + 2 * jr_ ∧ ls_ + 2 * jr_ = 79 ∧ jr_ ≤ 1) : ¬ lr_ ∈ [18, 31, 73, 74, 32, 33, 35, 36, 37, 38, 39, 40, 44, 45, 46, 47, 50, 51, 52, 53, 54, 55, 56, 57, 60, 61, 62, 63, 64, 65, 66, 67, 68] := by simp only [List.mem_cons, List.not_mem_nil, or_false]; omega
theorem axPW_split_19 {lr_ : Nat} {ls_ : Nat} {jr_ : Nat} {k_ : Nat} (hk6 : k_ < 6) (cjr : lr_ = 77 + 2 * jr_ ∧ ls_ + 2 * jr_ = 79 ∧ jr_ ≤ 1) : ¬ (lr_ + 1) ∈ [18, 31, 73, 74, 32, 33, 35, 36, 37, 38, 39, 40, 44, 45, 46, 47, 50, 51, 52, 53, 54, 55, 56, 57, 60, 61, 62, 63, 64, 65, 66, 67, 68] := by simp only [List.mem_cons, List.not_mem_nil, or_false]; omega
theorem axPW_split_20 {lr_ : Nat} {ls_ : Nat} {jr_ : Nat} {k_ : Nat} (hk6 : k_ < 6) (cjr : lr_ = 77 + 2 * jr_ ∧ ls_ + 2 * jr_ = 79 ∧ jr_ ≤ 1) : ¬ ls_ ∈ [18, 31, 73, 74, 32, 33, 35, 36, 37, 38, 39, 40, 44, 45, 46, 47, 50, 51, 52, 53, 54, 55, 56, 57, 60, 61, 62, 63, 64, 65, 66, 67, 68] := by simp only [List.mem_cons, List.not_mem_nil, or_false]; omega
theorem axPW_split_21 {lr_ : Nat} {ls_ : Nat} {jr_ : Nat} {k_ : Nat} (hk6 : k_ < 6) (cjr : lr_ = 77 + 2 * jr_ ∧ ls_ + 2 * jr_ = 79 ∧ jr_ ≤ 1) : ¬ (ls_ + 1) ∈ [18, 31, 73, 74, 32, 33, 35, 36, 37, 38, 39, 40, 44, 45, 46, 47, 50, 51, 52, 53, 54, 55, 56, 57, 60, 61, 62, 63, 64, 65, 66, 67, 68] := by simp only [List.mem_cons, List.not_mem_nil, or_false]; omega
theorem axPW_split_22 {mr_t : Nat} {mr_a : Nat} {mr_b : Nat} {mr_p : Nat} {mr_r : Nat} {mr_s : Nat} {sz_t : Int} {sz234 : Int} {mr235 : Nat} (h0 : mr_t ≤ 2000 ∧ mr_a ≤ 4002 ∧ mr_b ≤ 4004 ∧ mr_p ≤ 2000 ∧ mr_r ≤ 6000 ∧ mr_s ≤ 6000 ∧ 0 ≤ sz_t ∧ sz_t ≤ 2000) (h1 : 0 ≤ sz234 ∧ sz234 ≤ ↑mr235 ∧ ↑mr235 ≤ (4004 : Int) ∧ 32 ≤ mr235) : mr_t ≤ 2000 ∧ mr_a ≤ 4002 ∧ mr235 ≤ 4004 ∧ mr_p ≤ 2000 ∧ mr_r ≤ 6000 ∧ mr_s ≤ 6000 ∧ 0 ≤ sz_t ∧ sz_t ≤ 2000 := by omega
theorem axPW_split_23 {cmp : Int} {lf : Nat} (h0 : 0 ≤ cmp ∧ cmp + ↑(lf + 1) ≤ 600) : 0 ≤ cmp ∧ cmp + ↑lf ≤ 600 := by omega
theorem axPW_split_24 {NR : Nat → Nat} {on : Nat} {nm : Nat} {ns : Nat} {nt : Nat} {m : Nat} {mr_t : Nat} {mr_a : Nat} {mr_b : Nat} {mr_p : Nat} {mr_r : Nat} {mr_s : Nat} {nb : Nat} {sz_t : Int} {lf : Nat} {nm229 : Nat} {ns230 : Nat} {mr235 : Nat} {G : ab_G} {G21 : ab_G} (h0 : (↑(ab_slots G) : Int) + 4238526 + 2200 * ↑(lf + 1) + 100 * sz_t ≤ ↑room_1.slots + ↑(zT nm 52026 + stT ns + 2 * nt + onSQ on + 2 * nb + sumN prS NR + zT mr_t 2000 + zT mr_a 4002 + zT mr_b 4004 + zT mr_p 2000 + zT mr_r 6000 + zT mr_s 6000 + 4 * zT m 2000 + 3 * m)) (h1 : ab_slots G21 + (zT nm 52026 + stT ns + 2 * nt + onSQ on + zT mr_b 4004) ≤ ab_slots G + (zT nm229 52026 + stT ns230 + 2 * nt + onSQ on + zT mr235 4004)) : (↑(ab_slots G21) : Int) + 4238526 + 2200 * ↑lf + 100 * sz_t ≤ ↑room_1.slots + ↑(zT nm229 52026 + stT ns230 + 2 * nt + onSQ on + 2 * nb + sumN prS NR + zT mr_t 2000 + zT mr_a 4002 + zT mr235 4004 + zT mr_p 2000 + zT mr_r 6000 + zT mr_s 6000 + 4 * zT m 2000 + 3 * m) := by omega
theorem axPW_split_25 {NR : Nat → Nat} {on : Nat} {nm : Nat} {ns : Nat} {nt : Nat} {m : Nat} {mr_t : Nat} {mr_a : Nat} {mr_b : Nat} {mr_p : Nat} {mr_r : Nat} {mr_s : Nat} {nb : Nat} {sz_t : Int} {lf : Nat} {nm229 : Nat} {ns230 : Nat} {mr235 : Nat} {G : ab_G} {G21 : ab_G} (h0 : 64 * (↑G.length : Int) + 11489248 + 9000 * ↑(lf + 1) + 400 * sz_t ≤ 64 * (↑ab_n0 + ↑room_1.cells) + ↑(64 * nm + 64 * stC ns + nt + onPQ on + nb + 2 * sumN prC NR + 64 * mr_t + 64 * mr_a + 64 * mr_b + 64 * mr_p + 64 * mr_r + 64 * mr_s + 256 * m)) (h1 : 64 * G21.length + (64 * nm + 64 * stC ns + nt + onPQ on + 64 * mr_b) ≤ 64 * G.length + (64 * nm229 + 64 * stC ns230 + nt + onPQ on + 64 * mr235)) : 64 * (↑G21.length : Int) + 11489248 + 9000 * ↑lf + 400 * sz_t ≤ 64 * (↑ab_n0 + ↑room_1.cells) + ↑(64 * nm229 + 64 * stC ns230 + nt + onPQ on + nb + 2 * sumN prC NR + 64 * mr_t + 64 * mr_a + 64 * mr235 + 64 * mr_p + 64 * mr_r + 64 * mr_s + 256 * m) := by omega
theorem axPW_split_26 {sb : Int} {lf : Nat} (h0 : 0 ≤ sb ∧ sb + 25000 * ↑(lf + 1) ≤ 13000000) : 0 ≤ sb ∧ sb + 25000 * ↑lf ≤ 13000000 := by omega
set_option maxRecDepth 100000 in
set_option maxHeartbeats 4000000 in
theorem w_split {X : ab_X} {d : Nat} {o : Nat → Nat} {G : ab_G} {w_ lf : Nat} {sl : Int} {RD_ : Int → Int} {F_t : Int → Int} {sz_t : Int} {PG : Nat → Option Nat} {cv : Int → Int} {fa : Int} {fp : Int} {n : Int} {f : Int → Int} {sz_a : Int} {F_a : Int → Int} {sz_b : Int} {F_b : Int → Int} {sz_r : Int} {F_r : Int → Int} {LA : Int → Int} (h : pwW o G w_ (lf + 1) RD_ F_t sz_t PG cv fa fp n f sz_a F_a sz_b F_b sz_r F_r LA) (cr : -2147483648 ≤ sl ∧ sl ≤ 2147483647) (n18 : ab_n0 = 18) (hd : 16 ≤ d) : ab_F X d y_PW_split (.code y_PW_split b_PW_split 7 (some (.int))) [vR w_, vz sl] G (fun oc G2 => ∃ (o2 : Nat → Nat) (S : List Nat) (RD2 : Int → Int) (F2 : Int → Int) (sz2 : Int) (PG2 : Nat → Option Nat) (cw2 : Int → Int) (fa2 : Int) (fp2 : Int) (sn2 : Int) (sf2 : Int → Int) (za2 : Int) (Fa2 : Int → Int) (zb2 : Int) (Fb2 : Int → Int) (zr2 : Int) (Fr2 : Int → Int) (LA2 : Int → Int), fx o o2 S G G2 ∧ (∀ l ∈ S, 18 ≤ l ∧ l < 190) ∧ pwW o2 G2 w_ lf RD2 F2 sz2 PG2 cw2 fa2 fp2 sn2 sf2 za2 Fa2 zb2 Fb2 zr2 Fr2 LA2 ∧ ((∃ v : Int, oc = .returned (some (vz v)) ∧ spP PG cv sl f n v zb2 Fb2) ∨ (∃ b : Nat, oc = .threw b ∧ G2[b]? = some (.inr (13, [])) ∧ npg PG sl ∧ zb2 = sz_b ∧ Fb2 = F_b)) ∧ RD2 = RD_ ∧ F2 = F_t ∧ sz2 = sz_t ∧ PG2 = PG ∧ cw2 = cv ∧ fa2 = fa ∧ fp2 = fp ∧ sn2 = n ∧ sf2 = f ∧ za2 = sz_a ∧ Fa2 = F_a ∧ zr2 = sz_r ∧ Fr2 = F_r ∧ LA2 = LA) := by
  obtain ⟨k_, hkq⟩ := kq6_ex sl
  have hk6 := hkq.1
  obtain ⟨f_ready, f_tape, f_reader, f_programs, f_subject, f_spans, f_threads, f_marks, f_oneMind, f_states, f_latest, f_matches, f_pieces, f_template, f_result, f_spare, cmp, sb, NR, on, nm, ns, nt, m, mr_t, mr_a, mr_b, mr_p, mr_r, mr_s, lr_, ls_, jr_, nb, sz_s, F_s, hw_, hf_programs, h17, h15, h16, pthI_f_threads, pmkI_f_marks, pomI_f_oneMind, pstI_f_states, psuI_f_subject, ppgI_0, prdI_f_reader, ptbI_0, pryJ_f_ready, ptpJ_f_tape, pspJ_f_spans, plaJ_f_latest, pmaJ_f_matches, ppcJ_f_pieces, ptmJ_f_template, prsJ_f_result, prsJ_f_spare, cjr, hmr, hpn, ccm, hS, hC, csb⟩ := h
  have hb1 : 64 ≤ nm ∧ nm ≤ 52026 := pmkI_f_marks.b
  have hb2 : nt ≤ 104000 := pomI_f_oneMind.nt
  have hb3 : nb ≤ 104000 := prdI_f_reader.b
  have hb4 : m ≤ 2000 ∧ 32 ≤ m ∧ 0 ≤ n ∧ n ≤ 2000 := psuI_f_subject.b
  have hb5 : stT ns ≤ 1916393 := stT_le ns
  have hb6 : stC ns ≤ 5 := stC_le ns
  have hb7 : onPQ on ≤ 192 := onPQ_le on
  have hb8 : onSQ on ≤ 2425 := onSQ_le on
  have hb9 : zT nm 52026 ≤ 156078 := zT_le (n := nm) (lim := 52026) (c := 52026) (axPW_split_0 hb1) rfl
  have hb10 : zT m 2000 ≤ 6000 := zT_le (n := m) (lim := 2000) (c := 2000) (axPW_split_1 hb4) rfl
  have hb11 : zT mr_t 2000 ≤ 6000 := zT_le (n := mr_t) (lim := 2000) (c := 2000) (axPW_split_2 hmr) rfl
  have hb12 : zT mr_a 4002 ≤ 12006 := zT_le (n := mr_a) (lim := 4002) (c := 4002) (axPW_split_3 hmr) rfl
  have hb13 : zT mr_b 4004 ≤ 12012 := zT_le (n := mr_b) (lim := 4004) (c := 4004) (axPW_split_4 hmr) rfl
  have hb14 : zT mr_p 2000 ≤ 6000 := zT_le (n := mr_p) (lim := 2000) (c := 2000) (axPW_split_5 hmr) rfl
  have hb15 : zT mr_r 6000 ≤ 18000 := zT_le (n := mr_r) (lim := 6000) (c := 6000) (axPW_split_6 hmr) rfl
  have hb16 : zT mr_s 6000 ≤ 18000 := zT_le (n := mr_s) (lim := 6000) (c := 6000) (axPW_split_7 hmr) rfl
  have hb17 : sumN prS NR ≤ 5 * 202602 + prS (NR k_) := sumN_le (f := prS) (k := k_) (fun j hj => prS_le (ppgI_0.nr hpn j hj)) hk6
  have hb18 : prS (NR k_) ≤ 202602 := prS_le (ppgI_0.nr hpn k_ hk6)
  have hb19 : sumN prC NR ≤ 5 * 100224 + prC (NR k_) := sumN_le (f := prC) (k := k_) (fun j hj => prC_le (ppgI_0.nr hpn j hj)) hk6
  have hb20 : prC (NR k_) ≤ 100224 := prC_le (ppgI_0.nr hpn k_ hk6)
  obtain ⟨SP, hf_spans, jsp⟩ := pspJ_f_spans
  obtain ⟨it_b, hf_pieces, hit_b, crw_b⟩ := ppcJ_f_pieces
  have hfr : fx o o [18, 31, 73, 74, 32, 33, 35, 36, 37, 38, 39, 40, 44, 45, 46, 47, 50, 51, 52, 53, 54, 55, 56, 57, 60, 61, 62, 63, 64, 65, 66, 67, 68] G G := fx.rf
  refine (z_PW_split (o := o) (w_ := w_) (f_ready := f_ready) (f_tape := f_tape) (f_reader := f_reader) (f_programs := f_programs) (f_subject := f_subject) (f_spans := f_spans) (f_threads := f_threads) (f_marks := f_marks) (f_oneMind := f_oneMind) (f_states := f_states) (f_latest := f_latest) (f_matches := f_matches) (f_pieces := f_pieces) (f_template := f_template) (f_result := f_result) (f_spare := f_spare) (cmp := cmp) (ovs := 0) (sb := sb) (PG := PG) (NR := NR) (cv := cv) (on := on) (nm := nm) (ns := ns) (nt := nt) (n := n) (m := m) (SP := SP) (f := f) (it_a := it_b) (sz_a := sz_b) (mr_a := mr_b) (F_a := F_b) (sl := sl) (k_ := k_) hw_ hf_spans h17 hf_programs hf_pieces hit_b pthI_f_threads pmkI_f_marks pomI_f_oneMind pstI_f_states psuI_f_subject ppgI_0 n18 hkq cr jsp crw_b (axPW_split_8 hmr hC hb3 hb4 hb19 hb20) (axPW_split_9 hmr hS hb3 hb4 hb10 hb11 hb12 hb13 hb14 hb15 hb16 hb17 hb18) hd).post (fun oc G21 hq => ?_)
  rcases hq with ⟨o22, b23, hv, hfk, hNw_, hNf_spans, hNf_pieces, hNit_b, pNthI_f_threads, pNmkI_f_marks, pNomI_f_oneMind, pNstI_f_states, pNsuI_f_subject, pNpgI_0, hq24, hq25, hq26, hq27⟩ | ⟨o28, nm229, ns230, SP231, r32, it233, sz234, mr235, F236, hv, hfk, hNw_, hNf_spans, hNf_pieces, hNit233, pNthI_f_threads, pNmkI_f_marks, pNomI_f_oneMind, pNstI_f_states, pNsuI_f_subject, pNpgI_0, hq37, hq38, hq39, hq40, hq41⟩
  · cases hv
    have hf_programs := hfk.get hf_programs (by decide)
    have h17 := hfk.get h17 (by decide)
    have h15 := hfk.get h15 (by decide)
    have h16 := hfk.get h16 (by decide)
    have prdI_f_reader := rdI.fr hfk prdI_f_reader (by decide) (by decide) (by decide) (by decide) (by decide) (by decide)
    have ptbI_0 := tbI.fr hfk ptbI_0  (by decide)
    have pryJ_f_ready := ryJ.fr hfk pryJ_f_ready (by decide)
    have ptpJ_f_tape := tpJ.fr hfk ptpJ_f_tape (by decide) (by decide)
    have plaJ_f_latest := laJ.fr hfk plaJ_f_latest (by decide)
    have pmaJ_f_matches := maJ.fr hfk pmaJ_f_matches (by decide) (by decide)
    have ptmJ_f_template := tmJ.fr hfk ptmJ_f_template (by decide) (by decide)
    have prsJ_f_result := rsJ.fr hfk prsJ_f_result (axPW_split_10 hk6 cjr) (axPW_split_11 hk6 cjr)
    have prsJ_f_spare := rsJ.fr hfk prsJ_f_spare (axPW_split_12 hk6 cjr) (axPW_split_13 hk6 cjr)
    have pthI_f_threads := pNthI_f_threads
    have pmkI_f_marks := pNmkI_f_marks
    have pomI_f_oneMind := pNomI_f_oneMind
    have pstI_f_states := pNstI_f_states
    have psuI_f_subject := pNsuI_f_subject
    have ppgI_0 := pNpgI_0
    have hfr := hfr.tr hfk (fun _ h => h)
    have hq42 := hfk.1
    have hw_ := hNw_
    have hf_spans := hNf_spans
    have hf_pieces := hNf_pieces
    have hit_b := hNit_b
    have pspJ_f_spans : spJ o22 G21 f_spans := ⟨SP, hf_spans, jsp⟩
    have ppcJ_f_pieces : pcJ o22 G21 f_pieces mr_b sz_b F_b := ⟨it_b, hf_pieces, hit_b, crw_b⟩
    have ppwW_w_ : pwW o22 G21 w_ lf RD_ F_t sz_t PG cv fa fp n f sz_a F_a sz_b F_b sz_r F_r LA := ⟨f_ready, f_tape, f_reader, f_programs, f_subject, f_spans, f_threads, f_marks, f_oneMind, f_states, f_latest, f_matches, f_pieces, f_template, f_result, f_spare, cmp, sb, NR, on, nm, ns, nt, m, mr_t, mr_a, mr_b, mr_p, mr_r, mr_s, lr_, ls_, jr_, nb, sz_s, F_s, hw_, hf_programs, h17, h15, h16, pthI_f_threads, pmkI_f_marks, pomI_f_oneMind, pstI_f_states, psuI_f_subject, ppgI_0, prdI_f_reader, ptbI_0, pryJ_f_ready, ptpJ_f_tape, pspJ_f_spans, plaJ_f_latest, pmaJ_f_matches, ppcJ_f_pieces, ptmJ_f_template, prsJ_f_result, prsJ_f_spare, cjr, hmr, hpn, (axPW_split_14 ccm), (axPW_split_15 hS hq26), (axPW_split_16 hC hq25), (axPW_split_17 csb)⟩
    exact ⟨_, _, RD_, F_t, sz_t, PG, cv, fa, fp, n, f, sz_a, F_a, sz_b, F_b, sz_r, F_r, LA, hfr, (by decide), ppwW_w_, Or.inr ⟨_, rfl, hq24, hq27, rfl, rfl⟩, rfl, rfl, rfl, rfl, rfl, rfl, rfl, rfl, rfl, rfl, rfl, rfl, rfl, rfl⟩
  · cases hv
    have hf_programs := hfk.get hf_programs (by decide)
    have h17 := hfk.get h17 (by decide)
    have h15 := hfk.get h15 (by decide)
    have h16 := hfk.get h16 (by decide)
    have prdI_f_reader := rdI.fr hfk prdI_f_reader (by decide) (by decide) (by decide) (by decide) (by decide) (by decide)
    have ptbI_0 := tbI.fr hfk ptbI_0  (by decide)
    have pryJ_f_ready := ryJ.fr hfk pryJ_f_ready (by decide)
    have ptpJ_f_tape := tpJ.fr hfk ptpJ_f_tape (by decide) (by decide)
    have plaJ_f_latest := laJ.fr hfk plaJ_f_latest (by decide)
    have pmaJ_f_matches := maJ.fr hfk pmaJ_f_matches (by decide) (by decide)
    have ptmJ_f_template := tmJ.fr hfk ptmJ_f_template (by decide) (by decide)
    have prsJ_f_result := rsJ.fr hfk prsJ_f_result (axPW_split_18 hk6 cjr) (axPW_split_19 hk6 cjr)
    have prsJ_f_spare := rsJ.fr hfk prsJ_f_spare (axPW_split_20 hk6 cjr) (axPW_split_21 hk6 cjr)
    have pthI_f_threads := pNthI_f_threads
    have pmkI_f_marks := pNmkI_f_marks
    have pomI_f_oneMind := pNomI_f_oneMind
    have pstI_f_states := pNstI_f_states
    have psuI_f_subject := pNsuI_f_subject
    have ppgI_0 := pNpgI_0
    have hfr := hfr.tr hfk (fun _ h => h)
    have hq43 := hfk.1
    have hw_ := hNw_
    have hf_spans := hNf_spans
    have hf_pieces := hNf_pieces
    have hit233 := hNit233
    have pspJ_f_spans : spJ o28 G21 f_spans := ⟨SP231, hf_spans, hq37⟩
    have ppcJ_f_pieces : pcJ o28 G21 f_pieces mr235 sz234 F236 := ⟨it233, hf_pieces, hit233, hq38⟩
    have ppwW_w_ : pwW o28 G21 w_ lf RD_ F_t sz_t PG cv fa fp n f sz_a F_a sz234 F236 sz_r F_r LA := ⟨f_ready, f_tape, f_reader, f_programs, f_subject, f_spans, f_threads, f_marks, f_oneMind, f_states, f_latest, f_matches, f_pieces, f_template, f_result, f_spare, cmp, sb, NR, on, nm229, ns230, nt, m, mr_t, mr_a, mr235, mr_p, mr_r, mr_s, lr_, ls_, jr_, nb, sz_s, F_s, hw_, hf_programs, h17, h15, h16, pthI_f_threads, pmkI_f_marks, pomI_f_oneMind, pstI_f_states, psuI_f_subject, ppgI_0, prdI_f_reader, ptbI_0, pryJ_f_ready, ptpJ_f_tape, pspJ_f_spans, plaJ_f_latest, pmaJ_f_matches, ppcJ_f_pieces, ptmJ_f_template, prsJ_f_result, prsJ_f_spare, cjr, (axPW_split_22 hmr hq38), hpn, (axPW_split_23 ccm), (axPW_split_24 hS hq40), (axPW_split_25 hC hq39), (axPW_split_26 csb)⟩
    exact ⟨_, _, RD_, F_t, sz_t, PG, cv, fa, fp, n, f, sz_a, F_a, sz234, F236, sz_r, F_r, LA, hfr, (by decide), ppwW_w_, Or.inl ⟨_, rfl, hq41⟩, rfl, rfl, rfl, rfl, rfl, rfl, rfl, rfl, rfl, rfl, rfl, rfl, rfl, rfl⟩
