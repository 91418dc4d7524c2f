/-! the law on at most six ints (by program: wip/prog/p1c.py) -/
set_option maxRecDepth 100000 in
theorem gn_0 {xs : Nat → Int32} : (g_new 6 xs)[0]? = some (ab_if 6 (xs)) := rfl
set_option maxRecDepth 100000 in
theorem gn_18 {xs : Nat → Int32} : (g_new 6 xs)[18]? = some (ab_ob 0 [vR 19, vR 20, vR 22, vR 30, vR 31, vR 36, vR 37, vR 46, vR 51, vR 60, vR 69, vR 70, vR 72, vR 74, vR 76, vR 78, vI 0, vI 0]) := rfl
set_option maxRecDepth 100000 in
theorem gn_19 {xs : Nat → Int32} : (g_new 6 xs)[19]? = some (ab_if 20 ((fun _ => 0))) := rfl
set_option maxRecDepth 100000 in
theorem gn_20 {xs : Nat → Int32} : (g_new 6 xs)[20]? = some (ab_ob 7 [vI 2000, vR 21, vI 0]) := rfl
set_option maxRecDepth 100000 in
theorem gn_21 {xs : Nat → Int32} : (g_new 6 xs)[21]? = some (ab_if 32 ((fun _ => 0))) := rfl
set_option maxRecDepth 100000 in
theorem gn_22 {xs : Nat → Int32} : (g_new 6 xs)[22]? = some (ab_ob 6 [vR 23, vR 27, vI 0, vI 0, vI 0, vR 28, vR 29, vI 0, vI 0, vI 0]) := rfl
set_option maxRecDepth 100000 in
theorem gn_23 {xs : Nat → Int32} : (g_new 6 xs)[23]? = some (ab_ob 10 [vR 24, vR 26, vI 0, vI 0, vI 0, vI (-1), vR 1, vI 0]) := rfl
set_option maxRecDepth 100000 in
theorem gn_30 {xs : Nat → Int32} : (g_new 6 xs)[30]? = some (.inl (3, 6, .inr (.inr (.inr (.inr (fun _ => none)))))) := rfl
set_option maxRecDepth 100000 in
theorem gn_31 {xs : Nat → Int32} : (g_new 6 xs)[31]? = some (ab_ob 9 [vR 32, vR 33, vR 34, vR 35, vI 0]) := rfl
set_option maxRecDepth 100000 in
theorem gn_32 {xs : Nat → Int32} : (g_new 6 xs)[32]? = some (ab_if 32 ((fun _ => 0))) := rfl
set_option maxRecDepth 100000 in
theorem gn_33 {xs : Nat → Int32} : (g_new 6 xs)[33]? = some (ab_if 33 ((upd (fun _ => 0) 0 (-1)))) := rfl
set_option maxRecDepth 100000 in
theorem gn_34 {xs : Nat → Int32} : (g_new 6 xs)[34]? = some (ab_if 33 ((fun _ => 0))) := rfl
set_option maxRecDepth 100000 in
theorem gn_35 {xs : Nat → Int32} : (g_new 6 xs)[35]? = some (ab_if 33 ((upd (fun _ => 0) 0 47))) := rfl
set_option maxRecDepth 100000 in
theorem gn_37 {xs : Nat → Int32} : (g_new 6 xs)[37]? = some (ab_ob 11 [vR 38, vR 39, vR 40, vR 41, vR 42, vR 43, vI 0, vI 0, vR 44, vI 0, vR 45, vI 0, vN, vN, vI 0, vI 0, vJ 0]) := rfl
set_option maxRecDepth 100000 in
theorem gn_46 {xs : Nat → Int32} : (g_new 6 xs)[46]? = some (ab_ob 2 [vR 47, vR 48, vR 49, vI 0, vI 0, vR 50, vI 0, vI 0, vI 0, vI 0, vN, vN, vJ 0]) := rfl
set_option maxRecDepth 100000 in
theorem gn_51 {xs : Nat → Int32} : (g_new 6 xs)[51]? = some (ab_ob 3 [vR 52, vR 53, vR 54, vR 55, vR 57, vR 58, vR 59, vI 0, vI 0, vI 0, vN, vN, vI 0, vI 0, vJ 0]) := rfl
set_option maxRecDepth 100000 in
theorem gn_60 {xs : Nat → Int32} : (g_new 6 xs)[60]? = some (ab_ob 8 [vI 32, vN, vI 0, vI 0, vR 61, vI 0, vR 62, vR 63, vR 64, vR 65, vI 0, vR 66, vI 0, vR 67, vI 0, vR 68, vI 0, vJ 0]) := rfl
set_option maxRecDepth 100000 in
theorem gn_69 {xs : Nat → Int32} : (g_new 6 xs)[69]? = some (ab_if 20 ((fun j => if j < 20 then (-1) else 0))) := rfl
set_option maxRecDepth 100000 in
theorem gn_70 {xs : Nat → Int32} : (g_new 6 xs)[70]? = some (ab_ob 7 [vI 4002, vR 71, vI 0]) := rfl
set_option maxRecDepth 100000 in
theorem gn_72 {xs : Nat → Int32} : (g_new 6 xs)[72]? = some (ab_ob 7 [vI 4004, vR 73, vI 0]) := rfl
set_option maxRecDepth 100000 in
theorem gn_76 {xs : Nat → Int32} : (g_new 6 xs)[76]? = some (ab_ob 7 [vI 6000, vR 77, vI 0]) := rfl
set_option maxRecDepth 100000 in
theorem gn_80 {xs : Nat → Int32} : (g_new 6 xs)[80]? = some (ab_ob 12 (m_fv (vI 0) (vI 0) (vI 0) (vI 0) (vI 0) (vI 0) (vI 0) (vI 0) (vI 0) (vI 0) (vI 0) (vI 0) (vI (-1)) (vI 0) (vI 0) (vI 0) (vI 0) (vI 0) (vI 0) (vI 0) (vI 0) (vI 0) (vI 0) (vI 0) (vI 0) (vI 0) (vI 0) (vI 0) (vI 0) (vI 0) (vI 0) (vI 0) (vI 0) (vI 0) (vI 0))) := rfl
set_option maxRecDepth 100000 in
theorem gn_83 {xs : Nat → Int32} : (g_new 6 xs)[83]? = some (ab_if 20 ((fun _ => 0))) := rfl
set_option maxRecDepth 100000 in
theorem gn_84 {xs : Nat → Int32} : (g_new 6 xs)[84]? = some (ab_if 2000 ((fun _ => 0))) := rfl
set_option maxRecDepth 100000 in
theorem gn_94 {xs : Nat → Int32} : (g_new 6 xs)[94]? = some (ab_if 4200 ((fun _ => 0))) := rfl
set_option maxRecDepth 100000 in
theorem gn_95 {xs : Nat → Int32} : (g_new 6 xs)[95]? = some (ab_if 4200 ((fun _ => 0))) := rfl
set_option maxRecDepth 100000 in
theorem gn_96 {xs : Nat → Int32} : (g_new 6 xs)[96]? = some (ab_if 4200 ((fun _ => 0))) := rfl
set_option maxRecDepth 100000 in
theorem gn_97 {xs : Nat → Int32} : (g_new 6 xs)[97]? = some (ab_if 4200 ((fun _ => 0))) := rfl
set_option maxRecDepth 100000 in
theorem gn_100 {xs : Nat → Int32} : (g_new 6 xs)[100]? = some (.inl (2, 4200, .inr (.inl (fun _ => 0)))) := rfl
set_option maxRecDepth 100000 in
theorem gn_102 {xs : Nat → Int32} : (g_new 6 xs)[102]? = some (ab_if 32 ((fun _ => 0))) := rfl
set_option maxRecDepth 100000 in
theorem gn_103 {xs : Nat → Int32} : (g_new 6 xs)[103]? = some (ab_if 32 ((fun _ => 0))) := rfl
set_option maxRecDepth 100000 in
theorem gn_104 {xs : Nat → Int32} : (g_new 6 xs)[104]? = some (ab_if 32 ((fun _ => 0))) := rfl
set_option maxRecDepth 100000 in
theorem gn_105 {xs : Nat → Int32} : (g_new 6 xs)[105]? = some (ab_if 32 ((fun _ => 0))) := rfl
set_option maxRecDepth 100000 in
theorem gn_107 {xs : Nat → Int32} : (g_new 6 xs)[107]? = some (ab_if 32 ((fun _ => 0))) := rfl
set_option maxRecDepth 100000 in
theorem gn_108 {xs : Nat → Int32} : (g_new 6 xs)[108]? = some (ab_if 32 ((fun _ => 0))) := rfl
set_option maxRecDepth 100000 in
theorem gn_109 {xs : Nat → Int32} : (g_new 6 xs)[109]? = some (ab_if 32 ((fun _ => 0))) := rfl
set_option maxRecDepth 100000 in
theorem gn_110 {xs : Nat → Int32} : (g_new 6 xs)[110]? = some (ab_if 120 ((fun _ => 0))) := rfl
set_option maxRecDepth 100000 in
theorem gn_112 {xs : Nat → Int32} : (g_new 6 xs)[112]? = some (ab_zf 6 ((fun _ => 0))) := rfl
set_option maxRecDepth 100000 in
theorem gn_113 {xs : Nat → Int32} : (g_new 6 xs)[113]? = some (ab_if 6 ((fun _ => 0))) := rfl
set_option maxRecDepth 100000 in
theorem gn_114 {xs : Nat → Int32} : (g_new 6 xs)[114]? = some (ab_if 6 ((fun _ => 0))) := rfl
set_option maxRecDepth 100000 in
theorem gn_115 {xs : Nat → Int32} : (g_new 6 xs)[115]? = some (ab_if 6 ((fun _ => 0))) := rfl
set_option maxRecDepth 100000 in
theorem gn_116 {xs : Nat → Int32} : (g_new 6 xs)[116]? = some (ab_if 6 ((fun _ => 0))) := rfl
set_option maxRecDepth 100000 in
theorem gn_117 {xs : Nat → Int32} : (g_new 6 xs)[117]? = some (ab_if 6 ((fun _ => 0))) := rfl
set_option maxRecDepth 100000 in
theorem gn_118 {xs : Nat → Int32} : (g_new 6 xs)[118]? = some (ab_if 75000 ((fun _ => 0))) := rfl
set_option maxRecDepth 100000 in
theorem gn_119 {xs : Nat → Int32} : (g_new 6 xs)[119]? = some (ab_if 75000 ((fun _ => 0))) := rfl
set_option maxRecDepth 100000 in
theorem gn_120 {xs : Nat → Int32} : (g_new 6 xs)[120]? = some (ab_if 75000 ((fun _ => 0))) := rfl
set_option maxRecDepth 100000 in
theorem gn_125 {xs : Nat → Int32} : (g_new 6 xs)[125]? = some (ab_if 6 ((fun _ => 0))) := rfl
set_option maxRecDepth 100000 in
theorem gn_126 {xs : Nat → Int32} : (g_new 6 xs)[126]? = some (ab_if 720 ((fun _ => 0))) := rfl
set_option maxRecDepth 100000 in
theorem gn_127 {xs : Nat → Int32} : (g_new 6 xs)[127]? = some (ab_if 60 ((fun _ => 0))) := rfl
set_option maxRecDepth 100000 in
theorem gn_128 {xs : Nat → Int32} : (g_new 6 xs)[128]? = some (ab_if 300 ((fun _ => 0))) := rfl
set_option maxRecDepth 100000 in
theorem gn_129 {xs : Nat → Int32} : (g_new 6 xs)[129]? = some (ab_if 300 ((fun _ => 0))) := rfl
set_option maxRecDepth 100000 in
theorem gn_130 {xs : Nat → Int32} : (g_new 6 xs)[130]? = some (ab_if 300 ((fun _ => 0))) := rfl
set_option maxRecDepth 100000 in
theorem gn_131 {xs : Nat → Int32} : (g_new 6 xs)[131]? = some (ab_if 300 ((fun _ => 0))) := rfl
set_option maxRecDepth 100000 in
theorem gn_132 {xs : Nat → Int32} : (g_new 6 xs)[132]? = some (ab_if 300 ((fun _ => 0))) := rfl
set_option maxRecDepth 100000 in
theorem gn_133 {xs : Nat → Int32} : (g_new 6 xs)[133]? = some (ab_if 40000 ((fun _ => 0))) := rfl
set_option maxRecDepth 100000 in
theorem gn_148 {xs : Nat → Int32} : (g_new 6 xs)[148]? = some (.inl (2, 1, .inr (.inl (fun _ => 0)))) := rfl
set_option maxRecDepth 100000 in
set_option maxHeartbeats 4000000 in
theorem lk_0 {X : ab_X} {xs : Nat → Int32} : ab_W X ab_LW 2048 (g_new 6 xs) 40 [some (vR 0), some (vR 18), some (vR 80), some (vR 148), some (vI 0), none, none] [vI (nI 0)] (fun o _ => o = .returned (some (vI 1))) := by
  refine ab_tableIn (off := 92) (tgt := 132) d_LA_law_40 (by decide) (by decide) (by decide) (by decide) ?_
  exact lc_0 (d := 2048) (g_new_len 6 xs) (g_new_slots 6 xs) gn_0 gn_18 gn_19 gn_80 gn_83  (by decide)
set_option maxRecDepth 100000 in
set_option maxHeartbeats 4000000 in
theorem lk_1 {X : ab_X} {xs : Nat → Int32} : ab_W X ab_LW 2048 (g_new 6 xs) 40 [some (vR 0), some (vR 18), some (vR 80), some (vR 148), some (vI 0), none, none] [vI (nI 1)] (fun o _ => o = .returned (some (vI 1))) := by
  refine ab_tableIn (off := 163) (tgt := 203) d_LA_law_40 (by decide) (by decide) (by decide) (by decide) ?_
  by_cases c0 : xs 1 < 0
  · exact lc_1a (d := 2048) (g_new_len 6 xs) (g_new_slots 6 xs) gn_0 gn_18 gn_80 c0 (by decide)
  · by_cases c1 : 20 < xs 1
    · exact lc_1b (d := 2048) (g_new_len 6 xs) (g_new_slots 6 xs) gn_0 gn_18 gn_80 (Int32.not_lt.mp c0) c1 (by decide)
    · exact lc_1c (d := 2048) (g_new_len 6 xs) (g_new_slots 6 xs) gn_0 gn_18 gn_19 gn_20 gn_21 gn_80 gn_83 gn_84 (Int32.not_lt.mp c0) (Int32.not_lt.mp c1) (by decide)
set_option maxRecDepth 100000 in
set_option maxHeartbeats 4000000 in
theorem lk_2 {X : ab_X} {xs : Nat → Int32} : ab_W X ab_LW 2048 (g_new 6 xs) 40 [some (vR 0), some (vR 18), some (vR 80), some (vR 148), some (vI 0), none, none] [vI (nI 2)] (fun o _ => o = .returned (some (vI 1))) := by
  refine ab_tableIn (off := 188) (tgt := 228) d_LA_law_40 (by decide) (by decide) (by decide) (by decide) ?_
  by_cases c0 : xs 1 < 0
  · exact lc_2a (d := 2048) (g_new_len 6 xs) (g_new_slots 6 xs) gn_0 gn_18 gn_80 c0 (by decide)
  · by_cases c1 : 5 < xs 1
    · exact lc_2b (d := 2048) (g_new_len 6 xs) (g_new_slots 6 xs) gn_0 gn_18 gn_80 (Int32.not_lt.mp c0) c1 (by decide)
    · by_cases c2 : xs 2 < 0
      · exact lc_2c (d := 2048) (g_new_len 6 xs) (g_new_slots 6 xs) gn_0 gn_18 gn_80 (Int32.not_lt.mp c0) (Int32.not_lt.mp c1) c2 (by decide)
      · by_cases c3 : 31 < xs 2
        · exact lc_2d (d := 2048) (g_new_len 6 xs) (g_new_slots 6 xs) gn_0 gn_18 gn_80 (Int32.not_lt.mp c0) (Int32.not_lt.mp c1) (Int32.not_lt.mp c2) c3 (by decide)
        · exact lc_2e (d := 2048) (g_new_len 6 xs) (g_new_slots 6 xs) gn_0 gn_18 gn_20 gn_22 gn_23 gn_30 gn_80 gn_94 gn_95 gn_96 gn_97 gn_100 gn_102 gn_103 gn_104 gn_105 gn_107 gn_108 gn_109 gn_110 gn_112 gn_113 gn_114 gn_115 gn_116 gn_117 gn_118 gn_119 gn_120 gn_125 gn_126 gn_127 gn_128 gn_129 gn_130 gn_131 gn_132 gn_133 gn_148 (Int32.not_lt.mp c0) (Int32.not_lt.mp c1) (Int32.not_lt.mp c2) (Int32.not_lt.mp c3) (by decide)
set_option maxRecDepth 100000 in
set_option maxHeartbeats 4000000 in
theorem lk_3 {X : ab_X} {xs : Nat → Int32} : ab_W X ab_LW 2048 (g_new 6 xs) 40 [some (vR 0), some (vR 18), some (vR 80), some (vR 148), some (vI 0), none, none] [vI (nI 3)] (fun o _ => o = .returned (some (vI 1))) := by
  refine ab_tableIn (off := 256) (tgt := 296) d_LA_law_40 (by decide) (by decide) (by decide) (by decide) ?_
  by_cases c0 : xs 1 = 0
  · exact lc_3a (d := 2048) (g_new_len 6 xs) (g_new_slots 6 xs) gn_0 gn_18 gn_22 gn_23 gn_80 c0 (by decide)
  · exact lc_3b (d := 2048) (g_new_len 6 xs) (g_new_slots 6 xs) gn_0 gn_18 gn_22 gn_23 gn_80 c0 (by decide)
set_option maxRecDepth 100000 in
set_option maxHeartbeats 4000000 in
theorem lk_4 {X : ab_X} {xs : Nat → Int32} : ab_W X ab_LW 2048 (g_new 6 xs) 40 [some (vR 0), some (vR 18), some (vR 80), some (vR 148), some (vI 0), none, none] [vI (nI 4)] (fun o _ => o = .returned (some (vI 1))) := by
  refine ab_tableIn (off := 281) (tgt := 321) d_LA_law_40 (by decide) (by decide) (by decide) (by decide) ?_
  exact lc_4 (d := 2048) (g_new_len 6 xs) (g_new_slots 6 xs) gn_0 gn_18 gn_30 gn_80 gn_112  (by decide)
set_option maxRecDepth 100000 in
set_option maxHeartbeats 4000000 in
theorem lk_5 {X : ab_X} {xs : Nat → Int32} : ab_W X ab_LW 2048 (g_new 6 xs) 40 [some (vR 0), some (vR 18), some (vR 80), some (vR 148), some (vI 0), none, none] [vI (nI 5)] (fun o _ => o = .returned (some (vI 1))) := by
  refine ab_tableIn (off := 318) (tgt := 358) d_LA_law_40 (by decide) (by decide) (by decide) (by decide) ?_
  exact lc_5 (d := 2048) (g_new_len 6 xs) (g_new_slots 6 xs) gn_0 gn_18 gn_30 gn_80 gn_112  (by decide)
set_option maxRecDepth 100000 in
set_option maxHeartbeats 4000000 in
theorem lk_6 {X : ab_X} {xs : Nat → Int32} : ab_W X ab_LW 2048 (g_new 6 xs) 40 [some (vR 0), some (vR 18), some (vR 80), some (vR 148), some (vI 0), none, none] [vI (nI 6)] (fun o _ => o = .returned (some (vI 1))) := by
  refine ab_tableIn (off := 367) (tgt := 407) d_LA_law_40 (by decide) (by decide) (by decide) (by decide) ?_
  exact lc_6 (d := 2048) (g_new_len 6 xs) (g_new_slots 6 xs) gn_0 gn_18 gn_20 gn_21 gn_31 gn_32 gn_33 gn_34 gn_35 gn_80  (by decide)
set_option maxRecDepth 100000 in
set_option maxHeartbeats 4000000 in
theorem lk_7 {X : ab_X} {xs : Nat → Int32} : ab_W X ab_LW 2048 (g_new 6 xs) 40 [some (vR 0), some (vR 18), some (vR 80), some (vR 148), some (vI 0), none, none] [vI (nI 7)] (fun o _ => o = .returned (some (vI 1))) := by
  refine ab_tableIn (off := 380) (tgt := 420) d_LA_law_40 (by decide) (by decide) (by decide) (by decide) ?_
  exact lc_7 (d := 2048) (g_new_len 6 xs) (g_new_slots 6 xs) gn_0 gn_18 gn_30 gn_80 gn_112  (by decide)
set_option maxRecDepth 100000 in
set_option maxHeartbeats 4000000 in
theorem lk_8 {X : ab_X} {xs : Nat → Int32} : ab_W X ab_LW 2048 (g_new 6 xs) 40 [some (vR 0), some (vR 18), some (vR 80), some (vR 148), some (vI 0), none, none] [vI (nI 8)] (fun o _ => o = .returned (some (vI 1))) := by
  refine ab_tableIn (off := 472) (tgt := 512) d_LA_law_40 (by decide) (by decide) (by decide) (by decide) ?_
  exact lc_8 (d := 2048) (g_new_len 6 xs) (g_new_slots 6 xs) gn_0 gn_18 gn_69 gn_80  (by decide)
set_option maxRecDepth 100000 in
set_option maxHeartbeats 4000000 in
theorem lk_9 {X : ab_X} {xs : Nat → Int32} : ab_W X ab_LW 2048 (g_new 6 xs) 40 [some (vR 0), some (vR 18), some (vR 80), some (vR 148), some (vI 0), none, none] [vI (nI 9)] (fun o _ => o = .returned (some (vI 1))) := by
  refine ab_tableIn (off := 509) (tgt := 549) d_LA_law_40 (by decide) (by decide) (by decide) (by decide) ?_
  exact lc_9 (d := 2048) (g_new_len 6 xs) (g_new_slots 6 xs) gn_0 gn_18 gn_30 gn_80 gn_112  (by decide)
set_option maxRecDepth 100000 in
set_option maxHeartbeats 4000000 in
theorem lk_10 {X : ab_X} {xs : Nat → Int32} : ab_W X ab_LW 2048 (g_new 6 xs) 40 [some (vR 0), some (vR 18), some (vR 80), some (vR 148), some (vI 0), none, none] [vI (nI 10)] (fun o _ => o = .returned (some (vI 1))) := by
  refine ab_tableIn (off := 565) (tgt := 605) d_LA_law_40 (by decide) (by decide) (by decide) (by decide) ?_
  exact lc_10 (d := 2048) (g_new_len 6 xs) (g_new_slots 6 xs) gn_0 gn_18 gn_70 gn_80  (by decide)
set_option maxRecDepth 100000 in
set_option maxHeartbeats 4000000 in
theorem lk_11 {X : ab_X} {xs : Nat → Int32} : ab_W X ab_LW 2048 (g_new 6 xs) 40 [some (vR 0), some (vR 18), some (vR 80), some (vR 148), some (vI 0), none, none] [vI (nI 11)] (fun o _ => o = .returned (some (vI 1))) := by
  refine ab_tableIn (off := 602) (tgt := 642) d_LA_law_40 (by decide) (by decide) (by decide) (by decide) ?_
  exact lc_11 (d := 2048) (g_new_len 6 xs) (g_new_slots 6 xs) gn_0 gn_18 gn_30 gn_80 gn_112  (by decide)
set_option maxRecDepth 100000 in
set_option maxHeartbeats 4000000 in
theorem lk_12 {X : ab_X} {xs : Nat → Int32} : ab_W X ab_LW 2048 (g_new 6 xs) 40 [some (vR 0), some (vR 18), some (vR 80), some (vR 148), some (vI 0), none, none] [vI (nI 12)] (fun o _ => o = .returned (some (vI 1))) := by
  refine ab_tableIn (off := 658) (tgt := 698) d_LA_law_40 (by decide) (by decide) (by decide) (by decide) ?_
  exact lc_12 (d := 2048) (g_new_len 6 xs) (g_new_slots 6 xs) gn_0 gn_18 gn_30 gn_80 gn_112  (by decide)
set_option maxRecDepth 100000 in
set_option maxHeartbeats 4000000 in
theorem lk_13 {X : ab_X} {xs : Nat → Int32} : ab_W X ab_LW 2048 (g_new 6 xs) 40 [some (vR 0), some (vR 18), some (vR 80), some (vR 148), some (vI 0), none, none] [vI (nI 13)] (fun o _ => o = .returned (some (vI 1))) := by
  refine ab_tableIn (off := 714) (tgt := 754) d_LA_law_40 (by decide) (by decide) (by decide) (by decide) ?_
  exact lc_13 (d := 2048) (g_new_len 6 xs) (g_new_slots 6 xs) gn_0 gn_18 gn_72 gn_80  (by decide)
set_option maxRecDepth 100000 in
set_option maxHeartbeats 4000000 in
theorem lk_14 {X : ab_X} {xs : Nat → Int32} : ab_W X ab_LW 2048 (g_new 6 xs) 40 [some (vR 0), some (vR 18), some (vR 80), some (vR 148), some (vI 0), none, none] [vI (nI 14)] (fun o _ => o = .returned (some (vI 1))) := by
  refine ab_tableIn (off := 751) (tgt := 791) d_LA_law_40 (by decide) (by decide) (by decide) (by decide) ?_
  exact lc_14 (d := 2048) (g_new_len 6 xs) (g_new_slots 6 xs) gn_0 gn_18 gn_30 gn_31 gn_37 gn_46 gn_51 gn_60 gn_80 gn_112  (by decide)
set_option maxRecDepth 100000 in
set_option maxHeartbeats 4000000 in
theorem lk_15 {X : ab_X} {xs : Nat → Int32} : ab_W X ab_LW 2048 (g_new 6 xs) 40 [some (vR 0), some (vR 18), some (vR 80), some (vR 148), some (vI 0), none, none] [vI (nI 15)] (fun o _ => o = .returned (some (vI 1))) := by
  refine ab_tableIn (off := 804) (tgt := 844) d_LA_law_40 (by decide) (by decide) (by decide) (by decide) ?_
  exact lc_15 (d := 2048) (g_new_len 6 xs) (g_new_slots 6 xs) gn_0 gn_18 gn_20 gn_76 gn_80  (by decide)
set_option maxRecDepth 100000 in
set_option maxHeartbeats 4000000 in
theorem lk_16 {X : ab_X} {xs : Nat → Int32} : ab_W X ab_LW 2048 (g_new 6 xs) 40 [some (vR 0), some (vR 18), some (vR 80), some (vR 148), some (vI 0), none, none] [vI (nI 16)] (fun o _ => o = .returned (some (vI 1))) := by
  refine ab_tableIn (off := 817) (tgt := 857) d_LA_law_40 (by decide) (by decide) (by decide) (by decide) ?_
  exact lc_16 (d := 2048) (g_new_len 6 xs) (g_new_slots 6 xs) gn_0 gn_18 gn_76 gn_80  (by decide)
set_option maxRecDepth 100000 in
set_option maxHeartbeats 4000000 in
theorem lk_17 {X : ab_X} {xs : Nat → Int32} : ab_W X ab_LW 2048 (g_new 6 xs) 40 [some (vR 0), some (vR 18), some (vR 80), some (vR 148), some (vI 0), none, none] [vI (nI 17)] (fun o _ => o = .returned (some (vI 1))) := by
  refine ab_tableIn (off := 842) (tgt := 882) d_LA_law_40 (by decide) (by decide) (by decide) (by decide) ?_
  by_cases c0 : xs 1 < 4
  · exact lc_17a (d := 2048) (g_new_len 6 xs) (g_new_slots 6 xs) gn_0 gn_18 gn_80 c0 (by decide)
  · by_cases c1 : 64 < xs 1
    · exact lc_17b (d := 2048) (g_new_len 6 xs) (g_new_slots 6 xs) gn_0 gn_18 gn_80 (Int32.not_lt.mp c0) c1 (by decide)
    · exact lc_17c (d := 2048) (g_new_len 6 xs) (g_new_slots 6 xs) gn_0 gn_18 gn_60 gn_80 (Int32.not_lt.mp c0) (Int32.not_lt.mp c1) (by decide)
set_option maxRecDepth 100000 in
set_option maxHeartbeats 4000000 in
theorem lk_18 {X : ab_X} {xs : Nat → Int32} : ab_W X ab_LW 2048 (g_new 6 xs) 40 [some (vR 0), some (vR 18), some (vR 80), some (vR 148), some (vI 0), none, none] [vI (nI 18)] (fun o _ => o = .returned (some (vI 1))) := by
  refine ab_tableIn (off := 878) (tgt := 918) d_LA_law_40 (by decide) (by decide) (by decide) (by decide) ?_
  exact lc_18 (d := 2048) (g_new_len 6 xs) (g_new_slots 6 xs) gn_0 gn_18 gn_80  (by decide)
set_option maxRecDepth 100000 in
set_option maxHeartbeats 4000000 in
theorem lk_d {X : ab_X} {xs : Nat → Int32} {j : Nat} (hj : ∃ x : Int32, nI j = x ∧ 18 < x.toInt) : ab_W X ab_LW 2048 (g_new 6 xs) 40 [some (vR 0), some (vR 18), some (vR 80), some (vR 148), some (vI 0), none, none] [vI (nI j)] (fun o _ => o = .returned (some (vI 1))) := by
  obtain ⟨x, e, hx⟩ := hj
  rw [e]
  exact ab_tableOut (tgt := 931) d_LA_law_40 (Or.inr hx) (by decide) (lc_d (d := 2048) (g_new_len 6 xs) (g_new_slots 6 xs) gn_0  (by decide))
set_option maxRecDepth 100000 in
set_option maxHeartbeats 4000000 in
theorem lk_all {X : ab_X} {xs : Nat → Int32} : ∀ j, j < 32 → ab_W X ab_LW 2048 (g_new 6 xs) 40 [some (vR 0), some (vR 18), some (vR 80), some (vR 148), some (vI 0), none, none] [vI (nI j)] (fun o _ => o = .returned (some (vI 1))) := by
  intro j hj
  match j, hj with
  | 0, _ => exact lk_0
  | 1, _ => exact lk_1
  | 2, _ => exact lk_2
  | 3, _ => exact lk_3
  | 4, _ => exact lk_4
  | 5, _ => exact lk_5
  | 6, _ => exact lk_6
  | 7, _ => exact lk_7
  | 8, _ => exact lk_8
  | 9, _ => exact lk_9
  | 10, _ => exact lk_10
  | 11, _ => exact lk_11
  | 12, _ => exact lk_12
  | 13, _ => exact lk_13
  | 14, _ => exact lk_14
  | 15, _ => exact lk_15
  | 16, _ => exact lk_16
  | 17, _ => exact lk_17
  | 18, _ => exact lk_18
  | 19, _ => exact lk_d ⟨19, by decide, by decide⟩
  | 20, _ => exact lk_d ⟨20, by decide, by decide⟩
  | 21, _ => exact lk_d ⟨21, by decide, by decide⟩
  | 22, _ => exact lk_d ⟨22, by decide, by decide⟩
  | 23, _ => exact lk_d ⟨23, by decide, by decide⟩
  | 24, _ => exact lk_d ⟨24, by decide, by decide⟩
  | 25, _ => exact lk_d ⟨25, by decide, by decide⟩
  | 26, _ => exact lk_d ⟨26, by decide, by decide⟩
  | 27, _ => exact lk_d ⟨27, by decide, by decide⟩
  | 28, _ => exact lk_d ⟨28, by decide, by decide⟩
  | 29, _ => exact lk_d ⟨29, by decide, by decide⟩
  | 30, _ => exact lk_d ⟨30, by decide, by decide⟩
  | 31, _ => exact lk_d ⟨31, by decide, by decide⟩
  | n + 32, h => exact absurd h (by omega)
set_option maxRecDepth 100000 in
set_option maxHeartbeats 4000000 in
theorem law_body (X : ab_X) {L : Nat} {xs : Nat → Int32} (hL : L ≤ 6) : ab_W X ab_LW 2048 (g_old L xs) 0 (ab_in [vR 0] 7) [] (fun o _ => o = .returned (some (vI 1))) := by
  refine law_begin ?_
  have h0 : (g_new L xs)[0]? = some (ab_if L xs) := rfl
  refine ab_iload d_LA_law_23 rfl ?_
  refine ab_aload_n d_LA_law_25 rfl ?_
  refine ab_alen (v := Int32.ofNat L) d_LA_law_26 h0 rfl ?_
  refine ab_bipush (v := 6) d_LA_law_27 (by decide) ?_
  refine ab_isub d_LA_law_29 ?_
  refine ab_icmp_gt (tgt := 937) d_LA_law_30 (by decide) (fun c => ?_) (fun c => ?_)
  · exact ab_iconst (v := 1) d_LA_law_937 (by decide) (ab_iret (rt := .boolean) rfl (by decide) d_LA_law_938 rfl)
  · have h6 : L = 6 := by
      rcases Nat.lt_or_ge L 6 with h | h
      · have hall : ∀ l, l < 6 → Int32.ofNat l - 6 < 0 := by decide
        exact absurd (hall L h) c
      · omega
    subst h6
    refine ab_aload_n d_LA_law_33 rfl ?_
    refine ab_iload d_LA_law_34 rfl ?_
    refine ab_iald d_LA_law_36 h0 (by unfold vp_in; decide) ?_
    refine ab_bipush (v := 31) d_LA_law_37 (by decide) ?_
    refine ab_iand d_LA_law_39 ?_
    obtain ⟨j, hj, e⟩ := pk_andE (xs (Int32.toNatClampNeg 0)) (m := 31) 5 (by decide)
    refine ab_topi e ?_
    exact lk_all j hj
