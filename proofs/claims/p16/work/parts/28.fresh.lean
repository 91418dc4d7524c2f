/-! the law's method; the world behind both constructors (by program: wip/prog/fresh.py) -/
abbrev ab_LW : ab_Y := ("PatternWorksLaw", "law", code, 7, ret, fun _ => True)
def x_cells (n : Nat) : ab_G := [ab_ob 0 [vR (n + 0), vR (n + 1), vR (n + 3), vR (n + 11), vR (n + 12), vR (n + 17), vR (n + 18), vR (n + 27), vR (n + 32), vR (n + 41), vR (n + 50), vR (n + 51), vR (n + 53), vR (n + 55), vR (n + 57), vR (n + 59), vI 0, vI 0], ab_ai 20, ab_ob 7 [vI 2000, vR (n + 2), vI 0], ab_ai 32, ab_ob 6 [vR (n + 4), vR (n + 8), vI 0, vI 0, vI 0, vR (n + 9), vR (n + 10), vI 0, vI 0, vI 0], ab_ob 10 [vR (n + 5), vR (n + 7), vI 0, vI 0, vI 0, vI (-1), vR 1, vI 0], ab_ob 1 [vR (n + 6), vI 0], ab_ai 64, ab_ai 0, ab_ob 4 [vI 4, vI 0, vN, vI (-1), vI 0, vN, vN, vN, vI 0, vI 0, vI 0, vI 0, vI 0, vI 0, vI (-1)], ab_ai 10, ab_ai 10, ab_ar 6, ab_ob 9 [vR (n + 13), vR (n + 14), vR (n + 15), vR (n + 16), vI 0], ab_ai 32, ab_if 33 ((upd (fun _ => 0) 0 (-1))), ab_ai 33, ab_if 33 ((upd (fun _ => 0) 0 47)), ab_ai 20, ab_ob 11 [vR (n + 19), vR (n + 20), vR (n + 21), vR (n + 22), vR (n + 23), vR (n + 24), vI 0, vI 0, vR (n + 25), vI 0, vR (n + 26), vI 0, vN, vN, vI 0, vI 0, vJ 0], ab_ai 20, ab_ai 20, ab_ai 801, ab_ai 801, ab_ai 16020, ab_ai 16020, ab_ai 2048, ab_ai 809, ab_ob 2 [vR (n + 28), vR (n + 29), vR (n + 30), vI 0, vI 0, vR (n + 31), vI 0, vI 0, vI 0, vI 0, vN, vN, vJ 0], ab_ai 20, ab_ai 20, ab_ai 64, ab_ai 64, ab_ob 3 [vR (n + 33), vR (n + 34), vR (n + 35), vR (n + 36), vR (n + 38), vR (n + 39), vR (n + 40), vI 0, vI 0, vI 0, vN, vN, vI 0, vI 0, vJ 0], ab_ai 20, ab_ai 20, ab_ai 20, ab_ob 1 [vR (n + 37), vI 0], ab_ai 64, ab_ai 0, ab_ai 0, ab_ai 0, ab_ob 8 [vI 32, vN, vI 0, vI 0, vR (n + 42), vI 0, vR (n + 43), vR (n + 44), vR (n + 45), vR (n + 46), vI 0, vR (n + 47), vI 0, vR (n + 48), vI 0, vR (n + 49), vI 0, vJ 0], ab_ai 120, ab_ai 8000, ab_ai 8192, ab_ai 65, ab_ai 64, ab_ai 2048, ab_ai 3072, ab_ai 809, ab_if 20 (fun j => if j < 20 then (-1) else 0), ab_ob 7 [vI 4002, vR (n + 52), vI 0], ab_ai 32, ab_ob 7 [vI 4004, vR (n + 54), vI 0], ab_ai 32, ab_ob 7 [vI 2000, vR (n + 56), vI 0], ab_ai 32, ab_ob 7 [vI 6000, vR (n + 58), vI 0], ab_ai 32, ab_ob 7 [vI 6000, vR (n + 60), vI 0], ab_ai 32]
def m_cells (n : Nat) : ab_G := [ab_ob 12 [vR (n + 0), vR (n + 1), vI 0, vR (n + 2), vR (n + 3), vR (n + 4), vR (n + 5), vI 0, vI 0, vI 0, vI 0, vI 0, vI 0, vI 0, vR (n + 6), vR (n + 7), vR (n + 8), vR (n + 9), vR (n + 10), vR (n + 11), vR (n + 12), vI 0, vR (n + 13), vR (n + 14), vR (n + 15), vR (n + 16), vR (n + 17), vR (n + 18), vR (n + 19), vR (n + 20), vI 0, vI 0, vI 0, vI (-1), vI 0, vI 0, vR (n + 21), vR (n + 22), vR (n + 23), vR (n + 24), vR (n + 25), vR (n + 26), vR (n + 27), vR (n + 28), vR (n + 29), vR (n + 30), vI 0, vI 0, vI 0, vI 0, vR (n + 31), vR (n + 32), vR (n + 33), vR (n + 34), vR (n + 35), vR (n + 36), vR (n + 37), vR (n + 38), vR (n + 39), vR (n + 40), vR (n + 41), vR (n + 42), vR (n + 43), vR (n + 44), vR (n + 45), vR (n + 46), vI 0, vI 0, vI 0, vI 0, vR (n + 47), vR (n + 48), vR (n + 49), vR (n + 50), vR (n + 51), vR (n + 52), vR (n + 53), vR (n + 54), vR (n + 55), vR (n + 56), vI 0, vI 0, vR (n + 57), vR (n + 58), vR (n + 59), vR (n + 60), vR (n + 61), vR (n + 62), vR (n + 63), vI 0, vI 0, vI 0, vI 0, vI 0, vI 0, vI 0, vR (n + 64), vR (n + 65), vR (n + 66), vI 0, vI 0, vI 0], ab_if 13 ((upd (upd (upd (upd (upd (upd (upd (upd (upd (upd (upd (upd (upd (fun _ => 0) 0 0) 1 2) 2 8) 3 16) 4 34) 5 42) 6 44) 7 46) 8 50) 9 52) 10 54) 11 62) 12 66)), ab_if 66 ((upd (upd (upd (upd (upd (upd (upd (upd (upd (upd (upd (upd (upd (upd (upd (upd (upd (upd (upd (upd (upd (upd (upd (upd (upd (upd (upd (upd (upd (upd (upd (upd (upd (upd (upd (upd (upd (upd (upd (upd (upd (upd (upd (upd (upd (upd (upd (upd (upd (upd (upd (upd (upd (upd (upd (upd (upd (upd (upd (upd (upd (upd (upd (upd (upd (upd (fun _ => 0) 0 48) 1 57) 2 9) 3 10) 4 12) 5 13) 6 32) 7 32) 8 48) 9 57) 10 65) 11 90) 12 95) 13 95) 14 97) 15 122) 16 65) 17 90) 18 97) 19 122) 20 170) 21 170) 22 181) 23 181) 24 186) 25 186) 26 192) 27 214) 28 216) 29 246) 30 248) 31 687) 32 880) 33 1279) 34 48) 35 57) 36 178) 37 179) 38 185) 39 185) 40 188) 41 190) 42 880) 43 1023) 44 1024) 45 1279) 46 65) 47 90) 48 97) 49 122) 50 65) 51 90) 52 97) 53 122) 54 33) 55 47) 56 58) 57 64) 58 91) 59 96) 60 123) 61 126) 62 9) 63 13) 64 32) 65 32)), ab_ai 20, ab_ai 2000, ab_ai 2000, ab_ai 6000, ab_ai 9000, ab_ai 9000, ab_ai 2100, ab_ai 2100, ab_ai 24000, ab_ai 24000, ab_az 1200, ab_ai 4200, ab_ai 4200, ab_ai 4200, ab_ai 4200, ab_ai 4200, ab_ai 4200, ab_al 4200, ab_az 4200, ab_ai 32, ab_ai 32, ab_ai 32, ab_ai 32, ab_ai 32, ab_ai 32, ab_ai 32, ab_ai 32, ab_ai 120, ab_ai 10, ab_az 6, ab_ai 6, ab_ai 6, ab_ai 6, ab_ai 6, ab_ai 6, ab_ai 75000, ab_ai 75000, ab_ai 75000, ab_ai 75000, ab_ai 75000, ab_ai 3600, ab_ai 3600, ab_ai 6, ab_ai 720, ab_ai 60, ab_ai 300, ab_ai 300, ab_ai 300, ab_ai 300, ab_ai 300, ab_ai 40000, ab_al 392196, ab_al 392196, ab_al 392196, ab_az 12500, ab_ai 20, ab_ai 20, ab_ai 12500, ab_ai 12500, ab_ai 25000, ab_ai 25000, ab_az 12500, ab_ai 4100, ab_ai 4100, ab_ai 6000]
def g_new (L : Nat) (xs : Nat → Int32) : ab_G := ((g_old L xs ++ x_cells 19) ++ m_cells 81) ++ [ab_al 1]
theorem ab_n1 {G : ab_G} {o E : ab_E} {T : ab_G} {n : Nat} (h : G.length = n) : List.set (G ++ [o]) n E ++ T = G ++ (E :: T) := by
  subst h
  rw [List.set_append_right _ _ (Nat.le_refl _), Nat.sub_self]
  simp
theorem ab_slots_apps {G T : ab_G} {k : Nat} (h : ab_n0 ≤ G.length) (hk : (T.map ab_sz).sum = k) : ab_slots (G ++ T) = ab_slots G + k := by
  unfold ab_slots
  rw [List.map_append, List.drop_append_of_le_length (by rw [List.length_map]; exact h), List.sum_append, hk]
theorem g1_len (L : Nat) (xs : Nat → Int32) : (g_old L xs ++ x_cells 19).length = 80 := rfl
set_option maxRecDepth 100000 in
theorem g2_len (L : Nat) (xs : Nat → Int32) : ((g_old L xs ++ x_cells 19) ++ m_cells 81).length = 148 := rfl
set_option maxRecDepth 100000 in
theorem g_new_len (L : Nat) (xs : Nat → Int32) : (g_new L xs).length = 149 := rfl
theorem x_sum : ((x_cells 19).map ab_sz).sum = 59815 := by decide +kernel
theorem m_sum : ((m_cells 81).map ab_sz).sum = 1830937 := by decide +kernel
theorem g1_slots (L : Nat) (xs : Nat → Int32) : ab_slots (g_old L xs ++ x_cells 19) = 59815 := by
  rw [ab_slots_apps (Nat.le_refl _) x_sum, g_old_slots]
theorem g2_slots (L : Nat) (xs : Nat → Int32) : ab_slots ((g_old L xs ++ x_cells 19) ++ m_cells 81) = 1890752 := by
  rw [ab_slots_apps (by rw [g1_len]; decide) m_sum, g1_slots]
theorem g_new_slots (L : Nat) (xs : Nat → Int32) : ab_slots (g_new L xs) = 1890753 := by
  unfold g_new
  rw [ab_slots_app _ (by rw [g2_len]; decide), g2_slots]
  rfl
set_option maxRecDepth 100000 in
set_option maxHeartbeats 4000000 in
/-- the law, from its entry to the head of its loop -/
theorem law_begin {X : ab_X} {L : Nat} {xs : Nat → Int32} {Q : Outcome → ab_G → Prop} (k : ab_W X ab_LW 2048 (g_new L xs) 23 [some (vR 0), some (vR 18), some (vR 80), some (vR 148), some (vI 0), none, none] [] Q) : ab_W X ab_LW 2048 (g_old L xs) 0 (ab_in [vR 0] 7) [] Q := by
  change ab_W X ab_LW 2048 (g_old L xs) 0 [some (vR 0), none, none, none, none, none, none] [] Q
  refine ab_new (fs := [vN, vN, vN, vN, vN, vN, vN, vN, vN, vN, vN, vN, vN, vN, vN, vN, vI 0, vI 0]) k_PW rfl cl_LA_8 inst_PW ini_PW d_LA_law_0 (by decide) (fun _ => rfl) (by rw [g_old_len]; decide) (by rw [g_old_slots]; decide) ?_
  change ab_W X ab_LW 2048 (g_old L xs ++ [ab_ob 0 [vN, vN, vN, vN, vN, vN, vN, vN, vN, vN, vN, vN, vN, vN, vN, vN, vI 0, vI 0]]) 3 [some (vR 0), none, none, none, none, none, none] [vR 18] Q
  refine ab_dup d_LA_law_3 rfl ?_
  refine ab_callI (d' := 2047) (as := []) (st := [vR 18]) (c_PW_init (n := 19) (by decide) (by decide) rfl rfl (by decide) (by rw [ab_slots_app _ (Nat.le_refl _), g_old_slots]; decide)) (fun o G2 h => ⟨_, h.1⟩) (by decide) m_PW_init ml_LA_33 im_PW_init rfl (Nat.le_of_ble_eq_true rfl) d_LA_law_4 rfl ?_
  intro v G2 hq
  obtain ⟨hv, rfl⟩ := hq
  cases hv
  rw [ab_n1 (n := 18) (g_old_len L xs)]
  change ab_W X ab_LW 2048 (g_old L xs ++ x_cells 19) 7 [some (vR 0), none, none, none, none, none, none] [vR 18] Q
  refine ab_astore_n d_LA_law_7 (Nat.le_of_ble_eq_true rfl) (Nat.le_of_ble_eq_true rfl) rfl ?_
  refine ab_new (fs := [vN, vN, vI 0, vN, vN, vN, vN, vI 0, vI 0, vI 0, vI 0, vI 0, vI 0, vI 0, vN, vN, vN, vN, vN, vN, vN, vI 0, vN, vN, vN, vN, vN, vN, vN, vN, vI 0, vI 0, vI 0, vI 0, vI 0, vI 0, vN, vN, vN, vN, vN, vN, vN, vN, vN, vN, vI 0, vI 0, vI 0, vI 0, vN, vN, vN, vN, vN, vN, vN, vN, vN, vN, vN, vN, vN, vN, vN, vN, vI 0, vI 0, vI 0, vI 0, vN, vN, vN, vN, vN, vN, vN, vN, vN, vN, vI 0, vI 0, vN, vN, vN, vN, vN, vN, vN, vI 0, vI 0, vI 0, vI 0, vI 0, vI 0, vI 0, vN, vN, vN, vI 0, vI 0, vI 0]) k_MO rfl cl_LA_34 inst_MO ini_MO d_LA_law_8 (by decide) (fun _ => rfl) (by rw [g1_len]; decide) (by rw [g1_slots]; decide) ?_
  change ab_W X ab_LW 2048 ((g_old L xs ++ x_cells 19) ++ [ab_ob 12 [vN, vN, vI 0, vN, vN, vN, vN, vI 0, vI 0, vI 0, vI 0, vI 0, vI 0, vI 0, vN, vN, vN, vN, vN, vN, vN, vI 0, vN, vN, vN, vN, vN, vN, vN, vN, vI 0, vI 0, vI 0, vI 0, vI 0, vI 0, vN, vN, vN, vN, vN, vN, vN, vN, vN, vN, vI 0, vI 0, vI 0, vI 0, vN, vN, vN, vN, vN, vN, vN, vN, vN, vN, vN, vN, vN, vN, vN, vN, vI 0, vI 0, vI 0, vI 0, vN, vN, vN, vN, vN, vN, vN, vN, vN, vN, vI 0, vI 0, vN, vN, vN, vN, vN, vN, vN, vI 0, vI 0, vI 0, vI 0, vI 0, vI 0, vI 0, vN, vN, vN, vI 0, vI 0, vI 0]]) 11 [some (vR 0), some (vR 18), none, none, none, none, none] [vR 80] Q
  refine ab_dup d_LA_law_11 rfl ?_
  refine ab_callI (d' := 2047) (as := []) (st := [vR 80]) (c_MO_init (n := 81) (by decide) (by decide) rfl rfl (by decide) (by rw [ab_slots_app _ (by rw [g1_len]; decide), g1_slots]; decide)) (fun o G2 h => ⟨_, h.1⟩) (by decide) m_MO_init ml_LA_36 im_MO_init rfl (Nat.le_of_ble_eq_true rfl) d_LA_law_12 rfl ?_
  intro v G2 hq
  obtain ⟨hv, rfl⟩ := hq
  cases hv
  rw [ab_n1 (g1_len L xs)]
  change ab_W X ab_LW 2048 ((g_old L xs ++ x_cells 19) ++ m_cells 81) 15 [some (vR 0), some (vR 18), none, none, none, none, none] [vR 80] Q
  refine ab_astore_n d_LA_law_15 (Nat.le_of_ble_eq_true rfl) (Nat.le_of_ble_eq_true rfl) rfl ?_
  refine ab_iconst (v := 1) d_LA_law_16 (by decide) ?_
  refine ab_newJ (N := 1) a_long d_LA_law_17 (by decide) (by decide) (by rw [g2_len]; decide) (by rw [g2_slots]; decide) ?_
  change ab_W X ab_LW 2048 (g_new L xs) 19 [some (vR 0), some (vR 18), some (vR 80), none, none, none, none] [vR 148] Q
  refine ab_astore_n d_LA_law_19 (Nat.le_of_ble_eq_true rfl) (Nat.le_of_ble_eq_true rfl) rfl ?_
  refine ab_iconst (v := 0) d_LA_law_20 (by decide) ?_
  refine ab_istore d_LA_law_21 (Nat.le_of_ble_eq_true rfl) (Nat.le_of_ble_eq_true rfl) rfl ?_
  exact k
