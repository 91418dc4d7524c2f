/-! the world behind both constructors: class and reference as predicates -/
theorem z_i0 : Int32.ofInt 0 = 0 := by decide
theorem z_j0 : Int64.ofInt 0 = 0 := by decide
theorem zai (n : Nat) : ab_ai n = za n (fun _ => 0) := by
  show (Sum.inl (0, n, Sum.inl fun _ => (0 : Int32)) : ab_E) = Sum.inl (0, n, Sum.inl fun _ => Int32.ofInt 0)
  rw [z_i0]
theorem zaz (n : Nat) : ab_az n = zb n (fun _ => 0) := by
  show (Sum.inl (1, n, Sum.inl fun _ => (0 : Int32)) : ab_E) = Sum.inl (1, n, Sum.inl fun _ => Int32.ofInt 0)
  rw [z_i0]
theorem zal (n : Nat) : ab_al n = zl n (fun _ => 0) := by
  show (Sum.inl (2, n, Sum.inr (Sum.inl fun _ => (0 : Int64))) : ab_E) = Sum.inl (2, n, Sum.inr (Sum.inl fun _ => Int64.ofInt 0))
  rw [z_j0]
theorem zaf {n : Nat} {f : Nat → Int32} {g : Int → Int} (h : ∀ i : Nat, f i = Int32.ofInt (g (i : Int))) : ab_if n f = za n g := by
  show (Sum.inl (0, n, Sum.inl f) : ab_E) = Sum.inl (0, n, Sum.inl fun i : Nat => Int32.ofInt (g (i : Int)))
  rw [show f = fun i : Nat => Int32.ofInt (g (i : Int)) from funext h]
theorem zlst {m : List Int32} {l : List Int} (h : l.map Int32.ofInt = m) (i : Nat) : m.getD i 0 = Int32.ofInt (l.getD ((i : Int)).toNat 0) := by
  subst h
  rw [Int.toNat_natCast, List.getD_eq_getElem?_getD, List.getD_eq_getElem?_getD, List.getElem?_map]
  cases l[i]? with
  | none => exact z_i0.symm
  | some v => rfl
theorem zaL {n : Nat} {m : List Int32} {l : List Int} (h : l.map Int32.ofInt = m) : ab_if n (fun j => m.getD j 0) = za n (fun i => l.getD i.toNat 0) := zaf (zlst h)
theorem rgs_z {n lo hi : Int} (h1 : lo ≤ 0) (h2 : 0 ≤ hi) : rgs (fun _ => 0) n lo hi := fun _ _ _ => ⟨h1, h2⟩
theorem bytes_0 {f : Int → Int} : bytes f 0 := fun k h0 h1 => absurd h1 (by omega)
theorem can_0 {f : Int → Int} : cs_can f 0 := fun i h0 h1 => absurd h1 (by omega)
theorem ents_f {f : Int → Int} {c : Int} : ents f 0 c := fun i h0 h1 => absurd h1 (by omega)
theorem bgo_f {f : Int → Int} (h : f 0 = 0) : bgo f 0 := ⟨h, fun i h0 h1 => absurd h1 (by omega)⟩
theorem ego_f {f : Int → Int} {c : Int} : ego f 0 c := fun s t h0 h1 => absurd h1 (by omega)
theorem pgI_0 {o : Nat → Nat} {G : ab_G} {NR : Nat → Nat} {cv : Int → Int} {cmp : Int} {on : Nat} : pgI o G 0 (fun _ => none) NR cv cmp on := fun k q _ h => by cases h
theorem pgN_0 {PG : Nat → Option Nat} : pgN PG (fun _ => 0) := fun _ _ _ => rfl
theorem mpg_0 {T N W CA CM SM EN GR FL : Int → Int} : mpg (fun _ => 0) T N W CA CM SM EN GR FL := fun s _ _ h => by have h : (0 : Int) = 1 := h; omega
theorem sas_f {SA SM : Int → Int} : sas SA SM 0 := fun s h0 h1 => absurd h1 (by omega)
theorem u8_0 {f : Int → Int} : u8 f 0 0 = -1 := by unfold u8; rw [if_pos (by omega)]
theorem suok_fr {f C Rs H : Int → Int} (hc : C 0 = -1) (hr : Rs 0 = 0) (hh : H 0 = 47) : suok f C Rs H 0 := by
  refine ⟨bytes_0, fun p h0 h1 => ?_⟩
  have e : p = 0 := by omega
  subst e
  refine ⟨by rw [hc, u8_0], fun h => absurd u8_0 h, fun _ => ⟨fun _ => hr, fun h => absurd h (by omega)⟩, ?_⟩
  rw [hh]
  have t1 : tpk f 0 (0 - 1) = -1 := by unfold tpk; rw [if_neg (by omega)]
  have t2 : tpk f 0 0 = -1 := by unfold tpk; rw [if_neg (by omega)]
  exact ⟨by decide, ⟨fun _ => hld_0.mpr rfl, fun _ => by decide⟩, ⟨fun _ => hld_1.mpr rfl, fun _ => by decide⟩, ⟨fun _ => hld_2.mpr (Or.inl rfl), fun _ => by decide⟩, ⟨fun _ => hld_3.mpr (Or.inl rfl), fun _ => by decide⟩, ⟨fun h => absurd h (by decide), fun h => absurd (show isW (tpk f 0 (0 - 1)) ↔ isW (tpk f 0 0) by rw [t1, t2]) (hld_4.mp h)⟩, ⟨fun _ => hld_5.mpr (by rw [t1, t2]), fun _ => by decide⟩⟩
def lbl : List Nat := [0, 1, 2, 3, 4, 5, 6, 7, 8, 9, 10, 11, 12, 13, 14, 15, 16, 17, 18, 19, 22, 23, 25, 24, 88, 89, 999, 999, 86, 87, 81, 26, 27, 28, 29, 30, 31, 32, 999, 33, 35, 36, 37, 38, 39, 40, 44, 999, 45, 46, 47, 50, 999, 51, 52, 53, 54, 55, 56, 57, 60, 61, 62, 63, 64, 65, 66, 67, 68, 70, 71, 72, 73, 74, 75, 76, 77, 78, 79, 80, 280, 281, 282, 283, 284, 285, 286, 287, 288, 289, 290, 291, 292, 293, 294, 295, 296, 297, 298, 299, 300, 301, 302, 303, 304, 305, 306, 307, 308, 309, 310, 311, 312, 313, 314, 315, 316, 317, 318, 319, 320, 321, 322, 323, 324, 325, 326, 327, 328, 329, 330, 331, 332, 333, 334, 335, 336, 337, 338, 339, 340, 341, 342, 343, 344, 345, 346, 347, 348]
/-- the labels of the world behind both constructors -/
def og : Nat → Nat := fun a => lbl.getD a 0
theorem zup {n : Nat} {v : Int32} {w : Int} (h : v = Int32.ofInt w) : ab_if n (upd (fun _ => 0) 0 v) = za n (fun i => if i = 0 then w else 0) := zaf (fun i => by
  unfold upd
  by_cases e : i = 0
  · subst e; rw [if_pos rfl, if_pos (by decide)]; exact h
  · rw [if_neg e, if_neg (by omega)]; exact z_i0.symm)
theorem zlate : ab_if 20 (fun j => if j < 20 then (-1) else 0) = za 20 (fun i => if i < 20 then -1 else 0) := zaf (fun i => by
  by_cases e : i < 20
  · rw [if_pos e, if_pos (by omega)]; decide
  · rw [if_neg e, if_neg (by omega)]; exact z_i0.symm)
set_option maxRecDepth 100000 in
theorem fr_t81 : ab_if 13 ((upd (upd (upd (upd (upd (upd (upd (upd (upd (upd (upd (upd (upd (fun _ => 0) 0 0) 1 2) 2 8) 3 16) 4 34) 5 42) 6 44) 7 46) 8 50) 9 52) 10 54) 11 62) 12 66)) = za 13 tbA := zaf (fun i => by
  by_cases e : i < 13
  · exact (by decide +kernel : ∀ i : Nat, i < 13 → ((upd (upd (upd (upd (upd (upd (upd (upd (upd (upd (upd (upd (upd (fun _ => 0) 0 0) 1 2) 2 8) 3 16) 4 34) 5 42) 6 44) 7 46) 8 50) 9 52) 10 54) 11 62) 12 66)) i = Int32.ofInt (tbA (i : Int))) i e
  · unfold upd tbA
    rw [List.getD_eq_getElem?_getD, List.getElem?_eq_none (by rw [Int.toNat_natCast]; exact Nat.not_lt.mp e)]
    (repeat rw [if_neg (by omega)])
    exact z_i0.symm)
set_option maxRecDepth 100000 in
theorem fr_t82 : ab_if 66 ((upd (upd (upd (upd (upd (upd (upd (upd (upd (upd (upd (upd (upd (upd (upd (upd (upd (upd (upd (upd (upd (upd (upd (upd (upd (upd (upd (upd (upd (upd (upd (upd (upd (upd (upd (upd (upd (upd (upd (upd (upd (upd (upd (upd (upd (upd (upd (upd (upd (upd (upd (upd (upd (upd (upd (upd (upd (upd (upd (upd (upd (upd (upd (upd (upd (upd (fun _ => 0) 0 48) 1 57) 2 9) 3 10) 4 12) 5 13) 6 32) 7 32) 8 48) 9 57) 10 65) 11 90) 12 95) 13 95) 14 97) 15 122) 16 65) 17 90) 18 97) 19 122) 20 170) 21 170) 22 181) 23 181) 24 186) 25 186) 26 192) 27 214) 28 216) 29 246) 30 248) 31 687) 32 880) 33 1279) 34 48) 35 57) 36 178) 37 179) 38 185) 39 185) 40 188) 41 190) 42 880) 43 1023) 44 1024) 45 1279) 46 65) 47 90) 48 97) 49 122) 50 65) 51 90) 52 97) 53 122) 54 33) 55 47) 56 58) 57 64) 58 91) 59 96) 60 123) 61 126) 62 9) 63 13) 64 32) 65 32)) = za 66 tbT := zaf (fun i => by
  by_cases e : i < 66
  · exact (by decide +kernel : ∀ i : Nat, i < 66 → ((upd (upd (upd (upd (upd (upd (upd (upd (upd (upd (upd (upd (upd (upd (upd (upd (upd (upd (upd (upd (upd (upd (upd (upd (upd (upd (upd (upd (upd (upd (upd (upd (upd (upd (upd (upd (upd (upd (upd (upd (upd (upd (upd (upd (upd (upd (upd (upd (upd (upd (upd (upd (upd (upd (upd (upd (upd (upd (upd (upd (upd (upd (upd (upd (upd (upd (fun _ => 0) 0 48) 1 57) 2 9) 3 10) 4 12) 5 13) 6 32) 7 32) 8 48) 9 57) 10 65) 11 90) 12 95) 13 95) 14 97) 15 122) 16 65) 17 90) 18 97) 19 122) 20 170) 21 170) 22 181) 23 181) 24 186) 25 186) 26 192) 27 214) 28 216) 29 246) 30 248) 31 687) 32 880) 33 1279) 34 48) 35 57) 36 178) 37 179) 38 185) 39 185) 40 188) 41 190) 42 880) 43 1023) 44 1024) 45 1279) 46 65) 47 90) 48 97) 49 122) 50 65) 51 90) 52 97) 53 122) 54 33) 55 47) 56 58) 57 64) 58 91) 59 96) 60 123) 61 126) 62 9) 63 13) 64 32) 65 32)) i = Int32.ofInt (tbT (i : Int))) i e
  · unfold upd tbT
    rw [List.getD_eq_getElem?_getD, List.getElem?_eq_none (by rw [Int.toNat_natCast]; exact Nat.not_lt.mp e)]
    (repeat rw [if_neg (by omega)])
    exact z_i0.symm)
section Fresh
variable {L : Nat} {xs : Nat → Int32}
set_option maxRecDepth 100000 in
theorem fc_0 : cc og (g_new L xs) 0 0 (za L (fun i => (xs i.toNat).toInt)) := ⟨by decide, by decide, by rw [← zaf (f := xs) (fun i => by rw [Int.toNat_natCast]; exact (Int32.ofInt_toInt _).symm)]; exact (rfl : (g_new L xs)[0]? = some (ab_if L xs))⟩
set_option maxRecDepth 100000 in
theorem fc_1 : cc og (g_new L xs) 1 1 (za (zTL 1).length (fun i => (zTL 1).getD i.toNat 0)) := ⟨by decide, by decide, (rfl : (g_new L xs)[1]? = some (ab_if 2 (fun j => ([48, 57] : List Int32).getD j 0))).trans (congrArg some (zaL (n := 2) (l := zTL 1) (m := [48, 57]) (by decide)))⟩
set_option maxRecDepth 100000 in
theorem fc_2 : cc og (g_new L xs) 2 2 (za (zTL 2).length (fun i => (zTL 2).getD i.toNat 0)) := ⟨by decide, by decide, (rfl : (g_new L xs)[2]? = some (ab_if 6 (fun j => ([9, 10, 12, 13, 32, 32] : List Int32).getD j 0))).trans (congrArg some (zaL (n := 6) (l := zTL 2) (m := [9, 10, 12, 13, 32, 32]) (by decide)))⟩
set_option maxRecDepth 100000 in
theorem fc_3 : cc og (g_new L xs) 3 3 (za (zTL 3).length (fun i => (zTL 3).getD i.toNat 0)) := ⟨by decide, by decide, (rfl : (g_new L xs)[3]? = some (ab_if 8 (fun j => ([48, 57, 65, 90, 95, 95, 97, 122] : List Int32).getD j 0))).trans (congrArg some (zaL (n := 8) (l := zTL 3) (m := [48, 57, 65, 90, 95, 95, 97, 122]) (by decide)))⟩
set_option maxRecDepth 100000 in
theorem fc_4 : cc og (g_new L xs) 4 4 (za (zTL 4).length (fun i => (zTL 4).getD i.toNat 0)) := ⟨by decide, by decide, (rfl : (g_new L xs)[4]? = some (ab_if 18 (fun j => ([65, 90, 97, 122, 170, 170, 181, 181, 186, 186, 192, 214, 216, 246, 248, 687, 880, 1279] : List Int32).getD j 0))).trans (congrArg some (zaL (n := 18) (l := zTL 4) (m := [65, 90, 97, 122, 170, 170, 181, 181, 186, 186, 192, 214, 216, 246, 248, 687, 880, 1279]) (by decide)))⟩
set_option maxRecDepth 100000 in
theorem fc_5 : cc og (g_new L xs) 5 5 (za (zTL 5).length (fun i => (zTL 5).getD i.toNat 0)) := ⟨by decide, by decide, (rfl : (g_new L xs)[5]? = some (ab_if 8 (fun j => ([48, 57, 178, 179, 185, 185, 188, 190] : List Int32).getD j 0))).trans (congrArg some (zaL (n := 8) (l := zTL 5) (m := [48, 57, 178, 179, 185, 185, 188, 190]) (by decide)))⟩
set_option maxRecDepth 100000 in
theorem fc_6 : cc og (g_new L xs) 6 6 (za (zTL 6).length (fun i => (zTL 6).getD i.toNat 0)) := ⟨by decide, by decide, (rfl : (g_new L xs)[6]? = some (ab_if 2 (fun j => ([880, 1023] : List Int32).getD j 0))).trans (congrArg some (zaL (n := 2) (l := zTL 6) (m := [880, 1023]) (by decide)))⟩
set_option maxRecDepth 100000 in
theorem fc_7 : cc og (g_new L xs) 7 7 (za (zTL 7).length (fun i => (zTL 7).getD i.toNat 0)) := ⟨by decide, by decide, (rfl : (g_new L xs)[7]? = some (ab_if 2 (fun j => ([1024, 1279] : List Int32).getD j 0))).trans (congrArg some (zaL (n := 2) (l := zTL 7) (m := [1024, 1279]) (by decide)))⟩
set_option maxRecDepth 100000 in
theorem fc_8 : cc og (g_new L xs) 8 8 (za (zTL 8).length (fun i => (zTL 8).getD i.toNat 0)) := ⟨by decide, by decide, (rfl : (g_new L xs)[8]? = some (ab_if 4 (fun j => ([65, 90, 97, 122] : List Int32).getD j 0))).trans (congrArg some (zaL (n := 4) (l := zTL 8) (m := [65, 90, 97, 122]) (by decide)))⟩
set_option maxRecDepth 100000 in
theorem fc_9 : cc og (g_new L xs) 9 9 (za (zTL 9).length (fun i => (zTL 9).getD i.toNat 0)) := ⟨by decide, by decide, (rfl : (g_new L xs)[9]? = some (ab_if 2 (fun j => ([65, 90] : List Int32).getD j 0))).trans (congrArg some (zaL (n := 2) (l := zTL 9) (m := [65, 90]) (by decide)))⟩
set_option maxRecDepth 100000 in
theorem fc_10 : cc og (g_new L xs) 10 10 (za (zTL 10).length (fun i => (zTL 10).getD i.toNat 0)) := ⟨by decide, by decide, (rfl : (g_new L xs)[10]? = some (ab_if 2 (fun j => ([97, 122] : List Int32).getD j 0))).trans (congrArg some (zaL (n := 2) (l := zTL 10) (m := [97, 122]) (by decide)))⟩
set_option maxRecDepth 100000 in
theorem fc_11 : cc og (g_new L xs) 11 11 (za (zTL 11).length (fun i => (zTL 11).getD i.toNat 0)) := ⟨by decide, by decide, (rfl : (g_new L xs)[11]? = some (ab_if 8 (fun j => ([33, 47, 58, 64, 91, 96, 123, 126] : List Int32).getD j 0))).trans (congrArg some (zaL (n := 8) (l := zTL 11) (m := [33, 47, 58, 64, 91, 96, 123, 126]) (by decide)))⟩
set_option maxRecDepth 100000 in
theorem fc_12 : cc og (g_new L xs) 12 12 (za (zTL 12).length (fun i => (zTL 12).getD i.toNat 0)) := ⟨by decide, by decide, (rfl : (g_new L xs)[12]? = some (ab_if 4 (fun j => ([9, 13, 32, 32] : List Int32).getD j 0))).trans (congrArg some (zaL (n := 4) (l := zTL 12) (m := [9, 13, 32, 32]) (by decide)))⟩
set_option maxRecDepth 100000 in
theorem fc_13 : cc og (g_new L xs) 13 13 (za (zTL 13).length (fun i => (zTL 13).getD i.toNat 0)) := ⟨by decide, by decide, (rfl : (g_new L xs)[13]? = some (ab_if 4 (fun j => ([0, 55295, 57344, 1114111] : List Int32).getD j 0))).trans (congrArg some (zaL (n := 4) (l := zTL 13) (m := [0, 55295, 57344, 1114111]) (by decide)))⟩
set_option maxRecDepth 100000 in
theorem fc_14 : cc og (g_new L xs) 14 14 (za (zTL 14).length (fun i => (zTL 14).getD i.toNat 0)) := ⟨by decide, by decide, (rfl : (g_new L xs)[14]? = some (ab_if 6 (fun j => ([0, 9, 11, 55295, 57344, 1114111] : List Int32).getD j 0))).trans (congrArg some (zaL (n := 6) (l := zTL 14) (m := [0, 9, 11, 55295, 57344, 1114111]) (by decide)))⟩
set_option maxRecDepth 100000 in
theorem fc_15 : cc og (g_new L xs) 15 15 (za 18 zAR) := ⟨by decide, by decide, (rfl : (g_new L xs)[15]? = some (ab_if 18 (fun j => ([65, 90, 32, 192, 214, 32, 216, 222, 32, 913, 937, 32, 1040, 1071, 32, 1024, 1039, 80] : List Int32).getD j 0))).trans (congrArg some (zaL (n := 18) (l := [65, 90, 32, 192, 214, 32, 216, 222, 32, 913, 937, 32, 1040, 1071, 32, 1024, 1039, 80]) (m := [65, 90, 32, 192, 214, 32, 216, 222, 32, 913, 937, 32, 1040, 1071, 32, 1024, 1039, 80]) (by decide)))⟩
set_option maxRecDepth 100000 in
theorem fc_16 : cc og (g_new L xs) 16 16 (za 20 zAF) := ⟨by decide, by decide, (rfl : (g_new L xs)[16]? = some (ab_if 20 (fun j => ([75, 107, 8490, 8490, 83, 115, 383, 383, 197, 229, 8491, 8491, 181, 924, 956, 956, 930, 931, 962, 963] : List Int32).getD j 0))).trans (congrArg some (zaL (n := 20) (l := [75, 107, 8490, 8490, 83, 115, 383, 383, 197, 229, 8491, 8491, 181, 924, 956, 956, 930, 931, 962, 963]) (m := [75, 107, 8490, 8490, 83, 115, 383, 383, 197, 229, 8491, 8491, 181, 924, 956, 956, 930, 931, 962, 963]) (by decide)))⟩
set_option maxRecDepth 100000 in
theorem fc_17 : cc og (g_new L xs) 17 17 (za 12 zFC) := ⟨by decide, by decide, (rfl : (g_new L xs)[17]? = some (ab_if 12 (fun j => ([0, 10, 11, 48, 58, 65, 91, 95, 96, 97, 123, 128] : List Int32).getD j 0))).trans (congrArg some (zaL (n := 12) (l := [0, 10, 11, 48, 58, 65, 91, 95, 96, 97, 123, 128]) (m := [0, 10, 11, 48, 58, 65, 91, 95, 96, 97, 123, 128]) (by decide)))⟩
theorem ft_tb : tbI og (g_new L xs) 0 := by
  intro k h1 h2
  match k, h1, h2 with
  | 1, _, _ => exact fc_1
  | 2, _, _ => exact fc_2
  | 3, _, _ => exact fc_3
  | 4, _, _ => exact fc_4
  | 5, _, _ => exact fc_5
  | 6, _, _ => exact fc_6
  | 7, _, _ => exact fc_7
  | 8, _, _ => exact fc_8
  | 9, _, _ => exact fc_9
  | 10, _, _ => exact fc_10
  | 11, _, _ => exact fc_11
  | 12, _, _ => exact fc_12
  | 13, _, _ => exact fc_13
  | 14, _, _ => exact fc_14
set_option maxRecDepth 100000 in
theorem fc_18 : cc og (g_new L xs) 18 18 (ab_ob 0 [vR 19, vR 20, vR 22, vR 30, vR 31, vR 36, vR 37, vR 46, vR 51, vR 60, vR 69, vR 70, vR 72, vR 74, vR 76, vR 78, vz 0, vz 0]) := ⟨by decide, by decide, (rfl : (g_new L xs)[18]? = some (ab_ob 0 [vR 19, vR 20, vR 22, vR 30, vR 31, vR 36, vR 37, vR 46, vR 51, vR 60, vR 69, vR 70, vR 72, vR 74, vR 76, vR 78, vz 0, vz 0]))⟩
set_option maxRecDepth 100000 in
theorem fc_19 : cc og (g_new L xs) 19 19 (za 20 (fun _ => 0)) := ⟨by decide, by decide, by rw [← (zai 20)]; exact (rfl : (g_new L xs)[19]? = some (ab_ai 20))⟩
set_option maxRecDepth 100000 in
theorem fc_20 : cc og (g_new L xs) 20 22 (ab_ob 7 [vz 2000, vR 21, vz 0]) := ⟨by decide, by decide, (rfl : (g_new L xs)[20]? = some (ab_ob 7 [vz 2000, vR 21, vz 0]))⟩
set_option maxRecDepth 100000 in
theorem fc_21 : cc og (g_new L xs) 21 23 (za 32 (fun _ => 0)) := ⟨by decide, by decide, by rw [← (zai 32)]; exact (rfl : (g_new L xs)[21]? = some (ab_ai 32))⟩
set_option maxRecDepth 100000 in
theorem fc_22 : cc og (g_new L xs) 22 25 (ab_ob 6 [vR 23, vR 27, vz 0, vz 0, vz 0, vR 28, vR 29, vz 0, vz 0, vz 0]) := ⟨by decide, by decide, (rfl : (g_new L xs)[22]? = some (ab_ob 6 [vR 23, vR 27, vz 0, vz 0, vz 0, vR 28, vR 29, vz 0, vz 0, vz 0]))⟩
set_option maxRecDepth 100000 in
theorem fc_23 : cc og (g_new L xs) 23 24 (ab_ob 10 [vR 24, vR 26, vz 0, vz 0, vz 0, vz (-1), vR 1, vz 0]) := ⟨by decide, by decide, (rfl : (g_new L xs)[23]? = some (ab_ob 10 [vR 24, vR 26, vz 0, vz 0, vz 0, vz (-1), vR 1, vz 0]))⟩
set_option maxRecDepth 100000 in
theorem fc_24 : cc og (g_new L xs) 24 88 (ab_ob 1 [vR 25, vz 0]) := ⟨by decide, by decide, (rfl : (g_new L xs)[24]? = some (ab_ob 1 [vR 25, vz 0]))⟩
set_option maxRecDepth 100000 in
theorem fc_25 : cc og (g_new L xs) 25 89 (za 64 (fun _ => 0)) := ⟨by decide, by decide, by rw [← (zai 64)]; exact (rfl : (g_new L xs)[25]? = some (ab_ai 64))⟩
set_option maxRecDepth 100000 in
theorem fc_28 : cc og (g_new L xs) 28 86 (za 10 (fun _ => 0)) := ⟨by decide, by decide, by rw [← (zai 10)]; exact (rfl : (g_new L xs)[28]? = some (ab_ai 10))⟩
set_option maxRecDepth 100000 in
theorem fc_29 : cc og (g_new L xs) 29 87 (za 10 (fun _ => 0)) := ⟨by decide, by decide, by rw [← (zai 10)]; exact (rfl : (g_new L xs)[29]? = some (ab_ai 10))⟩
set_option maxRecDepth 100000 in
theorem fc_30 : cc og (g_new L xs) 30 81 (ab_rr 6 (fun _ => none)) := ⟨by decide, by decide, (rfl : (g_new L xs)[30]? = some (ab_rr 6 (fun _ => none)))⟩
set_option maxRecDepth 100000 in
theorem fc_31 : cc og (g_new L xs) 31 26 (ab_ob 9 [vR 32, vR 33, vR 34, vR 35, vz 0]) := ⟨by decide, by decide, (rfl : (g_new L xs)[31]? = some (ab_ob 9 [vR 32, vR 33, vR 34, vR 35, vz 0]))⟩
set_option maxRecDepth 100000 in
theorem fc_32 : cc og (g_new L xs) 32 27 (za 32 (fun _ => 0)) := ⟨by decide, by decide, by rw [← (zai 32)]; exact (rfl : (g_new L xs)[32]? = some (ab_ai 32))⟩
set_option maxRecDepth 100000 in
theorem fc_33 : cc og (g_new L xs) 33 28 (za 33 (fun i => if i = 0 then -1 else 0)) := ⟨by decide, by decide, by rw [← ((zup (n := 33) (v := -1) (w := -1) (by decide)))]; exact (rfl : (g_new L xs)[33]? = some (ab_if 33 ((upd (fun _ => 0) 0 (-1)))))⟩
set_option maxRecDepth 100000 in
theorem fc_34 : cc og (g_new L xs) 34 29 (za 33 (fun _ => 0)) := ⟨by decide, by decide, by rw [← (zai 33)]; exact (rfl : (g_new L xs)[34]? = some (ab_ai 33))⟩
set_option maxRecDepth 100000 in
theorem fc_35 : cc og (g_new L xs) 35 30 (za 33 (fun i => if i = 0 then 47 else 0)) := ⟨by decide, by decide, by rw [← ((zup (n := 33) (v := 47) (w := 47) (by decide)))]; exact (rfl : (g_new L xs)[35]? = some (ab_if 33 ((upd (fun _ => 0) 0 47))))⟩
set_option maxRecDepth 100000 in
theorem fc_36 : cc og (g_new L xs) 36 31 (za 20 (fun _ => 0)) := ⟨by decide, by decide, by rw [← (zai 20)]; exact (rfl : (g_new L xs)[36]? = some (ab_ai 20))⟩
set_option maxRecDepth 100000 in
theorem fc_37 : cc og (g_new L xs) 37 32 (ab_ob 11 [vR 38, vR 39, vR 40, vR 41, vR 42, vR 43, vz 0, vz 0, vR 44, vz 0, vR 45, vz 0, vN, vN, vz 0, vz 0, vj 0]) := ⟨by decide, by decide, (rfl : (g_new L xs)[37]? = some (ab_ob 11 [vR 38, vR 39, vR 40, vR 41, vR 42, vR 43, vz 0, vz 0, vR 44, vz 0, vR 45, vz 0, vN, vN, vz 0, vz 0, vj 0]))⟩
set_option maxRecDepth 100000 in
theorem fc_39 : cc og (g_new L xs) 39 33 (za 20 (fun _ => 0)) := ⟨by decide, by decide, by rw [← (zai 20)]; exact (rfl : (g_new L xs)[39]? = some (ab_ai 20))⟩
set_option maxRecDepth 100000 in
theorem fc_40 : cc og (g_new L xs) 40 35 (za 801 (fun _ => 0)) := ⟨by decide, by decide, by rw [← (zai 801)]; exact (rfl : (g_new L xs)[40]? = some (ab_ai 801))⟩
set_option maxRecDepth 100000 in
theorem fc_41 : cc og (g_new L xs) 41 36 (za 801 (fun _ => 0)) := ⟨by decide, by decide, by rw [← (zai 801)]; exact (rfl : (g_new L xs)[41]? = some (ab_ai 801))⟩
set_option maxRecDepth 100000 in
theorem fc_42 : cc og (g_new L xs) 42 37 (za 16020 (fun _ => 0)) := ⟨by decide, by decide, by rw [← (zai 16020)]; exact (rfl : (g_new L xs)[42]? = some (ab_ai 16020))⟩
set_option maxRecDepth 100000 in
theorem fc_43 : cc og (g_new L xs) 43 38 (za 16020 (fun _ => 0)) := ⟨by decide, by decide, by rw [← (zai 16020)]; exact (rfl : (g_new L xs)[43]? = some (ab_ai 16020))⟩
set_option maxRecDepth 100000 in
theorem fc_44 : cc og (g_new L xs) 44 39 (za 2048 (fun _ => 0)) := ⟨by decide, by decide, by rw [← (zai 2048)]; exact (rfl : (g_new L xs)[44]? = some (ab_ai 2048))⟩
set_option maxRecDepth 100000 in
theorem fc_45 : cc og (g_new L xs) 45 40 (za 809 (fun _ => 0)) := ⟨by decide, by decide, by rw [← (zai 809)]; exact (rfl : (g_new L xs)[45]? = some (ab_ai 809))⟩
set_option maxRecDepth 100000 in
theorem fc_46 : cc og (g_new L xs) 46 44 (ab_ob 2 [vR 47, vR 48, vR 49, vz 0, vz 0, vR 50, vz 0, vz 0, vz 0, vz 0, vN, vN, vj 0]) := ⟨by decide, by decide, (rfl : (g_new L xs)[46]? = some (ab_ob 2 [vR 47, vR 48, vR 49, vz 0, vz 0, vR 50, vz 0, vz 0, vz 0, vz 0, vN, vN, vj 0]))⟩
set_option maxRecDepth 100000 in
theorem fc_48 : cc og (g_new L xs) 48 45 (za 20 (fun _ => 0)) := ⟨by decide, by decide, by rw [← (zai 20)]; exact (rfl : (g_new L xs)[48]? = some (ab_ai 20))⟩
set_option maxRecDepth 100000 in
theorem fc_49 : cc og (g_new L xs) 49 46 (za 64 (fun _ => 0)) := ⟨by decide, by decide, by rw [← (zai 64)]; exact (rfl : (g_new L xs)[49]? = some (ab_ai 64))⟩
set_option maxRecDepth 100000 in
theorem fc_50 : cc og (g_new L xs) 50 47 (za 64 (fun _ => 0)) := ⟨by decide, by decide, by rw [← (zai 64)]; exact (rfl : (g_new L xs)[50]? = some (ab_ai 64))⟩
set_option maxRecDepth 100000 in
theorem fc_51 : cc og (g_new L xs) 51 50 (ab_ob 3 [vR 52, vR 53, vR 54, vR 55, vR 57, vR 58, vR 59, vz 0, vz 0, vz 0, vN, vN, vz 0, vz 0, vj 0]) := ⟨by decide, by decide, (rfl : (g_new L xs)[51]? = some (ab_ob 3 [vR 52, vR 53, vR 54, vR 55, vR 57, vR 58, vR 59, vz 0, vz 0, vz 0, vN, vN, vz 0, vz 0, vj 0]))⟩
set_option maxRecDepth 100000 in
theorem fc_53 : cc og (g_new L xs) 53 51 (za 20 (fun _ => 0)) := ⟨by decide, by decide, by rw [← (zai 20)]; exact (rfl : (g_new L xs)[53]? = some (ab_ai 20))⟩
set_option maxRecDepth 100000 in
theorem fc_54 : cc og (g_new L xs) 54 52 (za 20 (fun _ => 0)) := ⟨by decide, by decide, by rw [← (zai 20)]; exact (rfl : (g_new L xs)[54]? = some (ab_ai 20))⟩
set_option maxRecDepth 100000 in
theorem fc_55 : cc og (g_new L xs) 55 53 (ab_ob 1 [vR 56, vz 0]) := ⟨by decide, by decide, (rfl : (g_new L xs)[55]? = some (ab_ob 1 [vR 56, vz 0]))⟩
set_option maxRecDepth 100000 in
theorem fc_56 : cc og (g_new L xs) 56 54 (za 64 (fun _ => 0)) := ⟨by decide, by decide, by rw [← (zai 64)]; exact (rfl : (g_new L xs)[56]? = some (ab_ai 64))⟩
set_option maxRecDepth 100000 in
theorem fc_57 : cc og (g_new L xs) 57 55 (za 0 (fun _ => 0)) := ⟨by decide, by decide, by rw [← (zai 0)]; exact (rfl : (g_new L xs)[57]? = some (ab_ai 0))⟩
set_option maxRecDepth 100000 in
theorem fc_58 : cc og (g_new L xs) 58 56 (za 0 (fun _ => 0)) := ⟨by decide, by decide, by rw [← (zai 0)]; exact (rfl : (g_new L xs)[58]? = some (ab_ai 0))⟩
set_option maxRecDepth 100000 in
theorem fc_59 : cc og (g_new L xs) 59 57 (za 0 (fun _ => 0)) := ⟨by decide, by decide, by rw [← (zai 0)]; exact (rfl : (g_new L xs)[59]? = some (ab_ai 0))⟩
set_option maxRecDepth 100000 in
theorem fc_60 : cc og (g_new L xs) 60 60 (ab_ob 8 [vz 32, vN, vz 0, vz 0, vR 61, vz 0, vR 62, vR 63, vR 64, vR 65, vz 0, vR 66, vz 0, vR 67, vz 0, vR 68, vz 0, vj 0]) := ⟨by decide, by decide, (rfl : (g_new L xs)[60]? = some (ab_ob 8 [vz 32, vN, vz 0, vz 0, vR 61, vz 0, vR 62, vR 63, vR 64, vR 65, vz 0, vR 66, vz 0, vR 67, vz 0, vR 68, vz 0, vj 0]))⟩
set_option maxRecDepth 100000 in
theorem fc_61 : cc og (g_new L xs) 61 61 (za 120 (fun _ => 0)) := ⟨by decide, by decide, by rw [← (zai 120)]; exact (rfl : (g_new L xs)[61]? = some (ab_ai 120))⟩
set_option maxRecDepth 100000 in
theorem fc_62 : cc og (g_new L xs) 62 62 (za 8000 (fun _ => 0)) := ⟨by decide, by decide, by rw [← (zai 8000)]; exact (rfl : (g_new L xs)[62]? = some (ab_ai 8000))⟩
set_option maxRecDepth 100000 in
theorem fc_63 : cc og (g_new L xs) 63 63 (za 8192 (fun _ => 0)) := ⟨by decide, by decide, by rw [← (zai 8192)]; exact (rfl : (g_new L xs)[63]? = some (ab_ai 8192))⟩
set_option maxRecDepth 100000 in
theorem fc_64 : cc og (g_new L xs) 64 64 (za 65 (fun _ => 0)) := ⟨by decide, by decide, by rw [← (zai 65)]; exact (rfl : (g_new L xs)[64]? = some (ab_ai 65))⟩
set_option maxRecDepth 100000 in
theorem fc_65 : cc og (g_new L xs) 65 65 (za 64 (fun _ => 0)) := ⟨by decide, by decide, by rw [← (zai 64)]; exact (rfl : (g_new L xs)[65]? = some (ab_ai 64))⟩
set_option maxRecDepth 100000 in
theorem fc_66 : cc og (g_new L xs) 66 66 (za 2048 (fun _ => 0)) := ⟨by decide, by decide, by rw [← (zai 2048)]; exact (rfl : (g_new L xs)[66]? = some (ab_ai 2048))⟩
set_option maxRecDepth 100000 in
theorem fc_67 : cc og (g_new L xs) 67 67 (za 3072 (fun _ => 0)) := ⟨by decide, by decide, by rw [← (zai 3072)]; exact (rfl : (g_new L xs)[67]? = some (ab_ai 3072))⟩
set_option maxRecDepth 100000 in
theorem fc_68 : cc og (g_new L xs) 68 68 (za 809 (fun _ => 0)) := ⟨by decide, by decide, by rw [← (zai 809)]; exact (rfl : (g_new L xs)[68]? = some (ab_ai 809))⟩
set_option maxRecDepth 100000 in
theorem fc_69 : cc og (g_new L xs) 69 70 (za 20 (fun i => if i < 20 then -1 else 0)) := ⟨by decide, by decide, by rw [← (zlate)]; exact (rfl : (g_new L xs)[69]? = some (ab_if 20 (fun j => if j < 20 then (-1) else 0)))⟩
set_option maxRecDepth 100000 in
theorem fc_70 : cc og (g_new L xs) 70 71 (ab_ob 7 [vz 4002, vR 71, vz 0]) := ⟨by decide, by decide, (rfl : (g_new L xs)[70]? = some (ab_ob 7 [vz 4002, vR 71, vz 0]))⟩
set_option maxRecDepth 100000 in
theorem fc_71 : cc og (g_new L xs) 71 72 (za 32 (fun _ => 0)) := ⟨by decide, by decide, by rw [← (zai 32)]; exact (rfl : (g_new L xs)[71]? = some (ab_ai 32))⟩
set_option maxRecDepth 100000 in
theorem fc_72 : cc og (g_new L xs) 72 73 (ab_ob 7 [vz 4004, vR 73, vz 0]) := ⟨by decide, by decide, (rfl : (g_new L xs)[72]? = some (ab_ob 7 [vz 4004, vR 73, vz 0]))⟩
set_option maxRecDepth 100000 in
theorem fc_73 : cc og (g_new L xs) 73 74 (za 32 (fun _ => 0)) := ⟨by decide, by decide, by rw [← (zai 32)]; exact (rfl : (g_new L xs)[73]? = some (ab_ai 32))⟩
set_option maxRecDepth 100000 in
theorem fc_74 : cc og (g_new L xs) 74 75 (ab_ob 7 [vz 2000, vR 75, vz 0]) := ⟨by decide, by decide, (rfl : (g_new L xs)[74]? = some (ab_ob 7 [vz 2000, vR 75, vz 0]))⟩
set_option maxRecDepth 100000 in
theorem fc_75 : cc og (g_new L xs) 75 76 (za 32 (fun _ => 0)) := ⟨by decide, by decide, by rw [← (zai 32)]; exact (rfl : (g_new L xs)[75]? = some (ab_ai 32))⟩
set_option maxRecDepth 100000 in
theorem fc_76 : cc og (g_new L xs) 76 77 (ab_ob 7 [vz 6000, vR 77, vz 0]) := ⟨by decide, by decide, (rfl : (g_new L xs)[76]? = some (ab_ob 7 [vz 6000, vR 77, vz 0]))⟩
set_option maxRecDepth 100000 in
theorem fc_77 : cc og (g_new L xs) 77 78 (za 32 (fun _ => 0)) := ⟨by decide, by decide, by rw [← (zai 32)]; exact (rfl : (g_new L xs)[77]? = some (ab_ai 32))⟩
set_option maxRecDepth 100000 in
theorem fc_78 : cc og (g_new L xs) 78 79 (ab_ob 7 [vz 6000, vR 79, vz 0]) := ⟨by decide, by decide, (rfl : (g_new L xs)[78]? = some (ab_ob 7 [vz 6000, vR 79, vz 0]))⟩
set_option maxRecDepth 100000 in
theorem fc_79 : cc og (g_new L xs) 79 80 (za 32 (fun _ => 0)) := ⟨by decide, by decide, by rw [← (zai 32)]; exact (rfl : (g_new L xs)[79]? = some (ab_ai 32))⟩
set_option maxRecDepth 100000 in
theorem fc_80 : cc og (g_new L xs) 80 280 (ab_ob 12 (mof 0 0 0 0 0 0 0 0 0 0 0 0 (-1) 0 0 0 0 0 0 0 0 0 0 0 0 0 0 0 0 0 0 0 0 0 0)) := ⟨by decide, by decide, (rfl : (g_new L xs)[80]? = some (ab_ob 12 (mof 0 0 0 0 0 0 0 0 0 0 0 0 (-1) 0 0 0 0 0 0 0 0 0 0 0 0 0 0 0 0 0 0 0 0 0 0)))⟩
set_option maxRecDepth 100000 in
theorem fc_81 : cc og (g_new L xs) 81 281 (za 13 tbA) := ⟨by decide, by decide, by rw [← (fr_t81)]; exact (rfl : (g_new L xs)[81]? = some (ab_if 13 ((upd (upd (upd (upd (upd (upd (upd (upd (upd (upd (upd (upd (upd (fun _ => 0) 0 0) 1 2) 2 8) 3 16) 4 34) 5 42) 6 44) 7 46) 8 50) 9 52) 10 54) 11 62) 12 66))))⟩
set_option maxRecDepth 100000 in
theorem fc_82 : cc og (g_new L xs) 82 282 (za 66 tbT) := ⟨by decide, by decide, by rw [← (fr_t82)]; exact (rfl : (g_new L xs)[82]? = some (ab_if 66 ((upd (upd (upd (upd (upd (upd (upd (upd (upd (upd (upd (upd (upd (upd (upd (upd (upd (upd (upd (upd (upd (upd (upd (upd (upd (upd (upd (upd (upd (upd (upd (upd (upd (upd (upd (upd (upd (upd (upd (upd (upd (upd (upd (upd (upd (upd (upd (upd (upd (upd (upd (upd (upd (upd (upd (upd (upd (upd (upd (upd (upd (upd (upd (upd (upd (upd (fun _ => 0) 0 48) 1 57) 2 9) 3 10) 4 12) 5 13) 6 32) 7 32) 8 48) 9 57) 10 65) 11 90) 12 95) 13 95) 14 97) 15 122) 16 65) 17 90) 18 97) 19 122) 20 170) 21 170) 22 181) 23 181) 24 186) 25 186) 26 192) 27 214) 28 216) 29 246) 30 248) 31 687) 32 880) 33 1279) 34 48) 35 57) 36 178) 37 179) 38 185) 39 185) 40 188) 41 190) 42 880) 43 1023) 44 1024) 45 1279) 46 65) 47 90) 48 97) 49 122) 50 65) 51 90) 52 97) 53 122) 54 33) 55 47) 56 58) 57 64) 58 91) 59 96) 60 123) 61 126) 62 9) 63 13) 64 32) 65 32))))⟩
set_option maxRecDepth 100000 in
theorem fc_83 : cc og (g_new L xs) 83 283 (za 20 (fun _ => 0)) := ⟨by decide, by decide, by rw [← (zai 20)]; exact (rfl : (g_new L xs)[83]? = some (ab_ai 20))⟩
set_option maxRecDepth 100000 in
theorem fc_84 : cc og (g_new L xs) 84 284 (za 2000 (fun _ => 0)) := ⟨by decide, by decide, by rw [← (zai 2000)]; exact (rfl : (g_new L xs)[84]? = some (ab_ai 2000))⟩
set_option maxRecDepth 100000 in
theorem fc_85 : cc og (g_new L xs) 85 285 (za 2000 (fun _ => 0)) := ⟨by decide, by decide, by rw [← (zai 2000)]; exact (rfl : (g_new L xs)[85]? = some (ab_ai 2000))⟩
set_option maxRecDepth 100000 in
theorem fc_86 : cc og (g_new L xs) 86 286 (za 6000 (fun _ => 0)) := ⟨by decide, by decide, by rw [← (zai 6000)]; exact (rfl : (g_new L xs)[86]? = some (ab_ai 6000))⟩
set_option maxRecDepth 100000 in
theorem fc_87 : cc og (g_new L xs) 87 287 (za 9000 (fun _ => 0)) := ⟨by decide, by decide, by rw [← (zai 9000)]; exact (rfl : (g_new L xs)[87]? = some (ab_ai 9000))⟩
set_option maxRecDepth 100000 in
theorem fc_88 : cc og (g_new L xs) 88 288 (za 9000 (fun _ => 0)) := ⟨by decide, by decide, by rw [← (zai 9000)]; exact (rfl : (g_new L xs)[88]? = some (ab_ai 9000))⟩
set_option maxRecDepth 100000 in
theorem fc_89 : cc og (g_new L xs) 89 289 (za 2100 (fun _ => 0)) := ⟨by decide, by decide, by rw [← (zai 2100)]; exact (rfl : (g_new L xs)[89]? = some (ab_ai 2100))⟩
set_option maxRecDepth 100000 in
theorem fc_90 : cc og (g_new L xs) 90 290 (za 2100 (fun _ => 0)) := ⟨by decide, by decide, by rw [← (zai 2100)]; exact (rfl : (g_new L xs)[90]? = some (ab_ai 2100))⟩
set_option maxRecDepth 100000 in
theorem fc_91 : cc og (g_new L xs) 91 291 (za 24000 (fun _ => 0)) := ⟨by decide, by decide, by rw [← (zai 24000)]; exact (rfl : (g_new L xs)[91]? = some (ab_ai 24000))⟩
set_option maxRecDepth 100000 in
theorem fc_92 : cc og (g_new L xs) 92 292 (za 24000 (fun _ => 0)) := ⟨by decide, by decide, by rw [← (zai 24000)]; exact (rfl : (g_new L xs)[92]? = some (ab_ai 24000))⟩
set_option maxRecDepth 100000 in
theorem fc_93 : cc og (g_new L xs) 93 293 (zb 1200 (fun _ => 0)) := ⟨by decide, by decide, by rw [← (zaz 1200)]; exact (rfl : (g_new L xs)[93]? = some (ab_az 1200))⟩
set_option maxRecDepth 100000 in
theorem fc_94 : cc og (g_new L xs) 94 294 (za 4200 (fun _ => 0)) := ⟨by decide, by decide, by rw [← (zai 4200)]; exact (rfl : (g_new L xs)[94]? = some (ab_ai 4200))⟩
set_option maxRecDepth 100000 in
theorem fc_95 : cc og (g_new L xs) 95 295 (za 4200 (fun _ => 0)) := ⟨by decide, by decide, by rw [← (zai 4200)]; exact (rfl : (g_new L xs)[95]? = some (ab_ai 4200))⟩
set_option maxRecDepth 100000 in
theorem fc_96 : cc og (g_new L xs) 96 296 (za 4200 (fun _ => 0)) := ⟨by decide, by decide, by rw [← (zai 4200)]; exact (rfl : (g_new L xs)[96]? = some (ab_ai 4200))⟩
set_option maxRecDepth 100000 in
theorem fc_97 : cc og (g_new L xs) 97 297 (za 4200 (fun _ => 0)) := ⟨by decide, by decide, by rw [← (zai 4200)]; exact (rfl : (g_new L xs)[97]? = some (ab_ai 4200))⟩
set_option maxRecDepth 100000 in
theorem fc_98 : cc og (g_new L xs) 98 298 (za 4200 (fun _ => 0)) := ⟨by decide, by decide, by rw [← (zai 4200)]; exact (rfl : (g_new L xs)[98]? = some (ab_ai 4200))⟩
set_option maxRecDepth 100000 in
theorem fc_99 : cc og (g_new L xs) 99 299 (za 4200 (fun _ => 0)) := ⟨by decide, by decide, by rw [← (zai 4200)]; exact (rfl : (g_new L xs)[99]? = some (ab_ai 4200))⟩
set_option maxRecDepth 100000 in
theorem fc_100 : cc og (g_new L xs) 100 300 (zl 4200 (fun _ => 0)) := ⟨by decide, by decide, by rw [← (zal 4200)]; exact (rfl : (g_new L xs)[100]? = some (ab_al 4200))⟩
set_option maxRecDepth 100000 in
theorem fc_101 : cc og (g_new L xs) 101 301 (zb 4200 (fun _ => 0)) := ⟨by decide, by decide, by rw [← (zaz 4200)]; exact (rfl : (g_new L xs)[101]? = some (ab_az 4200))⟩
set_option maxRecDepth 100000 in
theorem fc_102 : cc og (g_new L xs) 102 302 (za 32 (fun _ => 0)) := ⟨by decide, by decide, by rw [← (zai 32)]; exact (rfl : (g_new L xs)[102]? = some (ab_ai 32))⟩
set_option maxRecDepth 100000 in
theorem fc_103 : cc og (g_new L xs) 103 303 (za 32 (fun _ => 0)) := ⟨by decide, by decide, by rw [← (zai 32)]; exact (rfl : (g_new L xs)[103]? = some (ab_ai 32))⟩
set_option maxRecDepth 100000 in
theorem fc_104 : cc og (g_new L xs) 104 304 (za 32 (fun _ => 0)) := ⟨by decide, by decide, by rw [← (zai 32)]; exact (rfl : (g_new L xs)[104]? = some (ab_ai 32))⟩
set_option maxRecDepth 100000 in
theorem fc_105 : cc og (g_new L xs) 105 305 (za 32 (fun _ => 0)) := ⟨by decide, by decide, by rw [← (zai 32)]; exact (rfl : (g_new L xs)[105]? = some (ab_ai 32))⟩
set_option maxRecDepth 100000 in
theorem fc_106 : cc og (g_new L xs) 106 306 (za 32 (fun _ => 0)) := ⟨by decide, by decide, by rw [← (zai 32)]; exact (rfl : (g_new L xs)[106]? = some (ab_ai 32))⟩
set_option maxRecDepth 100000 in
theorem fc_107 : cc og (g_new L xs) 107 307 (za 32 (fun _ => 0)) := ⟨by decide, by decide, by rw [← (zai 32)]; exact (rfl : (g_new L xs)[107]? = some (ab_ai 32))⟩
set_option maxRecDepth 100000 in
theorem fc_108 : cc og (g_new L xs) 108 308 (za 32 (fun _ => 0)) := ⟨by decide, by decide, by rw [← (zai 32)]; exact (rfl : (g_new L xs)[108]? = some (ab_ai 32))⟩
set_option maxRecDepth 100000 in
theorem fc_109 : cc og (g_new L xs) 109 309 (za 32 (fun _ => 0)) := ⟨by decide, by decide, by rw [← (zai 32)]; exact (rfl : (g_new L xs)[109]? = some (ab_ai 32))⟩
set_option maxRecDepth 100000 in
theorem fc_110 : cc og (g_new L xs) 110 310 (za 120 (fun _ => 0)) := ⟨by decide, by decide, by rw [← (zai 120)]; exact (rfl : (g_new L xs)[110]? = some (ab_ai 120))⟩
set_option maxRecDepth 100000 in
theorem fc_111 : cc og (g_new L xs) 111 311 (za 10 (fun _ => 0)) := ⟨by decide, by decide, by rw [← (zai 10)]; exact (rfl : (g_new L xs)[111]? = some (ab_ai 10))⟩
set_option maxRecDepth 100000 in
theorem fc_112 : cc og (g_new L xs) 112 312 (zb 6 (fun _ => 0)) := ⟨by decide, by decide, by rw [← (zaz 6)]; exact (rfl : (g_new L xs)[112]? = some (ab_az 6))⟩
set_option maxRecDepth 100000 in
theorem fc_113 : cc og (g_new L xs) 113 313 (za 6 (fun _ => 0)) := ⟨by decide, by decide, by rw [← (zai 6)]; exact (rfl : (g_new L xs)[113]? = some (ab_ai 6))⟩
set_option maxRecDepth 100000 in
theorem fc_114 : cc og (g_new L xs) 114 314 (za 6 (fun _ => 0)) := ⟨by decide, by decide, by rw [← (zai 6)]; exact (rfl : (g_new L xs)[114]? = some (ab_ai 6))⟩
set_option maxRecDepth 100000 in
theorem fc_115 : cc og (g_new L xs) 115 315 (za 6 (fun _ => 0)) := ⟨by decide, by decide, by rw [← (zai 6)]; exact (rfl : (g_new L xs)[115]? = some (ab_ai 6))⟩
set_option maxRecDepth 100000 in
theorem fc_116 : cc og (g_new L xs) 116 316 (za 6 (fun _ => 0)) := ⟨by decide, by decide, by rw [← (zai 6)]; exact (rfl : (g_new L xs)[116]? = some (ab_ai 6))⟩
set_option maxRecDepth 100000 in
theorem fc_117 : cc og (g_new L xs) 117 317 (za 6 (fun _ => 0)) := ⟨by decide, by decide, by rw [← (zai 6)]; exact (rfl : (g_new L xs)[117]? = some (ab_ai 6))⟩
set_option maxRecDepth 100000 in
theorem fc_118 : cc og (g_new L xs) 118 318 (za 75000 (fun _ => 0)) := ⟨by decide, by decide, by rw [← (zai 75000)]; exact (rfl : (g_new L xs)[118]? = some (ab_ai 75000))⟩
set_option maxRecDepth 100000 in
theorem fc_119 : cc og (g_new L xs) 119 319 (za 75000 (fun _ => 0)) := ⟨by decide, by decide, by rw [← (zai 75000)]; exact (rfl : (g_new L xs)[119]? = some (ab_ai 75000))⟩
set_option maxRecDepth 100000 in
theorem fc_120 : cc og (g_new L xs) 120 320 (za 75000 (fun _ => 0)) := ⟨by decide, by decide, by rw [← (zai 75000)]; exact (rfl : (g_new L xs)[120]? = some (ab_ai 75000))⟩
set_option maxRecDepth 100000 in
theorem fc_121 : cc og (g_new L xs) 121 321 (za 75000 (fun _ => 0)) := ⟨by decide, by decide, by rw [← (zai 75000)]; exact (rfl : (g_new L xs)[121]? = some (ab_ai 75000))⟩
set_option maxRecDepth 100000 in
theorem fc_122 : cc og (g_new L xs) 122 322 (za 75000 (fun _ => 0)) := ⟨by decide, by decide, by rw [← (zai 75000)]; exact (rfl : (g_new L xs)[122]? = some (ab_ai 75000))⟩
set_option maxRecDepth 100000 in
theorem fc_123 : cc og (g_new L xs) 123 323 (za 3600 (fun _ => 0)) := ⟨by decide, by decide, by rw [← (zai 3600)]; exact (rfl : (g_new L xs)[123]? = some (ab_ai 3600))⟩
set_option maxRecDepth 100000 in
theorem fc_124 : cc og (g_new L xs) 124 324 (za 3600 (fun _ => 0)) := ⟨by decide, by decide, by rw [← (zai 3600)]; exact (rfl : (g_new L xs)[124]? = some (ab_ai 3600))⟩
set_option maxRecDepth 100000 in
theorem fc_125 : cc og (g_new L xs) 125 325 (za 6 (fun _ => 0)) := ⟨by decide, by decide, by rw [← (zai 6)]; exact (rfl : (g_new L xs)[125]? = some (ab_ai 6))⟩
set_option maxRecDepth 100000 in
theorem fc_126 : cc og (g_new L xs) 126 326 (za 720 (fun _ => 0)) := ⟨by decide, by decide, by rw [← (zai 720)]; exact (rfl : (g_new L xs)[126]? = some (ab_ai 720))⟩
set_option maxRecDepth 100000 in
theorem fc_127 : cc og (g_new L xs) 127 327 (za 60 (fun _ => 0)) := ⟨by decide, by decide, by rw [← (zai 60)]; exact (rfl : (g_new L xs)[127]? = some (ab_ai 60))⟩
set_option maxRecDepth 100000 in
theorem fc_128 : cc og (g_new L xs) 128 328 (za 300 (fun _ => 0)) := ⟨by decide, by decide, by rw [← (zai 300)]; exact (rfl : (g_new L xs)[128]? = some (ab_ai 300))⟩
set_option maxRecDepth 100000 in
theorem fc_129 : cc og (g_new L xs) 129 329 (za 300 (fun _ => 0)) := ⟨by decide, by decide, by rw [← (zai 300)]; exact (rfl : (g_new L xs)[129]? = some (ab_ai 300))⟩
set_option maxRecDepth 100000 in
theorem fc_130 : cc og (g_new L xs) 130 330 (za 300 (fun _ => 0)) := ⟨by decide, by decide, by rw [← (zai 300)]; exact (rfl : (g_new L xs)[130]? = some (ab_ai 300))⟩
set_option maxRecDepth 100000 in
theorem fc_131 : cc og (g_new L xs) 131 331 (za 300 (fun _ => 0)) := ⟨by decide, by decide, by rw [← (zai 300)]; exact (rfl : (g_new L xs)[131]? = some (ab_ai 300))⟩
set_option maxRecDepth 100000 in
theorem fc_132 : cc og (g_new L xs) 132 332 (za 300 (fun _ => 0)) := ⟨by decide, by decide, by rw [← (zai 300)]; exact (rfl : (g_new L xs)[132]? = some (ab_ai 300))⟩
set_option maxRecDepth 100000 in
theorem fc_133 : cc og (g_new L xs) 133 333 (za 40000 (fun _ => 0)) := ⟨by decide, by decide, by rw [← (zai 40000)]; exact (rfl : (g_new L xs)[133]? = some (ab_ai 40000))⟩
set_option maxRecDepth 100000 in
theorem fc_134 : cc og (g_new L xs) 134 334 (zl 392196 (fun _ => 0)) := ⟨by decide, by decide, by rw [← (zal 392196)]; exact (rfl : (g_new L xs)[134]? = some (ab_al 392196))⟩
set_option maxRecDepth 100000 in
theorem fc_135 : cc og (g_new L xs) 135 335 (zl 392196 (fun _ => 0)) := ⟨by decide, by decide, by rw [← (zal 392196)]; exact (rfl : (g_new L xs)[135]? = some (ab_al 392196))⟩
set_option maxRecDepth 100000 in
theorem fc_136 : cc og (g_new L xs) 136 336 (zl 392196 (fun _ => 0)) := ⟨by decide, by decide, by rw [← (zal 392196)]; exact (rfl : (g_new L xs)[136]? = some (ab_al 392196))⟩
set_option maxRecDepth 100000 in
theorem fc_137 : cc og (g_new L xs) 137 337 (zb 12500 (fun _ => 0)) := ⟨by decide, by decide, by rw [← (zaz 12500)]; exact (rfl : (g_new L xs)[137]? = some (ab_az 12500))⟩
set_option maxRecDepth 100000 in
theorem fc_138 : cc og (g_new L xs) 138 338 (za 20 (fun _ => 0)) := ⟨by decide, by decide, by rw [← (zai 20)]; exact (rfl : (g_new L xs)[138]? = some (ab_ai 20))⟩
set_option maxRecDepth 100000 in
theorem fc_139 : cc og (g_new L xs) 139 339 (za 20 (fun _ => 0)) := ⟨by decide, by decide, by rw [← (zai 20)]; exact (rfl : (g_new L xs)[139]? = some (ab_ai 20))⟩
set_option maxRecDepth 100000 in
theorem fc_140 : cc og (g_new L xs) 140 340 (za 12500 (fun _ => 0)) := ⟨by decide, by decide, by rw [← (zai 12500)]; exact (rfl : (g_new L xs)[140]? = some (ab_ai 12500))⟩
set_option maxRecDepth 100000 in
theorem fc_141 : cc og (g_new L xs) 141 341 (za 12500 (fun _ => 0)) := ⟨by decide, by decide, by rw [← (zai 12500)]; exact (rfl : (g_new L xs)[141]? = some (ab_ai 12500))⟩
set_option maxRecDepth 100000 in
theorem fc_142 : cc og (g_new L xs) 142 342 (za 25000 (fun _ => 0)) := ⟨by decide, by decide, by rw [← (zai 25000)]; exact (rfl : (g_new L xs)[142]? = some (ab_ai 25000))⟩
set_option maxRecDepth 100000 in
theorem fc_143 : cc og (g_new L xs) 143 343 (za 25000 (fun _ => 0)) := ⟨by decide, by decide, by rw [← (zai 25000)]; exact (rfl : (g_new L xs)[143]? = some (ab_ai 25000))⟩
set_option maxRecDepth 100000 in
theorem fc_144 : cc og (g_new L xs) 144 344 (zb 12500 (fun _ => 0)) := ⟨by decide, by decide, by rw [← (zaz 12500)]; exact (rfl : (g_new L xs)[144]? = some (ab_az 12500))⟩
set_option maxRecDepth 100000 in
theorem fc_145 : cc og (g_new L xs) 145 345 (za 4100 (fun _ => 0)) := ⟨by decide, by decide, by rw [← (zai 4100)]; exact (rfl : (g_new L xs)[145]? = some (ab_ai 4100))⟩
set_option maxRecDepth 100000 in
theorem fc_146 : cc og (g_new L xs) 146 346 (za 4100 (fun _ => 0)) := ⟨by decide, by decide, by rw [← (zai 4100)]; exact (rfl : (g_new L xs)[146]? = some (ab_ai 4100))⟩
set_option maxRecDepth 100000 in
theorem fc_147 : cc og (g_new L xs) 147 347 (za 6000 (fun _ => 0)) := ⟨by decide, by decide, by rw [← (zai 6000)]; exact (rfl : (g_new L xs)[147]? = some (ab_ai 6000))⟩
set_option maxRecDepth 100000 in
theorem fc_148 : cc og (g_new L xs) 148 348 (zl 1 (fun _ => 0)) := ⟨by decide, by decide, by rw [← (zal 1)]; exact (rfl : (g_new L xs)[148]? = some (ab_al 1))⟩
set_option maxRecDepth 100000 in
theorem fp_thI_37 : thI og (g_new L xs) 37 0 := ⟨39, 40, 41, 42, 43, 44, 45, 0, 0, 0, 0, 0, 0, (fun _ => 0), (fun _ => 0), (fun _ => 0), (fun _ => 0), (fun _ => 0), (fun _ => 0), (fun _ => 0), 35, 36, 37, 38, vR 38, vN, vN, fc_37, fc_39, fc_40, fc_41, fc_42, fc_43, fc_44, fc_45, (by decide), (rgs_z (by decide) (by decide)), (by decide), (by decide)⟩
set_option maxRecDepth 100000 in
theorem fp_mkI_46 : mkI og (g_new L xs) 46 64 64 0 := ⟨48, 49, 50, 0, 0, 0, 0, 0, 0, (fun _ => 0), (fun _ => 0), (fun _ => 0), vR 47, vN, vN, fc_46, fc_48, fc_49, fc_50, (by decide), (Or.inl rfl), (by decide), (by decide)⟩
set_option maxRecDepth 100000 in
theorem fp_omI_51 : omI og (g_new L xs) 51 0 64 0 := ⟨53, 54, 55, 57, 58, 59, 0, 0, 0, 0, 0, (fun _ => 0), (fun _ => 0), (fun _ => 0), vR 52, vN, vN, (fun _ => 0), (fun _ => 0), 0, (cs_mem (fun _ => 0) 0), 0, fc_51, fc_53, fc_54, fc_57, fc_58, fc_59, ⟨56, fun _ => 0, fc_55, fc_56, can_0, fun _ => Iff.rfl, by decide, by decide, by decide, by decide⟩, (Or.inl ⟨rfl, rfl⟩), (by decide), (by decide)⟩
set_option maxRecDepth 100000 in
theorem fp_stI_60 : stI og (g_new L xs) 60 (fun _ => 0) 0 0 0 := ⟨61, 62, 63, 64, 65, 66, 67, 68, 32, vN, 0, 0, 0, 0, 0, 0, 0, (fun _ => 0), (fun _ => 0), (fun _ => 0), (fun _ => 0), (fun _ => 0), (fun _ => 0), (fun _ => 0), (fun _ => 0), fc_60, fc_61, fc_62, fc_63, fc_64, fc_65, fc_66, fc_67, fc_68, (rgs_z (by decide) (by decide)), (by decide), (by decide), (by decide), (bgo_f rfl), ents_f, (rgs_z (by decide) (by decide)), ego_f, (by decide), (by decide), (rgs_z (by decide) (by decide)), (by decide), (Or.inl rfl)⟩
set_option maxRecDepth 100000 in
theorem fp_suI_31 : suI og (g_new L xs) 31 0 32 (fun _ => 0) := ⟨32, 33, 34, 35, (fun i => if i = 0 then -1 else 0), (fun _ => 0), (fun i => if i = 0 then 47 else 0), 33, fc_31, fc_32, fc_33, fc_34, fc_35, (by decide), (suok_fr (if_pos rfl) rfl (if_pos rfl))⟩
set_option maxRecDepth 100000 in
theorem fp_rdI_22 : rdI og (g_new L xs) 22 64 0 (-1) := ⟨23, 24, 26, 0, 0, 1, 0, vR 27, 0, 0, 0, 28, 29, 0, 0, 0, (fun _ => 0), (fun _ => 0), 0, (cs_mem (fun _ => 0) 0), fc_22, fc_23, fc_28, fc_29, ⟨25, fun _ => 0, fc_24, fc_25, can_0, fun _ => Iff.rfl, by decide, by decide, by decide, by decide⟩, (by decide), (by decide)⟩
set_option maxRecDepth 100000 in
theorem fp_ryJ_19 : ryJ og (g_new L xs) 19 (fun _ => 0) := ⟨fc_19, (rgs_z (by decide) (by decide))⟩
set_option maxRecDepth 100000 in
theorem fp_tpJ_20 : tpJ og (g_new L xs) 20 32 0 (fun _ => 0) := ⟨21, fc_20, fc_21, (by decide), bytes_0⟩
set_option maxRecDepth 100000 in
theorem fp_spJ_36 : spJ og (g_new L xs) 36 := ⟨(fun _ => 0), fc_36, (rgs_z (by decide) (by decide))⟩
set_option maxRecDepth 100000 in
theorem fp_laJ_69 : laJ og (g_new L xs) 69 (fun i => if i < 20 then -1 else 0) := ⟨fc_69, (by decide)⟩
set_option maxRecDepth 100000 in
theorem fp_maJ_70 : maJ og (g_new L xs) 70 32 0 (fun _ => 0) := ⟨71, fc_70, fc_71, (by decide)⟩
set_option maxRecDepth 100000 in
theorem fp_pcJ_72 : pcJ og (g_new L xs) 72 32 0 (fun _ => 0) := ⟨73, fc_72, fc_73, (by decide)⟩
set_option maxRecDepth 100000 in
theorem fp_tmJ_74 : tmJ og (g_new L xs) 74 32 := ⟨75, 0, (fun _ => 0), fc_74, fc_75, (by decide)⟩
set_option maxRecDepth 100000 in
theorem fp_rsJ_76 : rsJ og (g_new L xs) 76 77 32 0 (fun _ => 0) := ⟨77, fc_76, fc_77, (by decide)⟩
set_option maxRecDepth 100000 in
theorem fp_rsJ_78 : rsJ og (g_new L xs) 78 79 32 0 (fun _ => 0) := ⟨79, fc_78, fc_79, (by decide)⟩
set_option maxRecDepth 100000 in
theorem fm_mtx : mtx og (g_new L xs) 0 (fun _ => 0) (fun _ => 0) (fun _ => 0) (fun _ => 0) := ⟨fc_83, fc_84, fc_85, fc_86, (rgs_z (by decide) (by decide)), (rgs_z (by decide) (by decide)), (rgs_z (by decide) (by decide))⟩
set_option maxRecDepth 100000 in
theorem fm_mma : mma og (g_new L xs) 0 (fun _ => 0) (fun _ => 0) (fun _ => 0) := ⟨(fun _ => 0), (fun _ => 0), (fun _ => 0), (fun _ => 0), (fun _ => 0), (fun _ => 0), (fun _ => 0), (fun _ => 0), (fun _ => 0), (fun _ => 0), (fun _ => 0), fc_134, fc_135, fc_136, fc_137, fc_144, fc_138, fc_142, fc_143, fc_140, fc_141, fc_139, fc_145, fc_146, fc_147, (rgs_z (by decide) (by decide)), (rgs_z (by decide) (by decide)), (rgs_z (by decide) (by decide)), (rgs_z (by decide) (by decide)), (rgs_z (by decide) (by decide)), (rgs_z (by decide) (by decide)), (rgs_z (by decide) (by decide))⟩
set_option maxRecDepth 100000 in
theorem fm_mpr : mpr og (g_new L xs) 0 (fun _ => 0) (fun _ => 0) (fun _ => 0) (fun _ => 0) (fun _ => 0) (fun _ => 0) (fun _ => mnI) := ⟨(fun _ => 0), (fun _ => 0), (fun _ => 0), (fun _ => 0), (fun _ => 0), (fun _ => 0), (fun _ => 0), (fun _ => 0), (fun _ => 0), (fun _ => 0), fc_112, fc_113, fc_114, fc_115, fc_116, fc_117, fc_118, fc_119, fc_120, fc_121, fc_122, fc_123, fc_124, fc_125, fc_126, fc_127, (rgs_z (by decide) (by decide)), (rgs_z (by decide) (by decide)), (rgs_z (by decide) (by decide)), (rgs_z (by decide) (by decide)), (rgs_z (by decide) (by decide)), (rgs_z (by decide) (by decide)), (rgs_z (by decide) (by decide)), (rgs_z (by decide) (by decide)), (rgs_z (by decide) (by decide)), (rgs_z (by decide) (by decide)), (rgs_z (by decide) (by decide)), (rgs_z (by decide) (by decide)), (rgs_z (by decide) (by decide)), (rgs_z (by decide) (by decide)), (rgs_z (by decide) (by decide)), (rgs_z (by decide) (by decide)), mpg_0, (fun _ _ _ h => absurd h (show ¬ (0 : Int) = 1 by decide)), (fun _ _ _ h => absurd h (show ¬ (0 : Int) = 1 by decide))⟩
set_option maxRecDepth 100000 in
theorem fm_mse : mse og (g_new L xs) 0 (fun _ => 0) (fun _ => 0) := ⟨(fun _ => 0), (fun _ => 0), (fun _ => 0), fc_87, fc_88, fc_93, fc_91, fc_92, fc_81, fc_82, (rgs_z (by decide) (by decide)), (rgs_z (by decide) (by decide)), (rgs_z (by decide) (by decide))⟩
set_option maxRecDepth 100000 in
theorem fm_mwk : mwk og (g_new L xs) 0 := ⟨(fun _ => 0), (fun _ => 0), (fun _ => 0), (fun _ => 0), (fun _ => 0), (fun _ => 0), fc_133, fc_128, fc_129, fc_130, fc_131, fc_132, (rgs_z (by decide) (by decide)), (rgs_z (by decide) (by decide)), (rgs_z (by decide) (by decide)), (rgs_z (by decide) (by decide)), (rgs_z (by decide) (by decide)), (rgs_z (by decide) (by decide))⟩
set_option maxRecDepth 100000 in
theorem fm_mnm : mnm og (g_new L xs) 0 := ⟨(fun _ => 0), (fun _ => 0), fc_110, fc_111, (rgs_z (by decide) (by decide)), (rgs_z (by decide) (by decide))⟩
set_option maxRecDepth 100000 in
theorem fm_trI : trI og (g_new L xs) 0 0 0 0 (-1) 0 0 ([]) 2 0 0 (fun _ _ => False) ([]) mnI mnI mnI (fun _ => 0) (fun _ => 0) 0 0 0 := ⟨(fun _ => 0), (fun _ => 0), (fun _ => 0), (fun _ => 0), (fun _ => 0), (fun _ => 0), (fun _ => 0), (fun _ => 0), (fun _ => 0), (fun _ => 0), (fun _ => 0), (fun _ => 0), (fun _ => 0), (fun _ => 0), (fun _ => 0), (fun _ => 0), (fun _ => 0), (fun _ => 0), fc_94, fc_95, fc_96, fc_97, fc_98, fc_99, fc_100, fc_101, fc_90, fc_89, fc_105, fc_106, fc_107, fc_108, fc_109, fc_102, fc_103, fc_104, (rgs_z (by decide) (by decide)), (rgs_z (by decide) (by decide)), (rgs_z (by decide) (by decide)), (rgs_z (by decide) (by decide)), (rgs_z (by decide) (by decide)), (rgs_z (by decide) (by decide)), (rgs_z (by decide) (by decide)), (rgs_z (by decide) (by decide)), (rgs_z (by decide) (by decide)), (rgs_z (by decide) (by decide)), (rgs_z (by decide) (by decide)), (rgs_z (by decide) (by decide)), (rgs_z (by decide) (by decide)), (rgs_z (by decide) (by decide)), (rgs_z (by decide) (by decide)), (rgs_z (by decide) (by decide)), (rgs_z (by decide) (by decide)), (rgs_z (by decide) (by decide)), rtk_nil, (by decide), (fun h => absurd h (by decide)), (fun h => absurd h (by decide)), (fun h => absurd h (by decide)), (fun h => absurd h (by decide)), (fun h => absurd h (by decide)), (fun h => absurd h (by decide)), sas_f, (fun o a b => absurd a (by omega))⟩
set_option maxRecDepth 100000 in
theorem pw_fresh : pwW og (g_new L xs) 18 512 (fun _ => 0) (fun _ => 0) 0 (fun _ => none) (fun _ => 0) 0 (-1) 0 (fun _ => 0) 0 (fun _ => 0) 0 (fun _ => 0) 0 (fun _ => 0) (fun i => if i < 20 then -1 else 0) := ⟨19, 20, 22, 30, 31, 36, 37, 46, 51, 60, 69, 70, 72, 74, 76, 78, 0, 0, (fun _ => 0), 0, 64, 64, 64, 32, 32, 32, 32, 32, 32, 32, 77, 79, 0, 64, 0, (fun _ => 0), fc_18, fc_30, fc_17, fc_15, fc_16, fp_thI_37, fp_mkI_46, fp_omI_51, fp_stI_60, fp_suI_31, pgI_0, fp_rdI_22, ft_tb, fp_ryJ_19, fp_tpJ_20, fp_spJ_36, fp_laJ_69, fp_maJ_70, fp_pcJ_72, fp_tmJ_74, fp_rsJ_76, fp_rsJ_78, by decide, by decide, pgN_0, by decide, by rw [g_new_slots]; decide +kernel, by rw [g_new_len]; decide +kernel, by decide⟩
set_option maxRecDepth 100000 in
theorem mo_fresh : moW og (g_new L xs) 0 (fun _ => 0) (fun _ => 0) 0 (fun _ => 0) (fun _ => 0) (fun _ => 0) (fun _ => 0) (fun _ => 0) (fun _ => 0) 0 (-1) (fun _ => 0) 0 0 (fun _ => 0) 0 (fun _ => 0) (fun _ => mnI) 0 (fun _ => 0) 0 0 (fun _ => 0) := ⟨0, 0, 0, 0, 0, 0, 0, 0, 0, 0, 0, 0, 0, 0, 0, 0, 0, 0, 0, 0, 0, 0, 0, 0, 0, 0, 0, 0, (-1), 0, 0, ([]), 2, 0, 0, (fun _ _ => False), ([]), mnI, mnI, mnI, 0, 0, (fun _ => 0), (fun _ => 0), fc_80, fm_mtx, fm_mma, fm_mpr, fm_mse, fm_mwk, fm_mnm, fm_trI, rfl, by decide, by decide, by decide⟩
end Fresh
