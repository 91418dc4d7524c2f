/-! what a call leaves as it was: all cells but those of a list; short rows for worlds by name -/
def ab_fr (S : List Nat) (G G2 : ab_G) : Prop := ∀ a c, ¬ a ∈ S → G[a]? = some c → G2[a]? = some c
theorem ab_fr.rf {S : List Nat} {G : ab_G} : ab_fr S G G := fun _ _ _ h => h
theorem ab_keep {G G2 : ab_G} {a b : Nat} {E c : ab_E} (e : G2 = List.set G a E) (hn : a ≠ b) (h : G[b]? = some c) : G2[b]? = some c := by rw [e, List.getElem?_set_ne hn]; exact h
theorem ab_kept {G G2 : ab_G} {a : Nat} {E c : ab_E} (e : G2 = List.set G a E) (h : G[a]? = some c) : G2[a]? = some E := by rw [e]; exact List.getElem?_set_self (List.getElem?_eq_some_iff.mp h).1
theorem ab_klen {G G2 : ab_G} {a n : Nat} {E : ab_E} (e : G2 = List.set G a E) (h : G.length = n) : G2.length = n := by rw [e, List.length_set]; exact h
theorem ab_ksl {G G2 : ab_G} {a n : Nat} {E c : ab_E} (z : Nat) (e : G2 = List.set G a E) (h : G[a]? = some c) (hz : ab_sz E = z) (hz2 : ab_sz c = z) (hs : ab_slots G = n) : ab_slots G2 = n := by rw [e, ab_slots_set h (hz.trans hz2.symm)]; exact hs
theorem ab_fr.wr {S : List Nat} {G0 G G2 : ab_G} {a : Nat} {E : ab_E} (h : ab_fr S G0 G) (e : G2 = List.set G a E) (hm : a ∈ S) : ab_fr S G0 G2 := fun b c hb hg => ab_keep e (fun q => hb (q ▸ hm)) (h b c hb hg)
theorem ab_akeep {G G2 : ab_G} {b : Nat} {E c : ab_E} (e : G2 = G ++ [E]) (h : G[b]? = some c) : G2[b]? = some c := by rw [e, List.getElem?_append_left (List.getElem?_eq_some_iff.mp h).1]; exact h
theorem ab_anew1 {G G2 : ab_G} {n : Nat} {E : ab_E} (e : G2 = G ++ [E]) (h : G.length = n) : G2[n]? = some E := by rw [e, ← h]; exact List.getElem?_concat_length
theorem ab_alen1 {G G2 : ab_G} {n : Nat} {E : ab_E} (e : G2 = G ++ [E]) (h : G.length = n) : G2.length = n + 1 := by rw [e, List.length_append, h]; rfl
theorem ab_asl {G G2 : ab_G} {n s z t : Nat} {E : ab_E} (e : G2 = G ++ [E]) (h : G.length = n) (hn : ab_n0 ≤ n) (hs : ab_slots G = s) (hz : ab_sz E = z) (ht : s + z = t) : ab_slots G2 = t := by rw [e, ab_slots_app _ (by rw [h]; exact hn), hs, hz, ht]
theorem ab_fr.ap {S : List Nat} {G0 G G2 : ab_G} {E : ab_E} (h : ab_fr S G0 G) (e : G2 = G ++ [E]) : ab_fr S G0 G2 := fun b c hb hg => ab_akeep e (h b c hb hg)
theorem ab_fr.cl {S T : List Nat} {G0 G G2 : ab_G} (h : ab_fr S G0 G) (h2 : ab_fr T G G2) (hs : ∀ a ∈ T, a ∈ S) : ab_fr S G0 G2 := fun b c hb hg => h2 b c (fun q => hb (hs b q)) (h b c hb hg)
theorem ab_fr.get {S : List Nat} {G G2 : ab_G} {a : Nat} {c : ab_E} (h : ab_fr S G G2) (hn : ¬ a ∈ S) (hg : G[a]? = some c) : G2[a]? = some c := h a c hn hg
theorem ab_topv {X : ab_X} {M : ab_Y} {d : Nat} {G : ab_G} {pc : Nat} {L : List (Option Value)} {st : List Value} {Q : Outcome → ab_G → Prop} {x y : Value} (h : x = y) (k : ab_W X M d G pc L (y :: st) Q) : ab_W X M d G pc L (x :: st) Q := h ▸ k
theorem i32_bm {x : Int} (h1 : -2147483648 ≤ x) (h2 : x ≤ 2147483647) : x.bmod (2 ^ 32) = x := by
  rw [Int.bmod_def]
  omega
theorem i32_add {a b : Int32} (h1 : -2147483648 ≤ a.toInt + b.toInt) (h2 : a.toInt + b.toInt ≤ 2147483647) : (a + b).toInt = a.toInt + b.toInt := by rw [Int32.toInt_add]; exact i32_bm h1 h2
theorem i32_sub {a b : Int32} (h1 : -2147483648 ≤ a.toInt - b.toInt) (h2 : a.toInt - b.toInt ≤ 2147483647) : (a - b).toInt = a.toInt - b.toInt := by rw [Int32.toInt_sub]; exact i32_bm h1 h2
theorem i32_mul {a b : Int32} (h1 : -2147483648 ≤ a.toInt * b.toInt) (h2 : a.toInt * b.toInt ≤ 2147483647) : (a * b).toInt = a.toInt * b.toInt := by rw [Int32.toInt_mul]; exact i32_bm h1 h2

theorem ab_hx {c : Code} {s e h t pc : Nat} (hc : c.exceptionTable.toList.map (fun h => (h.startPc, h.endPc, h.handlerPc, h.catchType)) = [(s, e, h, t)]) (hp : s ≤ pc ∧ pc < e) : ∃ x, c.exceptionTable.toList = [x] ∧ covers x pc = true ∧ x.handlerPc = h ∧ x.catchType = t := by
  generalize c.exceptionTable.toList = l at hc ⊢
  cases l with
  | nil => simp at hc
  | cons x r =>
    cases r with
    | nil =>
      simp at hc
      obtain ⟨h1, h2, h3, h4⟩ := hc
      refine ⟨x, rfl, ?_, h3, h4⟩
      simp [covers, h1, h2, hp.1, hp.2]
    | cons y r => simp at hc
def tw_sp : Cond → Bool
  | .isRef _ => true
  | .laysStatic .. => true
  | _ => false
theorem tw_aux : ∀ w ∈ Bundle.ownAtoms R_PW 113 R_IA ab_up, if tw_sp w = true then (w = .isRef (.static "java/lang/Throwable" "UNASSIGNED_STACK" "[Ljava/lang/StackTraceElement;") ∨ w = .isRef (.static "java/lang/Throwable" "SUPPRESSED_SENTINEL" "Ljava/util/List;") ∨ w = .laysStatic "java/lang/Throwable" "UNASSIGNED_STACK" "[Ljava/lang/StackTraceElement;" ∨ w = .laysStatic "java/lang/Throwable" "SUPPRESSED_SENTINEL" "Ljava/util/List;") else (w ∈ lw_tbl ∧ ab_ok w = true) := by
  decide +kernel
theorem tw_PW_113 : ab_tw R_PW 113 := by
  intro w hw
  have h := tw_aux w hw
  split at h
  · exact Or.inr h
  · exact Or.inl h
/-- the fields of a reference: its arrays as they were made, the rest as told -/
abbrev m_fv (v2 v7 v8 v9 v10 v11 v12 v13 v21 v30 v31 v32 v33 v34 v35 v46 v47 v48 v49 v66 v67 v68 v69 v80 v81 v89 v90 v91 v92 v93 v94 v95 v99 v100 v101 : Value) : List Value := [vR 81, vR 82, v2, vR 83, vR 84, vR 85, vR 86, v7, v8, v9, v10, v11, v12, v13, vR 87, vR 88, vR 89, vR 90, vR 91, vR 92, vR 93, v21, vR 94, vR 95, vR 96, vR 97, vR 98, vR 99, vR 100, vR 101, v30, v31, v32, v33, v34, v35, vR 102, vR 103, vR 104, vR 105, vR 106, vR 107, vR 108, vR 109, vR 110, vR 111, v46, v47, v48, v49, vR 112, vR 113, vR 114, vR 115, vR 116, vR 117, vR 118, vR 119, vR 120, vR 121, vR 122, vR 123, vR 124, vR 125, vR 126, vR 127, v66, v67, v68, v69, vR 128, vR 129, vR 130, vR 131, vR 132, vR 133, vR 134, vR 135, vR 136, vR 137, v80, v81, vR 138, vR 139, vR 140, vR 141, vR 142, vR 143, vR 144, v89, v90, v91, v92, v93, v94, v95, vR 145, vR 146, vR 147, v99, v100, v101]
abbrev m_t81 : Nat → Int32 := (upd (upd (upd (upd (upd (upd (upd (upd (upd (upd (upd (upd (upd (fun _ => 0) 0 0) 1 2) 2 8) 3 16) 4 34) 5 42) 6 44) 7 46) 8 50) 9 52) 10 54) 11 62) 12 66)
abbrev m_t82 : Nat → Int32 := (upd (upd (upd (upd (upd (upd (upd (upd (upd (upd (upd (upd (upd (upd (upd (upd (upd (upd (upd (upd (upd (upd (upd (upd (upd (upd (upd (upd (upd (upd (upd (upd (upd (upd (upd (upd (upd (upd (upd (upd (upd (upd (upd (upd (upd (upd (upd (upd (upd (upd (upd (upd (upd (upd (upd (upd (upd (upd (upd (upd (upd (upd (upd (upd (upd (upd (fun _ => 0) 0 48) 1 57) 2 9) 3 10) 4 12) 5 13) 6 32) 7 32) 8 48) 9 57) 10 65) 11 90) 12 95) 13 95) 14 97) 15 122) 16 65) 17 90) 18 97) 19 122) 20 170) 21 170) 22 181) 23 181) 24 186) 25 186) 26 192) 27 214) 28 216) 29 246) 30 248) 31 687) 32 880) 33 1279) 34 48) 35 57) 36 178) 37 179) 38 185) 39 185) 40 188) 41 190) 42 880) 43 1023) 44 1024) 45 1279) 46 65) 47 90) 48 97) 49 122) 50 65) 51 90) 52 97) 53 122) 54 33) 55 47) 56 58) 57 64) 58 91) 59 96) 60 123) 61 126) 62 9) 63 13) 64 32) 65 32)
theorem mw_LA_33 : Cond.methodLink R_LA 33 y_PW_init ∈ lw_tbl := (ab_t1 (List.mem_of_getElem? (i := 31) rfl))
theorem mw_LA_37 : Cond.methodLink R_LA 37 y_PW_feed ∈ lw_tbl := (ab_t3 (List.mem_of_getElem? (i := 76) rfl))
theorem mw_LA_42 : Cond.methodLink R_LA 42 y_PW_end ∈ lw_tbl := (ab_t3 (List.mem_of_getElem? (i := 84) rfl))
theorem mw_LA_56 : Cond.methodLink R_LA 56 y_PW_fault ∈ lw_tbl := (ab_t3 (List.mem_of_getElem? (i := 117) rfl))
theorem mw_LA_60 : Cond.methodLink R_LA 60 y_PW_about ∈ lw_tbl := (ab_t3 (List.mem_of_getElem? (i := 121) rfl))
theorem mw_LA_64 : Cond.methodLink R_LA 64 y_PW_name ∈ lw_tbl := (ab_t3 (List.mem_of_getElem? (i := 129) rfl))
theorem mw_LA_69 : Cond.methodLink R_LA 69 y_PW_subject ∈ lw_tbl := (ab_t3 (List.mem_of_getElem? (i := 137) rfl))
theorem mw_LA_77 : Cond.methodLink R_LA 77 y_PW_group ∈ lw_tbl := (ab_t3 (List.mem_of_getElem? (i := 166) rfl))
theorem mw_LA_85 : Cond.methodLink R_LA 85 y_PW_found ∈ lw_tbl := (ab_t3 (List.mem_of_getElem? (i := 170) rfl))
theorem mw_LA_95 : Cond.methodLink R_LA 95 y_PW_piece ∈ lw_tbl := (ab_t3 (List.mem_of_getElem? (i := 181) rfl))
theorem mw_LA_99 : Cond.methodLink R_LA 99 y_PW_which ∈ lw_tbl := (ab_t3 (List.mem_of_getElem? (i := 185) rfl))
theorem mw_LA_104 : Cond.methodLink R_LA 104 y_PW_quote ∈ lw_tbl := (ab_t6 (List.mem_of_getElem? (i := 5) rfl))
theorem mw_LA_108 : Cond.methodLink R_LA 108 y_PW_output ∈ lw_tbl := (ab_t6 (List.mem_of_getElem? (i := 14) rfl))
theorem mw_LA_116 : Cond.methodLink R_LA 116 y_PW_over ∈ lw_tbl := (ab_t6 (List.mem_of_getElem? (i := 18) rfl))
theorem mw_LA_46 : Cond.methodLink R_LA 46 y_LA_compile ∈ lw_tbl := (ab_t6 (List.mem_of_getElem? (i := 22) rfl))
theorem mw_LA_7 : Cond.methodLink R_LA 7 y_PW_compile ∈ lw_tbl := (ab_t6 (List.mem_of_getElem? (i := 26) rfl))
theorem mw_LA_73 : Cond.methodLink R_LA 73 y_LA_match ∈ lw_tbl := (ab_t7 (List.mem_of_getElem? (i := 179) rfl))
theorem mw_LA_15 : Cond.methodLink R_LA 15 y_PW_match ∈ lw_tbl := (ab_t7 (List.mem_of_getElem? (i := 182) rfl))
theorem mw_LA_81 : Cond.methodLink R_LA 81 y_LA_all ∈ lw_tbl := (ab_t7 (List.mem_of_getElem? (i := 189) rfl))
theorem mw_LA_19 : Cond.methodLink R_LA 19 y_PW_all ∈ lw_tbl := (ab_t7 (List.mem_of_getElem? (i := 192) rfl))
theorem mw_LA_89 : Cond.methodLink R_LA 89 y_LA_replace ∈ lw_tbl := (ab_t7 (List.mem_of_getElem? (i := 202) rfl))
theorem mw_LA_23 : Cond.methodLink R_LA 23 y_PW_replace ∈ lw_tbl := (ab_t7 (List.mem_of_getElem? (i := 205) rfl))
theorem mw_LA_92 : Cond.methodLink R_LA 92 y_LA_split ∈ lw_tbl := (ab_t7 (List.mem_of_getElem? (i := 232) rfl))
theorem mw_LA_26 : Cond.methodLink R_LA 26 y_PW_split ∈ lw_tbl := (ab_t7 (List.mem_of_getElem? (i := 235) rfl))
theorem mw_LA_112 : Cond.methodLink R_LA 112 y_LA_keep ∈ lw_tbl := (ab_t7 (List.mem_of_getElem? (i := 239) rfl))
theorem mw_LA_29 : Cond.methodLink R_LA 29 y_PW_keep ∈ lw_tbl := (ab_t8 (List.mem_of_getElem? (i := 2) rfl))
theorem mw_LA_36 : Cond.methodLink R_LA 36 y_MO_init ∈ lw_tbl := (ab_t8 (List.mem_of_getElem? (i := 13) rfl))
theorem mw_LA_52 : Cond.methodLink R_LA 52 y_MO_thrown ∈ lw_tbl := (ab_t9 (List.mem_of_getElem? (i := 89) rfl))
theorem mw_LA_41 : Cond.methodLink R_LA 41 y_MO_feed ∈ lw_tbl := (ab_t9 (List.mem_of_getElem? (i := 93) rfl))
theorem mw_LA_45 : Cond.methodLink R_LA 45 y_MO_end ∈ lw_tbl := (ab_t9 (List.mem_of_getElem? (i := 97) rfl))
theorem mw_LA_51 : Cond.methodLink R_LA 51 y_MO_compile ∈ lw_tbl := (ab_t9 (List.mem_of_getElem? (i := 101) rfl))
theorem mw_LA_59 : Cond.methodLink R_LA 59 y_MO_fault ∈ lw_tbl := (ab_t10 (List.mem_of_getElem? (i := 125) rfl))
theorem mw_LA_63 : Cond.methodLink R_LA 63 y_MO_about ∈ lw_tbl := (ab_t10 (List.mem_of_getElem? (i := 129) rfl))
theorem mw_LA_68 : Cond.methodLink R_LA 68 y_MO_name ∈ lw_tbl := (ab_t10 (List.mem_of_getElem? (i := 137) rfl))
theorem mw_LA_72 : Cond.methodLink R_LA 72 y_MO_subject ∈ lw_tbl := (ab_t10 (List.mem_of_getElem? (i := 141) rfl))
theorem mw_LA_76 : Cond.methodLink R_LA 76 y_MO_match ∈ lw_tbl := (ab_t10 (List.mem_of_getElem? (i := 145) rfl))
theorem mw_LA_80 : Cond.methodLink R_LA 80 y_MO_group ∈ lw_tbl := (ab_t10 (List.mem_of_getElem? (i := 199) rfl))
theorem mw_LA_84 : Cond.methodLink R_LA 84 y_MO_all ∈ lw_tbl := (ab_t10 (List.mem_of_getElem? (i := 203) rfl))
theorem mw_LA_88 : Cond.methodLink R_LA 88 y_MO_found ∈ lw_tbl := (ab_t10 (List.mem_of_getElem? (i := 215) rfl))
theorem mw_LA_94 : Cond.methodLink R_LA 94 y_MO_split1 ∈ lw_tbl := (ab_t10 (List.mem_of_getElem? (i := 219) rfl))
theorem mw_LA_98 : Cond.methodLink R_LA 98 y_MO_piece ∈ lw_tbl := (ab_t10 (List.mem_of_getElem? (i := 227) rfl))
theorem mw_LA_91 : Cond.methodLink R_LA 91 y_MO_replace ∈ lw_tbl := (ab_t10 (List.mem_of_getElem? (i := 231) rfl))
theorem mw_LA_103 : Cond.methodLink R_LA 103 y_MO_which ∈ lw_tbl := (ab_t11 (List.mem_of_getElem? (i := 15) rfl))
theorem mw_LA_107 : Cond.methodLink R_LA 107 y_MO_quote ∈ lw_tbl := (ab_t11 (List.mem_of_getElem? (i := 19) rfl))
theorem mw_LA_111 : Cond.methodLink R_LA 111 y_MO_output ∈ lw_tbl := (ab_t11 (List.mem_of_getElem? (i := 23) rfl))
theorem mw_LA_115 : Cond.methodLink R_LA 115 y_MO_keep ∈ lw_tbl := (ab_t11 (List.mem_of_getElem? (i := 27) rfl))
theorem mw_LA_119 : Cond.methodLink R_LA 119 y_MO_over ∈ lw_tbl := (ab_t11 (List.mem_of_getElem? (i := 31) rfl))
