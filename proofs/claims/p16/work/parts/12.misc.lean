/-- cells and values by short names of fixed types (a list of them is read far faster than one of bare constructors) -/
abbrev ab_if (n : Nat) (f : Nat → Int32) : ab_E := .inl (0, n, .inl f)
abbrev ab_zf (n : Nat) (f : Nat → Int32) : ab_E := .inl (1, n, .inl f)
abbrev ab_lf (n : Nat) (f : Nat → Int64) : ab_E := .inl (2, n, .inr (.inl f))
abbrev ab_rr (n : Nat) (f : Nat → Option Nat) : ab_E := .inl (3, n, .inr (.inr (.inr (.inr f))))
abbrev ab_ai (n : Nat) : ab_E := ab_if n fun _ => 0
abbrev ab_az (n : Nat) : ab_E := ab_zf n fun _ => 0
abbrev ab_al (n : Nat) : ab_E := ab_lf n fun _ => 0
abbrev ab_ar (n : Nat) : ab_E := ab_rr n fun _ => none
abbrev ab_ob (ci : Nat) (fs : List Value) : ab_E := .inr (ci, fs)
abbrev vI (x : Int32) : Value := .int x
abbrev vJ (x : Int64) : Value := .long x
abbrev vR (a : Nat) : Value := .ref a
abbrev vN : Value := .null
theorem ab_fb0 : ab_fit .boolean (.int 0) := fun _ => ⟨show narrow .boolean (.int 0) = .int 0 by decide, show fits .boolean (.int 0) = true by decide⟩
theorem ab_fb1 : ab_fit .boolean (.int 1) := fun _ => ⟨show narrow .boolean (.int 1) = .int 1 by decide, show fits .boolean (.int 1) = true by decide⟩
section AbMisc
variable {X : ab_X} {M : ab_Y} {d : Nat} {G : ab_G} {pc : Nat} {L : List (Option Value)} {st : List Value} {Q : Outcome → ab_G → Prop}
theorem ab_topi {x y : Int32} (h : x = y) (k : ab_W X M d G pc L (.int y :: st) Q) : ab_W X M d G pc L (.int x :: st) Q := h ▸ k
theorem ab_topl {x y : Int64} (h : x = y) (k : ab_W X M d G pc L (.long y :: st) Q) : ab_W X M d G pc L (.long x :: st) Q := h ▸ k
theorem ab_F.post {y : MethodName} {w : Cond} {as : List Value} {Q Q2 : Outcome → ab_G → Prop} (h : ab_F X d y w as G Q) (hq : ∀ o G2, Q o G2 → Q2 o G2) : ab_F X d y w as G Q2 := by
  intro a1 a2 rm a3 a4 a5 a6 p e b1 b2 b3 s m args below b4 b5 b6 b7
  obtain ⟨n, o, c1, c2, c3, o2, G2, locs, k, n2, e1, e2⟩ := h a1 a2 rm a3 a4 a5 a6 p e b1 b2 b3 s m args below b4 b5 b6 b7
  exact ⟨n, o, c1, c2, c3, o2, G2, locs, k, n2, hq _ _ e1, e2⟩
end AbMisc
theorem cn_PW_278 : Cond.constant R_PW 278 65536 ∈ lw_tbl := ab_t3 (List.mem_of_getElem? (i := 154) rfl)
theorem cn_PW_275 : Cond.constant R_PW 275 1114111 ∈ lw_tbl := ab_t3 (List.mem_of_getElem? (i := 158) rfl)
theorem cn_PW_276 : Cond.constant R_PW 276 55296 ∈ lw_tbl := ab_t3 (List.mem_of_getElem? (i := 159) rfl)
theorem cn_PW_277 : Cond.constant R_PW 277 57343 ∈ lw_tbl := ab_t3 (List.mem_of_getElem? (i := 160) rfl)
theorem cn_TH_101 : Cond.constant R_TH 101 2000000000 ∈ lw_tbl := ab_t5 (List.mem_of_getElem? (i := 96) rfl)
theorem cn_MK_60 : Cond.constant R_MK 60 52026 ∈ lw_tbl := ab_t5 (List.mem_of_getElem? (i := 204) rfl)
theorem cn_MK_138 : Cond.constant R_MK 138 1616809 ∈ lw_tbl := ab_t5 (List.mem_of_getElem? (i := 220) rfl)
theorem cn_MK_95 : Cond.constantLong R_MK 95 4 ∈ lw_tbl := ab_t5 (List.mem_of_getElem? (i := 222) rfl)
theorem cn_PW_253 : Cond.constantLong R_PW 253 400 ∈ lw_tbl := ab_t6 (List.mem_of_getElem? (i := 4) rfl)
theorem cn_CS_58 : Cond.constant R_CS 58 1114111 ∈ lw_tbl := ab_t6 (List.mem_of_getElem? (i := 123) rfl)
theorem cn_CS_66 : Cond.constant R_CS 66 55296 ∈ lw_tbl := ab_t6 (List.mem_of_getElem? (i := 124) rfl)
theorem cn_CS_67 : Cond.constant R_CS 67 55295 ∈ lw_tbl := ab_t6 (List.mem_of_getElem? (i := 125) rfl)
theorem cn_CS_68 : Cond.constant R_CS 68 57343 ∈ lw_tbl := ab_t6 (List.mem_of_getElem? (i := 126) rfl)
theorem cn_CS_69 : Cond.constant R_CS 69 57344 ∈ lw_tbl := ab_t6 (List.mem_of_getElem? (i := 127) rfl)
theorem cn_PA_42 : Cond.constant R_PA 42 1000000 ∈ lw_tbl := ab_t7 (List.mem_of_getElem? (i := 7) rfl)
theorem cn_MO_127 : Cond.constant R_MO 127 75000 ∈ lw_tbl := ab_t8 (List.mem_of_getElem? (i := 17) rfl)
theorem cn_MO_173 : Cond.constant R_MO 173 40000 ∈ lw_tbl := ab_t8 (List.mem_of_getElem? (i := 18) rfl)
theorem cn_MO_177 : Cond.constant R_MO 177 392196 ∈ lw_tbl := ab_t8 (List.mem_of_getElem? (i := 19) rfl)
theorem cn_MO_303 : Cond.constant R_MO 303 1114112 ∈ lw_tbl := ab_t9 (List.mem_of_getElem? (i := 136) rfl)
theorem cn_MO_236 : Cond.constant R_MO 236 1114111 ∈ lw_tbl := ab_t9 (List.mem_of_getElem? (i := 137) rfl)
theorem cn_MO_233 : Cond.constant R_MO 233 55296 ∈ lw_tbl := ab_t9 (List.mem_of_getElem? (i := 138) rfl)
theorem cn_MO_234 : Cond.constant R_MO 234 57344 ∈ lw_tbl := ab_t9 (List.mem_of_getElem? (i := 139) rfl)
theorem cn_MO_251 : Cond.constant R_MO 251 55295 ∈ lw_tbl := ab_t9 (List.mem_of_getElem? (i := 191) rfl)
theorem cn_MO_235 : Cond.constant R_MO 235 65536 ∈ lw_tbl := ab_t9 (List.mem_of_getElem? (i := 238) rfl)
theorem cn_MO_267 : Cond.constantLong R_MO 267 1000000000000 ∈ lw_tbl := ab_t10 (List.mem_of_getElem? (i := 37) rfl)
theorem cn_MO_295 : Cond.constantLong R_MO 295 (-1) ∈ lw_tbl := ab_t10 (List.mem_of_getElem? (i := 38) rfl)
theorem cn_MO_401 : Cond.constantLong R_MO 401 2 ∈ lw_tbl := ab_t10 (List.mem_of_getElem? (i := 39) rfl)
theorem cn_MO_436 : Cond.constantLong R_MO 436 400 ∈ lw_tbl := ab_t10 (List.mem_of_getElem? (i := 52) rfl)
