/-! links, by program (wip/prog/links.py) out of the Statement: classes, fields of pool entries, methods: name, code, words, pool entries -/
theorem ab_t0 {w : Cond} (h : w ∈ k2_sels lw_privs) : w ∈ lw_tbl := List.mem_append_left _ h
theorem ab_t1 {w : Cond} (h : w ∈ tables_1_1) : w ∈ lw_tbl := List.mem_append_right _ (show w ∈ tables_1 from List.mem_append_left _ h)
theorem ab_t2 {w : Cond} (h : w ∈ tables_1_2) : w ∈ lw_tbl := List.mem_append_right _ (show w ∈ tables_1 from List.mem_append_right _ (List.mem_append_left _ h))
theorem ab_t3 {w : Cond} (h : w ∈ tables_1_3) : w ∈ lw_tbl := List.mem_append_right _ (show w ∈ tables_1 from List.mem_append_right _ (List.mem_append_right _ (List.mem_append_left _ h)))
theorem ab_t4 {w : Cond} (h : w ∈ tables_1_4) : w ∈ lw_tbl := List.mem_append_right _ (show w ∈ tables_1 from List.mem_append_right _ (List.mem_append_right _ (List.mem_append_right _ (List.mem_append_left _ h))))
theorem ab_t5 {w : Cond} (h : w ∈ tables_1_5) : w ∈ lw_tbl := List.mem_append_right _ (show w ∈ tables_1 from List.mem_append_right _ (List.mem_append_right _ (List.mem_append_right _ (List.mem_append_right _ (List.mem_append_left _ h)))))
theorem ab_t6 {w : Cond} (h : w ∈ tables_1_6) : w ∈ lw_tbl := List.mem_append_right _ (show w ∈ tables_1 from List.mem_append_right _ (List.mem_append_right _ (List.mem_append_right _ (List.mem_append_right _ (List.mem_append_right _ (List.mem_append_left _ h))))))
theorem ab_t7 {w : Cond} (h : w ∈ tables_1_7) : w ∈ lw_tbl := List.mem_append_right _ (show w ∈ tables_1 from List.mem_append_right _ (List.mem_append_right _ (List.mem_append_right _ (List.mem_append_right _ (List.mem_append_right _ (List.mem_append_right _ (List.mem_append_left _ h)))))))
theorem ab_t8 {w : Cond} (h : w ∈ tables_1_8) : w ∈ lw_tbl := List.mem_append_right _ (show w ∈ tables_1 from List.mem_append_right _ (List.mem_append_right _ (List.mem_append_right _ (List.mem_append_right _ (List.mem_append_right _ (List.mem_append_right _ (List.mem_append_right _ (List.mem_append_left _ h))))))))
theorem ab_t9 {w : Cond} (h : w ∈ tables_1_9) : w ∈ lw_tbl := List.mem_append_right _ (show w ∈ tables_1 from List.mem_append_right _ (List.mem_append_right _ (List.mem_append_right _ (List.mem_append_right _ (List.mem_append_right _ (List.mem_append_right _ (List.mem_append_right _ (List.mem_append_right _ (List.mem_append_left _ h)))))))))
theorem ab_t10 {w : Cond} (h : w ∈ tables_1_10) : w ∈ lw_tbl := List.mem_append_right _ (show w ∈ tables_1 from List.mem_append_right _ (List.mem_append_right _ (List.mem_append_right _ (List.mem_append_right _ (List.mem_append_right _ (List.mem_append_right _ (List.mem_append_right _ (List.mem_append_right _ (List.mem_append_right _ (List.mem_append_left _ h))))))))))
theorem ab_t11 {w : Cond} (h : w ∈ tables_1_11) : w ∈ lw_tbl := List.mem_append_right _ (show w ∈ tables_1 from List.mem_append_right _ (List.mem_append_right _ (List.mem_append_right _ (List.mem_append_right _ (List.mem_append_right _ (List.mem_append_right _ (List.mem_append_right _ (List.mem_append_right _ (List.mem_append_right _ (List.mem_append_right _ (h)))))))))))
theorem k_PW : ab_cls 0 R_PW F_PW 18 t_PW := ⟨c_PW, i_PW, t_PW_ok, n_PW⟩
theorem k_CS : ab_cls 1 R_CS F_CS 2 t_CS := ⟨c_CS, i_CS, t_CS_ok, n_CS⟩
theorem k_MK : ab_cls 2 R_MK F_MK 13 t_MK := ⟨c_MK, i_MK, t_MK_ok, n_MK⟩
theorem k_OM : ab_cls 3 R_OM F_OM 15 t_OM := ⟨c_OM, i_OM, t_OM_ok, n_OM⟩
theorem k_PA : ab_cls 4 R_PA F_PA 15 t_PA := ⟨c_PA, i_PA, t_PA_ok, n_PA⟩
theorem k_PR : ab_cls 5 R_PR F_PR 16 t_PR := ⟨c_PR, i_PR, t_PR_ok, n_PR⟩
theorem k_RD : ab_cls 6 R_RD F_RD 10 t_RD := ⟨c_RD, i_RD, t_RD_ok, n_RD⟩
theorem k_RW : ab_cls 7 R_RW F_RW 3 t_RW := ⟨c_RW, i_RW, t_RW_ok, n_RW⟩
theorem k_ST : ab_cls 8 R_ST F_ST 18 t_ST := ⟨c_ST, i_ST, t_ST_ok, n_ST⟩
theorem k_SU : ab_cls 9 R_SU F_SU 5 t_SU := ⟨c_SU, i_SU, t_SU_ok, n_SU⟩
theorem k_TX : ab_cls 10 R_TX F_TX 8 t_TX := ⟨c_TX, i_TX, t_TX_ok, n_TX⟩
theorem k_TH : ab_cls 11 R_TH F_TH 17 t_TH := ⟨c_TH, i_TH, t_TH_ok, n_TH⟩
theorem k_MO : ab_cls 12 R_MO F_MO 102 t_MO := ⟨c_MO, i_MO, t_MO_ok, n_MO⟩
theorem a_int : Cond.arrayClass .int ∈ lw_tbl := ab_t1 (List.mem_of_getElem? (i := 59) rfl)
theorem a_bool : Cond.arrayClass .boolean ∈ lw_tbl := ab_t9 (List.mem_of_getElem? (i := 87) rfl)
theorem a_long : Cond.arrayClass .long ∈ lw_tbl := ab_t9 (List.mem_of_getElem? (i := 88) rfl)
theorem a_over : Cond.arrayOver (.object "PatternWorks$Program") ∈ lw_tbl := ab_t1 (List.mem_of_getElem? (i := 225) rfl)
theorem ob_inst : Cond.instanceMethod Lib.objectInit ∈ lw_tbl := ab_t1 (List.mem_of_getElem? (i := 35) rfl)
theorem ob_code : Cond.code Lib.objectInit ⟨#[0xb1]⟩ 1 none ∈ lw_tbl := ab_t1 (List.mem_of_getElem? (i := 36) rfl)
theorem f_RW_15 : ab_fl R_RW 15 7 0 (.int) true := ⟨R_RW, F_RW, 3, t_RW, k_RW, by decide, rfl, rfl, rfl, Or.inl (ab_t1 (List.mem_of_getElem? (i := 43) rfl))⟩
theorem f_RW_9 : ab_fl R_RW 9 7 1 (.array (.int)) false := ⟨R_RW, F_RW, 3, t_RW, k_RW, by decide, rfl, rfl, rfl, Or.inl (ab_t1 (List.mem_of_getElem? (i := 44) rfl))⟩
theorem f_TX_32 : ab_fl R_TX 32 7 1 (.array (.int)) false := ⟨R_RW, F_RW, 3, t_RW, k_RW, by decide, rfl, rfl, rfl, Or.inr ⟨"PatternWorks", ab_t1 (List.mem_of_getElem? (i := 45) rfl)⟩⟩
theorem f_SU_46 : ab_fl R_SU 46 7 1 (.array (.int)) false := ⟨R_RW, F_RW, 3, t_RW, k_RW, by decide, rfl, rfl, rfl, Or.inr ⟨"PatternWorks", ab_t1 (List.mem_of_getElem? (i := 46) rfl)⟩⟩
theorem f_PW_272 : ab_fl R_PW 272 7 1 (.array (.int)) false := ⟨R_RW, F_RW, 3, t_RW, k_RW, by decide, rfl, rfl, rfl, Or.inr ⟨"PatternWorks", ab_t1 (List.mem_of_getElem? (i := 47) rfl)⟩⟩
theorem f_RW_19 : ab_fl R_RW 19 7 2 (.int) false := ⟨R_RW, F_RW, 3, t_RW, k_RW, by decide, rfl, rfl, rfl, Or.inl (ab_t1 (List.mem_of_getElem? (i := 48) rfl))⟩
theorem f_SU_28 : ab_fl R_SU 28 7 2 (.int) false := ⟨R_RW, F_RW, 3, t_RW, k_RW, by decide, rfl, rfl, rfl, Or.inr ⟨"PatternWorks", ab_t1 (List.mem_of_getElem? (i := 49) rfl)⟩⟩
theorem f_TX_37 : ab_fl R_TX 37 7 2 (.int) false := ⟨R_RW, F_RW, 3, t_RW, k_RW, by decide, rfl, rfl, rfl, Or.inr ⟨"PatternWorks", ab_t1 (List.mem_of_getElem? (i := 50) rfl)⟩⟩
theorem f_PW_101 : ab_fl R_PW 101 7 2 (.int) false := ⟨R_RW, F_RW, 3, t_RW, k_RW, by decide, rfl, rfl, rfl, Or.inr ⟨"PatternWorks", ab_t1 (List.mem_of_getElem? (i := 51) rfl)⟩⟩
theorem f_CS_9 : ab_fl R_CS 9 1 0 (.array (.int)) false := ⟨R_CS, F_CS, 2, t_CS, k_CS, by decide, rfl, rfl, rfl, Or.inl (ab_t1 (List.mem_of_getElem? (i := 78) rfl))⟩
theorem f_CS_15 : ab_fl R_CS 15 1 1 (.int) false := ⟨R_CS, F_CS, 2, t_CS, k_CS, by decide, rfl, rfl, rfl, Or.inl (ab_t1 (List.mem_of_getElem? (i := 79) rfl))⟩
theorem f_OM_92 : ab_fl R_OM 92 1 1 (.int) false := ⟨R_CS, F_CS, 2, t_CS, k_CS, by decide, rfl, rfl, rfl, Or.inr ⟨"PatternWorks", ab_t1 (List.mem_of_getElem? (i := 80) rfl)⟩⟩
theorem s_TX_26 : Cond.fieldLink R_TX 26 "PatternWorks" "DIGITS" "[I" ∈ lw_tbl ∨ ∃ host, Cond.fieldLinkNest R_TX 26 "PatternWorks" "DIGITS" "[I" host ∈ lw_tbl := Or.inr ⟨"PatternWorks", ab_t1 (List.mem_of_getElem? (i := 86) rfl)⟩
theorem f_TX_12 : ab_fl R_TX 12 10 0 (.object "PatternWorks$CharSet") true := ⟨R_TX, F_TX, 8, t_TX, k_TX, by decide, rfl, rfl, rfl, Or.inl (ab_t1 (List.mem_of_getElem? (i := 88) rfl))⟩
theorem f_RD_126 : ab_fl R_RD 126 10 0 (.object "PatternWorks$CharSet") true := ⟨R_TX, F_TX, 8, t_TX, k_TX, by decide, rfl, rfl, rfl, Or.inr ⟨"PatternWorks", ab_t1 (List.mem_of_getElem? (i := 89) rfl)⟩⟩
theorem f_TX_18 : ab_fl R_TX 18 10 1 (.array (.int)) false := ⟨R_TX, F_TX, 8, t_TX, k_TX, by decide, rfl, rfl, rfl, Or.inl (ab_t1 (List.mem_of_getElem? (i := 90) rfl))⟩
theorem f_PR_60 : ab_fl R_PR 60 10 1 (.array (.int)) false := ⟨R_TX, F_TX, 8, t_TX, k_TX, by decide, rfl, rfl, rfl, Or.inr ⟨"PatternWorks", ab_t1 (List.mem_of_getElem? (i := 91) rfl)⟩⟩
theorem f_RD_175 : ab_fl R_RD 175 10 1 (.array (.int)) false := ⟨R_TX, F_TX, 8, t_TX, k_TX, by decide, rfl, rfl, rfl, Or.inr ⟨"PatternWorks", ab_t1 (List.mem_of_getElem? (i := 92) rfl)⟩⟩
theorem f_TX_40 : ab_fl R_TX 40 10 2 (.int) false := ⟨R_TX, F_TX, 8, t_TX, k_TX, by decide, rfl, rfl, rfl, Or.inl (ab_t1 (List.mem_of_getElem? (i := 93) rfl))⟩
theorem f_RD_52 : ab_fl R_RD 52 10 2 (.int) false := ⟨R_TX, F_TX, 8, t_TX, k_TX, by decide, rfl, rfl, rfl, Or.inr ⟨"PatternWorks", ab_t1 (List.mem_of_getElem? (i := 94) rfl)⟩⟩
theorem f_TX_43 : ab_fl R_TX 43 10 3 (.int) false := ⟨R_TX, F_TX, 8, t_TX, k_TX, by decide, rfl, rfl, rfl, Or.inl (ab_t1 (List.mem_of_getElem? (i := 95) rfl))⟩
theorem f_RD_55 : ab_fl R_RD 55 10 3 (.int) false := ⟨R_TX, F_TX, 8, t_TX, k_TX, by decide, rfl, rfl, rfl, Or.inr ⟨"PatternWorks", ab_t1 (List.mem_of_getElem? (i := 96) rfl)⟩⟩
theorem f_TX_46 : ab_fl R_TX 46 10 4 (.int) false := ⟨R_TX, F_TX, 8, t_TX, k_TX, by decide, rfl, rfl, rfl, Or.inl (ab_t1 (List.mem_of_getElem? (i := 97) rfl))⟩
theorem f_RD_58 : ab_fl R_RD 58 10 4 (.int) false := ⟨R_TX, F_TX, 8, t_TX, k_TX, by decide, rfl, rfl, rfl, Or.inr ⟨"PatternWorks", ab_t1 (List.mem_of_getElem? (i := 98) rfl)⟩⟩
theorem f_PW_140 : ab_fl R_PW 140 10 4 (.int) false := ⟨R_TX, F_TX, 8, t_TX, k_TX, by decide, rfl, rfl, rfl, Or.inr ⟨"PatternWorks", ab_t1 (List.mem_of_getElem? (i := 99) rfl)⟩⟩
theorem f_TX_22 : ab_fl R_TX 22 10 5 (.int) false := ⟨R_TX, F_TX, 8, t_TX, k_TX, by decide, rfl, rfl, rfl, Or.inl (ab_t1 (List.mem_of_getElem? (i := 100) rfl))⟩
theorem f_PW_145 : ab_fl R_PW 145 10 5 (.int) false := ⟨R_TX, F_TX, 8, t_TX, k_TX, by decide, rfl, rfl, rfl, Or.inr ⟨"PatternWorks", ab_t1 (List.mem_of_getElem? (i := 101) rfl)⟩⟩
theorem f_TX_29 : ab_fl R_TX 29 10 6 (.array (.int)) false := ⟨R_TX, F_TX, 8, t_TX, k_TX, by decide, rfl, rfl, rfl, Or.inl (ab_t1 (List.mem_of_getElem? (i := 102) rfl))⟩
theorem f_RD_135 : ab_fl R_RD 135 10 6 (.array (.int)) false := ⟨R_TX, F_TX, 8, t_TX, k_TX, by decide, rfl, rfl, rfl, Or.inr ⟨"PatternWorks", ab_t1 (List.mem_of_getElem? (i := 103) rfl)⟩⟩
theorem f_RD_138 : ab_fl R_RD 138 10 7 (.boolean) false := ⟨R_TX, F_TX, 8, t_TX, k_TX, by decide, rfl, rfl, rfl, Or.inr ⟨"PatternWorks", ab_t1 (List.mem_of_getElem? (i := 104) rfl)⟩⟩
theorem f_TX_85 : ab_fl R_TX 85 10 7 (.boolean) false := ⟨R_TX, F_TX, 8, t_TX, k_TX, by decide, rfl, rfl, rfl, Or.inl (ab_t1 (List.mem_of_getElem? (i := 105) rfl))⟩
theorem f_PA_18 : ab_fl R_PA 18 4 0 (.int) true := ⟨R_PA, F_PA, 15, t_PA, k_PA, by decide, rfl, rfl, rfl, Or.inl (ab_t1 (List.mem_of_getElem? (i := 129) rfl))⟩
theorem f_PR_162 : ab_fl R_PR 162 4 0 (.int) true := ⟨R_PA, F_PA, 15, t_PA, k_PA, by decide, rfl, rfl, rfl, Or.inr ⟨"PatternWorks", ab_t1 (List.mem_of_getElem? (i := 130) rfl)⟩⟩
theorem f_PA_21 : ab_fl R_PA 21 4 1 (.int) true := ⟨R_PA, F_PA, 15, t_PA, k_PA, by decide, rfl, rfl, rfl, Or.inl (ab_t1 (List.mem_of_getElem? (i := 131) rfl))⟩
theorem f_PR_165 : ab_fl R_PR 165 4 1 (.int) true := ⟨R_PA, F_PA, 15, t_PA, k_PA, by decide, rfl, rfl, rfl, Or.inr ⟨"PatternWorks", ab_t1 (List.mem_of_getElem? (i := 132) rfl)⟩⟩
theorem f_RD_149 : ab_fl R_RD 149 4 2 (.array (.int)) false := ⟨R_PA, F_PA, 15, t_PA, k_PA, by decide, rfl, rfl, rfl, Or.inr ⟨"PatternWorks", ab_t1 (List.mem_of_getElem? (i := 133) rfl)⟩⟩
theorem f_PR_179 : ab_fl R_PR 179 4 2 (.array (.int)) false := ⟨R_PA, F_PA, 15, t_PA, k_PA, by decide, rfl, rfl, rfl, Or.inr ⟨"PatternWorks", ab_t1 (List.mem_of_getElem? (i := 134) rfl)⟩⟩
theorem f_PA_9 : ab_fl R_PA 9 4 3 (.int) false := ⟨R_PA, F_PA, 15, t_PA, k_PA, by decide, rfl, rfl, rfl, Or.inl (ab_t1 (List.mem_of_getElem? (i := 135) rfl))⟩
theorem f_RD_68 : ab_fl R_RD 68 4 3 (.int) false := ⟨R_PA, F_PA, 15, t_PA, k_PA, by decide, rfl, rfl, rfl, Or.inr ⟨"PatternWorks", ab_t1 (List.mem_of_getElem? (i := 136) rfl)⟩⟩
theorem f_RD_169 : ab_fl R_RD 169 4 4 (.int) false := ⟨R_PA, F_PA, 15, t_PA, k_PA, by decide, rfl, rfl, rfl, Or.inr ⟨"PatternWorks", ab_t1 (List.mem_of_getElem? (i := 137) rfl)⟩⟩
theorem f_RD_172 : ab_fl R_RD 172 4 5 (.object "PatternWorks$Part") false := ⟨R_PA, F_PA, 15, t_PA, k_PA, by decide, rfl, rfl, rfl, Or.inr ⟨"PatternWorks", ab_t1 (List.mem_of_getElem? (i := 138) rfl)⟩⟩
theorem f_PA_31 : ab_fl R_PA 31 4 6 (.object "PatternWorks$Part") false := ⟨R_PA, F_PA, 15, t_PA, k_PA, by decide, rfl, rfl, rfl, Or.inl (ab_t1 (List.mem_of_getElem? (i := 139) rfl))⟩
theorem f_PR_127 : ab_fl R_PR 127 4 6 (.object "PatternWorks$Part") false := ⟨R_PA, F_PA, 15, t_PA, k_PA, by decide, rfl, rfl, rfl, Or.inr ⟨"PatternWorks", ab_t1 (List.mem_of_getElem? (i := 140) rfl)⟩⟩
theorem f_PA_35 : ab_fl R_PA 35 4 7 (.object "PatternWorks$Part") false := ⟨R_PA, F_PA, 15, t_PA, k_PA, by decide, rfl, rfl, rfl, Or.inl (ab_t1 (List.mem_of_getElem? (i := 141) rfl))⟩
theorem f_PR_134 : ab_fl R_PR 134 4 7 (.object "PatternWorks$Part") false := ⟨R_PA, F_PA, 15, t_PA, k_PA, by decide, rfl, rfl, rfl, Or.inr ⟨"PatternWorks", ab_t1 (List.mem_of_getElem? (i := 142) rfl)⟩⟩
theorem f_PA_24 : ab_fl R_PA 24 4 8 (.int) false := ⟨R_PA, F_PA, 15, t_PA, k_PA, by decide, rfl, rfl, rfl, Or.inl (ab_t1 (List.mem_of_getElem? (i := 143) rfl))⟩
theorem f_PR_46 : ab_fl R_PR 46 4 8 (.int) false := ⟨R_PA, F_PA, 15, t_PA, k_PA, by decide, rfl, rfl, rfl, Or.inr ⟨"PatternWorks", ab_t1 (List.mem_of_getElem? (i := 144) rfl)⟩⟩
theorem f_RD_76 : ab_fl R_RD 76 4 8 (.int) false := ⟨R_PA, F_PA, 15, t_PA, k_PA, by decide, rfl, rfl, rfl, Or.inr ⟨"PatternWorks", ab_t1 (List.mem_of_getElem? (i := 145) rfl)⟩⟩
theorem f_PA_27 : ab_fl R_PA 27 4 9 (.boolean) false := ⟨R_PA, F_PA, 15, t_PA, k_PA, by decide, rfl, rfl, rfl, Or.inl (ab_t1 (List.mem_of_getElem? (i := 146) rfl))⟩
theorem f_PA_58 : ab_fl R_PA 58 4 10 (.boolean) false := ⟨R_PA, F_PA, 15, t_PA, k_PA, by decide, rfl, rfl, rfl, Or.inl (ab_t1 (List.mem_of_getElem? (i := 147) rfl))⟩
theorem f_PR_159 : ab_fl R_PR 159 4 10 (.boolean) false := ⟨R_PA, F_PA, 15, t_PA, k_PA, by decide, rfl, rfl, rfl, Or.inr ⟨"PatternWorks", ab_t1 (List.mem_of_getElem? (i := 148) rfl)⟩⟩
theorem f_PA_49 : ab_fl R_PA 49 4 11 (.int) false := ⟨R_PA, F_PA, 15, t_PA, k_PA, by decide, rfl, rfl, rfl, Or.inl (ab_t1 (List.mem_of_getElem? (i := 149) rfl))⟩
theorem f_PR_150 : ab_fl R_PR 150 4 11 (.int) false := ⟨R_PA, F_PA, 15, t_PA, k_PA, by decide, rfl, rfl, rfl, Or.inr ⟨"PatternWorks", ab_t1 (List.mem_of_getElem? (i := 150) rfl)⟩⟩
theorem f_PA_52 : ab_fl R_PA 52 4 12 (.int) false := ⟨R_PA, F_PA, 15, t_PA, k_PA, by decide, rfl, rfl, rfl, Or.inl (ab_t1 (List.mem_of_getElem? (i := 151) rfl))⟩
theorem f_PR_144 : ab_fl R_PR 144 4 12 (.int) false := ⟨R_PA, F_PA, 15, t_PA, k_PA, by decide, rfl, rfl, rfl, Or.inr ⟨"PatternWorks", ab_t1 (List.mem_of_getElem? (i := 152) rfl)⟩⟩
theorem f_PA_55 : ab_fl R_PA 55 4 13 (.boolean) false := ⟨R_PA, F_PA, 15, t_PA, k_PA, by decide, rfl, rfl, rfl, Or.inl (ab_t1 (List.mem_of_getElem? (i := 153) rfl))⟩
theorem f_PR_156 : ab_fl R_PR 156 4 13 (.boolean) false := ⟨R_PA, F_PA, 15, t_PA, k_PA, by decide, rfl, rfl, rfl, Or.inr ⟨"PatternWorks", ab_t1 (List.mem_of_getElem? (i := 154) rfl)⟩⟩
theorem f_PA_15 : ab_fl R_PA 15 4 14 (.int) false := ⟨R_PA, F_PA, 15, t_PA, k_PA, by decide, rfl, rfl, rfl, Or.inl (ab_t1 (List.mem_of_getElem? (i := 155) rfl))⟩
theorem f_PR_176 : ab_fl R_PR 176 4 14 (.int) false := ⟨R_PA, F_PA, 15, t_PA, k_PA, by decide, rfl, rfl, rfl, Or.inr ⟨"PatternWorks", ab_t1 (List.mem_of_getElem? (i := 156) rfl)⟩⟩
theorem f_RD_12 : ab_fl R_RD 12 6 0 (.object "PatternWorks$Text") true := ⟨R_RD, F_RD, 10, t_RD, k_RD, by decide, rfl, rfl, rfl, Or.inl (ab_t1 (List.mem_of_getElem? (i := 188) rfl))⟩
theorem f_PR_56 : ab_fl R_PR 56 6 0 (.object "PatternWorks$Text") true := ⟨R_RD, F_RD, 10, t_RD, k_RD, by decide, rfl, rfl, rfl, Or.inr ⟨"PatternWorks", ab_t1 (List.mem_of_getElem? (i := 189) rfl)⟩⟩
theorem f_PW_136 : ab_fl R_PW 136 6 0 (.object "PatternWorks$Text") true := ⟨R_RD, F_RD, 10, t_RD, k_RD, by decide, rfl, rfl, rfl, Or.inr ⟨"PatternWorks", ab_t1 (List.mem_of_getElem? (i := 190) rfl)⟩⟩
theorem f_RD_23 : ab_fl R_RD 23 6 1 (.object "PatternWorks$Part") false := ⟨R_RD, F_RD, 10, t_RD, k_RD, by decide, rfl, rfl, rfl, Or.inl (ab_t1 (List.mem_of_getElem? (i := 191) rfl))⟩
theorem f_RD_45 : ab_fl R_RD 45 6 2 (.int) false := ⟨R_RD, F_RD, 10, t_RD, k_RD, by decide, rfl, rfl, rfl, Or.inl (ab_t1 (List.mem_of_getElem? (i := 192) rfl))⟩
theorem f_RD_38 : ab_fl R_RD 38 6 3 (.int) false := ⟨R_RD, F_RD, 10, t_RD, k_RD, by decide, rfl, rfl, rfl, Or.inl (ab_t1 (List.mem_of_getElem? (i := 193) rfl))⟩
theorem f_PR_37 : ab_fl R_PR 37 6 4 (.int) false := ⟨R_RD, F_RD, 10, t_RD, k_RD, by decide, rfl, rfl, rfl, Or.inr ⟨"PatternWorks", ab_t1 (List.mem_of_getElem? (i := 194) rfl)⟩⟩
theorem f_RD_42 : ab_fl R_RD 42 6 4 (.int) false := ⟨R_RD, F_RD, 10, t_RD, k_RD, by decide, rfl, rfl, rfl, Or.inl (ab_t1 (List.mem_of_getElem? (i := 195) rfl))⟩
theorem f_RD_27 : ab_fl R_RD 27 6 5 (.array (.int)) true := ⟨R_RD, F_RD, 10, t_RD, k_RD, by decide, rfl, rfl, rfl, Or.inl (ab_t1 (List.mem_of_getElem? (i := 196) rfl))⟩
theorem f_PR_65 : ab_fl R_PR 65 6 5 (.array (.int)) true := ⟨R_RD, F_RD, 10, t_RD, k_RD, by decide, rfl, rfl, rfl, Or.inr ⟨"PatternWorks", ab_t1 (List.mem_of_getElem? (i := 197) rfl)⟩⟩
theorem f_RD_31 : ab_fl R_RD 31 6 6 (.array (.int)) true := ⟨R_RD, F_RD, 10, t_RD, k_RD, by decide, rfl, rfl, rfl, Or.inl (ab_t1 (List.mem_of_getElem? (i := 198) rfl))⟩
theorem f_PR_55 : ab_fl R_PR 55 6 6 (.array (.int)) true := ⟨R_RD, F_RD, 10, t_RD, k_RD, by decide, rfl, rfl, rfl, Or.inr ⟨"PatternWorks", ab_t1 (List.mem_of_getElem? (i := 199) rfl)⟩⟩
theorem f_RD_184 : ab_fl R_RD 184 6 7 (.int) false := ⟨R_RD, F_RD, 10, t_RD, k_RD, by decide, rfl, rfl, rfl, Or.inl (ab_t1 (List.mem_of_getElem? (i := 200) rfl))⟩
theorem f_RD_187 : ab_fl R_RD 187 6 8 (.int) false := ⟨R_RD, F_RD, 10, t_RD, k_RD, by decide, rfl, rfl, rfl, Or.inl (ab_t1 (List.mem_of_getElem? (i := 201) rfl))⟩
theorem f_RD_190 : ab_fl R_RD 190 6 9 (.int) false := ⟨R_RD, F_RD, 10, t_RD, k_RD, by decide, rfl, rfl, rfl, Or.inl (ab_t1 (List.mem_of_getElem? (i := 202) rfl))⟩
theorem f_SU_9 : ab_fl R_SU 9 9 0 (.array (.int)) false := ⟨R_SU, F_SU, 5, t_SU, k_SU, by decide, rfl, rfl, rfl, Or.inl (ab_t2 (List.mem_of_getElem? (i := 7) rfl))⟩
theorem f_PW_210 : ab_fl R_PW 210 9 0 (.array (.int)) false := ⟨R_SU, F_SU, 5, t_SU, k_SU, by decide, rfl, rfl, rfl, Or.inr ⟨"PatternWorks", ab_t2 (List.mem_of_getElem? (i := 8) rfl)⟩⟩
theorem f_SU_15 : ab_fl R_SU 15 9 1 (.array (.int)) false := ⟨R_SU, F_SU, 5, t_SU, k_SU, by decide, rfl, rfl, rfl, Or.inl (ab_t2 (List.mem_of_getElem? (i := 9) rfl))⟩
theorem f_PR_114 : ab_fl R_PR 114 9 1 (.array (.int)) false := ⟨R_SU, F_SU, 5, t_SU, k_SU, by decide, rfl, rfl, rfl, Or.inr ⟨"PatternWorks", ab_t2 (List.mem_of_getElem? (i := 10) rfl)⟩⟩
theorem f_ST_117 : ab_fl R_ST 117 9 1 (.array (.int)) false := ⟨R_SU, F_SU, 5, t_SU, k_SU, by decide, rfl, rfl, rfl, Or.inr ⟨"PatternWorks", ab_t2 (List.mem_of_getElem? (i := 11) rfl)⟩⟩
theorem f_SU_18 : ab_fl R_SU 18 9 2 (.array (.int)) false := ⟨R_SU, F_SU, 5, t_SU, k_SU, by decide, rfl, rfl, rfl, Or.inl (ab_t2 (List.mem_of_getElem? (i := 12) rfl))⟩
theorem f_TH_118 : ab_fl R_TH 118 9 2 (.array (.int)) false := ⟨R_SU, F_SU, 5, t_SU, k_SU, by decide, rfl, rfl, rfl, Or.inr ⟨"PatternWorks", ab_t2 (List.mem_of_getElem? (i := 13) rfl)⟩⟩
theorem f_PR_121 : ab_fl R_PR 121 9 2 (.array (.int)) false := ⟨R_SU, F_SU, 5, t_SU, k_SU, by decide, rfl, rfl, rfl, Or.inr ⟨"PatternWorks", ab_t2 (List.mem_of_getElem? (i := 14) rfl)⟩⟩
theorem f_ST_120 : ab_fl R_ST 120 9 2 (.array (.int)) false := ⟨R_SU, F_SU, 5, t_SU, k_SU, by decide, rfl, rfl, rfl, Or.inr ⟨"PatternWorks", ab_t2 (List.mem_of_getElem? (i := 15) rfl)⟩⟩
theorem f_SU_21 : ab_fl R_SU 21 9 3 (.array (.int)) false := ⟨R_SU, F_SU, 5, t_SU, k_SU, by decide, rfl, rfl, rfl, Or.inl (ab_t2 (List.mem_of_getElem? (i := 16) rfl))⟩
theorem f_SU_34 : ab_fl R_SU 34 9 4 (.int) false := ⟨R_SU, F_SU, 5, t_SU, k_SU, by decide, rfl, rfl, rfl, Or.inl (ab_t2 (List.mem_of_getElem? (i := 17) rfl))⟩
theorem f_MK_55 : ab_fl R_MK 55 9 4 (.int) false := ⟨R_SU, F_SU, 5, t_SU, k_SU, by decide, rfl, rfl, rfl, Or.inr ⟨"PatternWorks", ab_t2 (List.mem_of_getElem? (i := 18) rfl)⟩⟩
theorem f_TH_67 : ab_fl R_TH 67 9 4 (.int) false := ⟨R_SU, F_SU, 5, t_SU, k_SU, by decide, rfl, rfl, rfl, Or.inr ⟨"PatternWorks", ab_t2 (List.mem_of_getElem? (i := 19) rfl)⟩⟩
theorem f_ST_51 : ab_fl R_ST 51 9 4 (.int) false := ⟨R_SU, F_SU, 5, t_SU, k_SU, by decide, rfl, rfl, rfl, Or.inr ⟨"PatternWorks", ab_t2 (List.mem_of_getElem? (i := 20) rfl)⟩⟩
theorem f_OM_127 : ab_fl R_OM 127 9 4 (.int) false := ⟨R_SU, F_SU, 5, t_SU, k_SU, by decide, rfl, rfl, rfl, Or.inr ⟨"PatternWorks", ab_t2 (List.mem_of_getElem? (i := 21) rfl)⟩⟩
theorem f_PR_109 : ab_fl R_PR 109 9 4 (.int) false := ⟨R_SU, F_SU, 5, t_SU, k_SU, by decide, rfl, rfl, rfl, Or.inr ⟨"PatternWorks", ab_t2 (List.mem_of_getElem? (i := 22) rfl)⟩⟩
theorem f_PW_164 : ab_fl R_PW 164 9 4 (.int) false := ⟨R_SU, F_SU, 5, t_SU, k_SU, by decide, rfl, rfl, rfl, Or.inr ⟨"PatternWorks", ab_t2 (List.mem_of_getElem? (i := 23) rfl)⟩⟩
theorem f_TH_9 : ab_fl R_TH 9 11 0 (.array (.int)) false := ⟨R_TH, F_TH, 17, t_TH, k_TH, by decide, rfl, rfl, rfl, Or.inl (ab_t2 (List.mem_of_getElem? (i := 41) rfl))⟩
theorem f_TH_15 : ab_fl R_TH 15 11 1 (.array (.int)) true := ⟨R_TH, F_TH, 17, t_TH, k_TH, by decide, rfl, rfl, rfl, Or.inl (ab_t2 (List.mem_of_getElem? (i := 42) rfl))⟩
theorem f_TH_18 : ab_fl R_TH 18 11 2 (.array (.int)) false := ⟨R_TH, F_TH, 17, t_TH, k_TH, by decide, rfl, rfl, rfl, Or.inl (ab_t2 (List.mem_of_getElem? (i := 43) rfl))⟩
theorem f_TH_21 : ab_fl R_TH 21 11 3 (.array (.int)) false := ⟨R_TH, F_TH, 17, t_TH, k_TH, by decide, rfl, rfl, rfl, Or.inl (ab_t2 (List.mem_of_getElem? (i := 44) rfl))⟩
theorem f_TH_24 : ab_fl R_TH 24 11 4 (.array (.int)) false := ⟨R_TH, F_TH, 17, t_TH, k_TH, by decide, rfl, rfl, rfl, Or.inl (ab_t2 (List.mem_of_getElem? (i := 45) rfl))⟩
theorem f_TH_27 : ab_fl R_TH 27 11 5 (.array (.int)) false := ⟨R_TH, F_TH, 17, t_TH, k_TH, by decide, rfl, rfl, rfl, Or.inl (ab_t2 (List.mem_of_getElem? (i := 46) rfl))⟩
theorem f_TH_91 : ab_fl R_TH 91 11 6 (.int) false := ⟨R_TH, F_TH, 17, t_TH, k_TH, by decide, rfl, rfl, rfl, Or.inl (ab_t2 (List.mem_of_getElem? (i := 47) rfl))⟩
theorem f_TH_64 : ab_fl R_TH 64 11 7 (.int) false := ⟨R_TH, F_TH, 17, t_TH, k_TH, by decide, rfl, rfl, rfl, Or.inl (ab_t2 (List.mem_of_getElem? (i := 48) rfl))⟩
theorem f_TH_30 : ab_fl R_TH 30 11 8 (.array (.int)) true := ⟨R_TH, F_TH, 17, t_TH, k_TH, by decide, rfl, rfl, rfl, Or.inl (ab_t2 (List.mem_of_getElem? (i := 49) rfl))⟩
theorem f_TH_98 : ab_fl R_TH 98 11 9 (.int) false := ⟨R_TH, F_TH, 17, t_TH, k_TH, by decide, rfl, rfl, rfl, Or.inl (ab_t2 (List.mem_of_getElem? (i := 50) rfl))⟩
theorem f_TH_33 : ab_fl R_TH 33 11 10 (.array (.int)) true := ⟨R_TH, F_TH, 17, t_TH, k_TH, by decide, rfl, rfl, rfl, Or.inl (ab_t2 (List.mem_of_getElem? (i := 51) rfl))⟩
theorem f_TH_61 : ab_fl R_TH 61 11 11 (.boolean) false := ⟨R_TH, F_TH, 17, t_TH, k_TH, by decide, rfl, rfl, rfl, Or.inl (ab_t2 (List.mem_of_getElem? (i := 52) rfl))⟩
theorem f_TH_36 : ab_fl R_TH 36 11 12 (.object "PatternWorks$Program") false := ⟨R_TH, F_TH, 17, t_TH, k_TH, by decide, rfl, rfl, rfl, Or.inl (ab_t2 (List.mem_of_getElem? (i := 53) rfl))⟩
theorem f_TH_40 : ab_fl R_TH 40 11 13 (.object "PatternWorks$Subject") false := ⟨R_TH, F_TH, 17, t_TH, k_TH, by decide, rfl, rfl, rfl, Or.inl (ab_t2 (List.mem_of_getElem? (i := 54) rfl))⟩
theorem f_TH_44 : ab_fl R_TH 44 11 14 (.int) false := ⟨R_TH, F_TH, 17, t_TH, k_TH, by decide, rfl, rfl, rfl, Or.inl (ab_t2 (List.mem_of_getElem? (i := 55) rfl))⟩
theorem f_TH_54 : ab_fl R_TH 54 11 15 (.boolean) false := ⟨R_TH, F_TH, 17, t_TH, k_TH, by decide, rfl, rfl, rfl, Or.inl (ab_t2 (List.mem_of_getElem? (i := 56) rfl))⟩
theorem f_TH_105 : ab_fl R_TH 105 11 16 (.long) false := ⟨R_TH, F_TH, 17, t_TH, k_TH, by decide, rfl, rfl, rfl, Or.inl (ab_t2 (List.mem_of_getElem? (i := 57) rfl))⟩
theorem f_PW_255 : ab_fl R_PW 255 11 16 (.long) false := ⟨R_TH, F_TH, 17, t_TH, k_TH, by decide, rfl, rfl, rfl, Or.inr ⟨"PatternWorks", ab_t2 (List.mem_of_getElem? (i := 58) rfl)⟩⟩
theorem f_MK_9 : ab_fl R_MK 9 2 0 (.array (.int)) false := ⟨R_MK, F_MK, 13, t_MK, k_MK, by decide, rfl, rfl, rfl, Or.inl (ab_t2 (List.mem_of_getElem? (i := 100) rfl))⟩
theorem f_MK_15 : ab_fl R_MK 15 2 1 (.array (.int)) true := ⟨R_MK, F_MK, 13, t_MK, k_MK, by decide, rfl, rfl, rfl, Or.inl (ab_t2 (List.mem_of_getElem? (i := 101) rfl))⟩
theorem f_MK_18 : ab_fl R_MK 18 2 2 (.array (.int)) false := ⟨R_MK, F_MK, 13, t_MK, k_MK, by decide, rfl, rfl, rfl, Or.inl (ab_t2 (List.mem_of_getElem? (i := 102) rfl))⟩
theorem f_MK_49 : ab_fl R_MK 49 2 3 (.int) false := ⟨R_MK, F_MK, 13, t_MK, k_MK, by decide, rfl, rfl, rfl, Or.inl (ab_t2 (List.mem_of_getElem? (i := 103) rfl))⟩
theorem f_MK_52 : ab_fl R_MK 52 2 4 (.int) false := ⟨R_MK, F_MK, 13, t_MK, k_MK, by decide, rfl, rfl, rfl, Or.inl (ab_t2 (List.mem_of_getElem? (i := 104) rfl))⟩
theorem f_MK_21 : ab_fl R_MK 21 2 5 (.array (.int)) false := ⟨R_MK, F_MK, 13, t_MK, k_MK, by decide, rfl, rfl, rfl, Or.inl (ab_t2 (List.mem_of_getElem? (i := 105) rfl))⟩
theorem f_MK_86 : ab_fl R_MK 86 2 6 (.int) false := ⟨R_MK, F_MK, 13, t_MK, k_MK, by decide, rfl, rfl, rfl, Or.inl (ab_t2 (List.mem_of_getElem? (i := 106) rfl))⟩
theorem f_MK_70 : ab_fl R_MK 70 2 7 (.boolean) false := ⟨R_MK, F_MK, 13, t_MK, k_MK, by decide, rfl, rfl, rfl, Or.inl (ab_t2 (List.mem_of_getElem? (i := 107) rfl))⟩
theorem f_MK_42 : ab_fl R_MK 42 2 8 (.boolean) false := ⟨R_MK, F_MK, 13, t_MK, k_MK, by decide, rfl, rfl, rfl, Or.inl (ab_t2 (List.mem_of_getElem? (i := 108) rfl))⟩
theorem f_MK_32 : ab_fl R_MK 32 2 9 (.int) false := ⟨R_MK, F_MK, 13, t_MK, k_MK, by decide, rfl, rfl, rfl, Or.inl (ab_t2 (List.mem_of_getElem? (i := 109) rfl))⟩
theorem f_MK_24 : ab_fl R_MK 24 2 10 (.object "PatternWorks$Program") false := ⟨R_MK, F_MK, 13, t_MK, k_MK, by decide, rfl, rfl, rfl, Or.inl (ab_t2 (List.mem_of_getElem? (i := 110) rfl))⟩
theorem f_MK_28 : ab_fl R_MK 28 2 11 (.object "PatternWorks$Subject") false := ⟨R_MK, F_MK, 13, t_MK, k_MK, by decide, rfl, rfl, rfl, Or.inl (ab_t2 (List.mem_of_getElem? (i := 111) rfl))⟩
theorem f_MK_143 : ab_fl R_MK 143 2 12 (.long) false := ⟨R_MK, F_MK, 13, t_MK, k_MK, by decide, rfl, rfl, rfl, Or.inl (ab_t2 (List.mem_of_getElem? (i := 112) rfl))⟩
theorem f_PW_259 : ab_fl R_PW 259 2 12 (.long) false := ⟨R_MK, F_MK, 13, t_MK, k_MK, by decide, rfl, rfl, rfl, Or.inr ⟨"PatternWorks", ab_t2 (List.mem_of_getElem? (i := 113) rfl)⟩⟩
theorem f_OM_9 : ab_fl R_OM 9 3 0 (.array (.int)) false := ⟨R_OM, F_OM, 15, t_OM, k_OM, by decide, rfl, rfl, rfl, Or.inl (ab_t2 (List.mem_of_getElem? (i := 149) rfl))⟩
theorem f_OM_15 : ab_fl R_OM 15 3 1 (.array (.int)) true := ⟨R_OM, F_OM, 15, t_OM, k_OM, by decide, rfl, rfl, rfl, Or.inl (ab_t2 (List.mem_of_getElem? (i := 150) rfl))⟩
theorem f_OM_18 : ab_fl R_OM 18 3 2 (.array (.int)) true := ⟨R_OM, F_OM, 15, t_OM, k_OM, by decide, rfl, rfl, rfl, Or.inl (ab_t2 (List.mem_of_getElem? (i := 151) rfl))⟩
theorem f_OM_24 : ab_fl R_OM 24 3 3 (.object "PatternWorks$CharSet") true := ⟨R_OM, F_OM, 15, t_OM, k_OM, by decide, rfl, rfl, rfl, Or.inl (ab_t2 (List.mem_of_getElem? (i := 152) rfl))⟩
theorem f_OM_28 : ab_fl R_OM 28 3 4 (.array (.int)) false := ⟨R_OM, F_OM, 15, t_OM, k_OM, by decide, rfl, rfl, rfl, Or.inl (ab_t2 (List.mem_of_getElem? (i := 153) rfl))⟩
theorem f_OM_31 : ab_fl R_OM 31 3 5 (.array (.int)) false := ⟨R_OM, F_OM, 15, t_OM, k_OM, by decide, rfl, rfl, rfl, Or.inl (ab_t2 (List.mem_of_getElem? (i := 154) rfl))⟩
theorem f_OM_34 : ab_fl R_OM 34 3 6 (.array (.int)) false := ⟨R_OM, F_OM, 15, t_OM, k_OM, by decide, rfl, rfl, rfl, Or.inl (ab_t2 (List.mem_of_getElem? (i := 155) rfl))⟩
theorem f_OM_76 : ab_fl R_OM 76 3 7 (.int) false := ⟨R_OM, F_OM, 15, t_OM, k_OM, by decide, rfl, rfl, rfl, Or.inl (ab_t2 (List.mem_of_getElem? (i := 156) rfl))⟩
theorem f_OM_118 : ab_fl R_OM 118 3 8 (.boolean) false := ⟨R_OM, F_OM, 15, t_OM, k_OM, by decide, rfl, rfl, rfl, Or.inl (ab_t2 (List.mem_of_getElem? (i := 157) rfl))⟩
theorem f_OM_132 : ab_fl R_OM 132 3 9 (.int) false := ⟨R_OM, F_OM, 15, t_OM, k_OM, by decide, rfl, rfl, rfl, Or.inl (ab_t2 (List.mem_of_getElem? (i := 158) rfl))⟩
theorem f_OM_47 : ab_fl R_OM 47 3 10 (.object "PatternWorks$Program") false := ⟨R_OM, F_OM, 15, t_OM, k_OM, by decide, rfl, rfl, rfl, Or.inl (ab_t2 (List.mem_of_getElem? (i := 159) rfl))⟩
theorem f_OM_104 : ab_fl R_OM 104 3 11 (.object "PatternWorks$Subject") false := ⟨R_OM, F_OM, 15, t_OM, k_OM, by decide, rfl, rfl, rfl, Or.inl (ab_t2 (List.mem_of_getElem? (i := 160) rfl))⟩
theorem f_OM_108 : ab_fl R_OM 108 3 12 (.int) false := ⟨R_OM, F_OM, 15, t_OM, k_OM, by decide, rfl, rfl, rfl, Or.inl (ab_t2 (List.mem_of_getElem? (i := 161) rfl))⟩
theorem f_OM_114 : ab_fl R_OM 114 3 13 (.boolean) false := ⟨R_OM, F_OM, 15, t_OM, k_OM, by decide, rfl, rfl, rfl, Or.inl (ab_t2 (List.mem_of_getElem? (i := 162) rfl))⟩
theorem f_OM_79 : ab_fl R_OM 79 3 14 (.long) false := ⟨R_OM, F_OM, 15, t_OM, k_OM, by decide, rfl, rfl, rfl, Or.inl (ab_t2 (List.mem_of_getElem? (i := 163) rfl))⟩
theorem f_PW_260 : ab_fl R_PW 260 3 14 (.long) false := ⟨R_OM, F_OM, 15, t_OM, k_OM, by decide, rfl, rfl, rfl, Or.inr ⟨"PatternWorks", ab_t2 (List.mem_of_getElem? (i := 164) rfl)⟩⟩
theorem f_ST_9 : ab_fl R_ST 9 8 0 (.int) false := ⟨R_ST, F_ST, 18, t_ST, k_ST, by decide, rfl, rfl, rfl, Or.inl (ab_t2 (List.mem_of_getElem? (i := 202) rfl))⟩
theorem f_ST_74 : ab_fl R_ST 74 8 1 (.object "PatternWorks$Program") false := ⟨R_ST, F_ST, 18, t_ST, k_ST, by decide, rfl, rfl, rfl, Or.inl (ab_t2 (List.mem_of_getElem? (i := 203) rfl))⟩
theorem f_ST_78 : ab_fl R_ST 78 8 2 (.int) false := ⟨R_ST, F_ST, 18, t_ST, k_ST, by decide, rfl, rfl, rfl, Or.inl (ab_t2 (List.mem_of_getElem? (i := 204) rfl))⟩
theorem f_ST_70 : ab_fl R_ST 70 8 3 (.boolean) false := ⟨R_ST, F_ST, 18, t_ST, k_ST, by decide, rfl, rfl, rfl, Or.inl (ab_t2 (List.mem_of_getElem? (i := 205) rfl))⟩
theorem f_ST_15 : ab_fl R_ST 15 8 4 (.array (.int)) true := ⟨R_ST, F_ST, 18, t_ST, k_ST, by decide, rfl, rfl, rfl, Or.inl (ab_t2 (List.mem_of_getElem? (i := 206) rfl))⟩
theorem f_ST_63 : ab_fl R_ST 63 8 5 (.int) false := ⟨R_ST, F_ST, 18, t_ST, k_ST, by decide, rfl, rfl, rfl, Or.inl (ab_t2 (List.mem_of_getElem? (i := 207) rfl))⟩
theorem f_ST_19 : ab_fl R_ST 19 8 6 (.array (.int)) true := ⟨R_ST, F_ST, 18, t_ST, k_ST, by decide, rfl, rfl, rfl, Or.inl (ab_t2 (List.mem_of_getElem? (i := 208) rfl))⟩
theorem f_ST_22 : ab_fl R_ST 22 8 7 (.array (.int)) true := ⟨R_ST, F_ST, 18, t_ST, k_ST, by decide, rfl, rfl, rfl, Or.inl (ab_t2 (List.mem_of_getElem? (i := 209) rfl))⟩
theorem f_ST_25 : ab_fl R_ST 25 8 8 (.array (.int)) true := ⟨R_ST, F_ST, 18, t_ST, k_ST, by decide, rfl, rfl, rfl, Or.inl (ab_t2 (List.mem_of_getElem? (i := 210) rfl))⟩
theorem f_ST_28 : ab_fl R_ST 28 8 9 (.array (.int)) true := ⟨R_ST, F_ST, 18, t_ST, k_ST, by decide, rfl, rfl, rfl, Or.inl (ab_t2 (List.mem_of_getElem? (i := 211) rfl))⟩
theorem f_ST_40 : ab_fl R_ST 40 8 10 (.int) false := ⟨R_ST, F_ST, 18, t_ST, k_ST, by decide, rfl, rfl, rfl, Or.inl (ab_t2 (List.mem_of_getElem? (i := 212) rfl))⟩
theorem f_ST_31 : ab_fl R_ST 31 8 11 (.array (.int)) true := ⟨R_ST, F_ST, 18, t_ST, k_ST, by decide, rfl, rfl, rfl, Or.inl (ab_t2 (List.mem_of_getElem? (i := 213) rfl))⟩
theorem f_ST_126 : ab_fl R_ST 126 8 12 (.int) false := ⟨R_ST, F_ST, 18, t_ST, k_ST, by decide, rfl, rfl, rfl, Or.inl (ab_t2 (List.mem_of_getElem? (i := 214) rfl))⟩
theorem f_ST_34 : ab_fl R_ST 34 8 13 (.array (.int)) true := ⟨R_ST, F_ST, 18, t_ST, k_ST, by decide, rfl, rfl, rfl, Or.inl (ab_t2 (List.mem_of_getElem? (i := 215) rfl))⟩
theorem f_ST_123 : ab_fl R_ST 123 8 14 (.int) false := ⟨R_ST, F_ST, 18, t_ST, k_ST, by decide, rfl, rfl, rfl, Or.inl (ab_t2 (List.mem_of_getElem? (i := 216) rfl))⟩
theorem f_ST_37 : ab_fl R_ST 37 8 15 (.array (.int)) true := ⟨R_ST, F_ST, 18, t_ST, k_ST, by decide, rfl, rfl, rfl, Or.inl (ab_t2 (List.mem_of_getElem? (i := 217) rfl))⟩
theorem f_ST_148 : ab_fl R_ST 148 8 16 (.boolean) false := ⟨R_ST, F_ST, 18, t_ST, k_ST, by decide, rfl, rfl, rfl, Or.inl (ab_t2 (List.mem_of_getElem? (i := 218) rfl))⟩
theorem f_ST_56 : ab_fl R_ST 56 8 17 (.long) false := ⟨R_ST, F_ST, 18, t_ST, k_ST, by decide, rfl, rfl, rfl, Or.inl (ab_t2 (List.mem_of_getElem? (i := 219) rfl))⟩
theorem f_PW_261 : ab_fl R_PW 261 8 17 (.long) false := ⟨R_ST, F_ST, 18, t_ST, k_ST, by decide, rfl, rfl, rfl, Or.inr ⟨"PatternWorks", ab_t2 (List.mem_of_getElem? (i := 220) rfl)⟩⟩
theorem f_PW_9 : ab_fl R_PW 9 0 0 (.array (.int)) true := ⟨R_PW, F_PW, 18, t_PW, k_PW, by decide, rfl, rfl, rfl, Or.inl (ab_t3 (List.mem_of_getElem? (i := 21) rfl))⟩
theorem f_PW_18 : ab_fl R_PW 18 0 1 (.object "PatternWorks$Row") true := ⟨R_PW, F_PW, 18, t_PW, k_PW, by decide, rfl, rfl, rfl, Or.inl (ab_t3 (List.mem_of_getElem? (i := 22) rfl))⟩
theorem f_PW_25 : ab_fl R_PW 25 0 2 (.object "PatternWorks$Reader") true := ⟨R_PW, F_PW, 18, t_PW, k_PW, by decide, rfl, rfl, rfl, Or.inl (ab_t3 (List.mem_of_getElem? (i := 23) rfl))⟩
theorem f_PW_31 : ab_fl R_PW 31 0 3 (.array (.object "PatternWorks$Program")) true := ⟨R_PW, F_PW, 18, t_PW, k_PW, by decide, rfl, rfl, rfl, Or.inl (ab_t3 (List.mem_of_getElem? (i := 24) rfl))⟩
theorem f_PW_38 : ab_fl R_PW 38 0 4 (.object "PatternWorks$Subject") true := ⟨R_PW, F_PW, 18, t_PW, k_PW, by decide, rfl, rfl, rfl, Or.inl (ab_t3 (List.mem_of_getElem? (i := 25) rfl))⟩
theorem f_PW_42 : ab_fl R_PW 42 0 5 (.array (.int)) true := ⟨R_PW, F_PW, 18, t_PW, k_PW, by decide, rfl, rfl, rfl, Or.inl (ab_t3 (List.mem_of_getElem? (i := 26) rfl))⟩
theorem f_PW_48 : ab_fl R_PW 48 0 6 (.object "PatternWorks$Threads") true := ⟨R_PW, F_PW, 18, t_PW, k_PW, by decide, rfl, rfl, rfl, Or.inl (ab_t3 (List.mem_of_getElem? (i := 27) rfl))⟩
theorem f_PW_55 : ab_fl R_PW 55 0 7 (.object "PatternWorks$Marks") true := ⟨R_PW, F_PW, 18, t_PW, k_PW, by decide, rfl, rfl, rfl, Or.inl (ab_t3 (List.mem_of_getElem? (i := 28) rfl))⟩
theorem f_PW_62 : ab_fl R_PW 62 0 8 (.object "PatternWorks$OneMind") true := ⟨R_PW, F_PW, 18, t_PW, k_PW, by decide, rfl, rfl, rfl, Or.inl (ab_t3 (List.mem_of_getElem? (i := 29) rfl))⟩
theorem f_PW_69 : ab_fl R_PW 69 0 9 (.object "PatternWorks$States") true := ⟨R_PW, F_PW, 18, t_PW, k_PW, by decide, rfl, rfl, rfl, Or.inl (ab_t3 (List.mem_of_getElem? (i := 30) rfl))⟩
theorem f_PW_73 : ab_fl R_PW 73 0 10 (.array (.int)) true := ⟨R_PW, F_PW, 18, t_PW, k_PW, by decide, rfl, rfl, rfl, Or.inl (ab_t3 (List.mem_of_getElem? (i := 31) rfl))⟩
theorem f_PW_76 : ab_fl R_PW 76 0 11 (.object "PatternWorks$Row") true := ⟨R_PW, F_PW, 18, t_PW, k_PW, by decide, rfl, rfl, rfl, Or.inl (ab_t3 (List.mem_of_getElem? (i := 32) rfl))⟩
theorem f_PW_79 : ab_fl R_PW 79 0 12 (.object "PatternWorks$Row") true := ⟨R_PW, F_PW, 18, t_PW, k_PW, by decide, rfl, rfl, rfl, Or.inl (ab_t3 (List.mem_of_getElem? (i := 33) rfl))⟩
theorem f_PW_82 : ab_fl R_PW 82 0 13 (.object "PatternWorks$Row") true := ⟨R_PW, F_PW, 18, t_PW, k_PW, by decide, rfl, rfl, rfl, Or.inl (ab_t3 (List.mem_of_getElem? (i := 34) rfl))⟩
theorem f_PW_85 : ab_fl R_PW 85 0 14 (.object "PatternWorks$Row") false := ⟨R_PW, F_PW, 18, t_PW, k_PW, by decide, rfl, rfl, rfl, Or.inl (ab_t3 (List.mem_of_getElem? (i := 35) rfl))⟩
theorem f_PW_88 : ab_fl R_PW 88 0 15 (.object "PatternWorks$Row") false := ⟨R_PW, F_PW, 18, t_PW, k_PW, by decide, rfl, rfl, rfl, Or.inl (ab_t3 (List.mem_of_getElem? (i := 36) rfl))⟩
theorem f_PW_126 : ab_fl R_PW 126 0 16 (.int) false := ⟨R_PW, F_PW, 18, t_PW, k_PW, by decide, rfl, rfl, rfl, Or.inl (ab_t3 (List.mem_of_getElem? (i := 37) rfl))⟩
theorem f_PW_240 : ab_fl R_PW 240 0 17 (.int) false := ⟨R_PW, F_PW, 18, t_PW, k_PW, by decide, rfl, rfl, rfl, Or.inl (ab_t3 (List.mem_of_getElem? (i := 38) rfl))⟩
theorem s_ST_87 : Cond.fieldLink R_ST 87 "PatternWorks" "FIXED_CUTS" "[I" ∈ lw_tbl ∨ ∃ host, Cond.fieldLinkNest R_ST 87 "PatternWorks" "FIXED_CUTS" "[I" host ∈ lw_tbl := Or.inr ⟨"PatternWorks", ab_t3 (List.mem_of_getElem? (i := 201) rfl)⟩
theorem s_TX_71 : Cond.fieldLink R_TX 71 "PatternWorks" "SPACES" "[I" ∈ lw_tbl ∨ ∃ host, Cond.fieldLinkNest R_TX 71 "PatternWorks" "SPACES" "[I" host ∈ lw_tbl := Or.inr ⟨"PatternWorks", ab_t6 (List.mem_of_getElem? (i := 75) rfl)⟩
theorem s_TX_74 : Cond.fieldLink R_TX 74 "PatternWorks" "WORDS" "[I" ∈ lw_tbl ∨ ∃ host, Cond.fieldLinkNest R_TX 74 "PatternWorks" "WORDS" "[I" host ∈ lw_tbl := Or.inr ⟨"PatternWorks", ab_t6 (List.mem_of_getElem? (i := 77) rfl)⟩
theorem s_TX_89 : Cond.fieldLink R_TX 89 "PatternWorks" "LETTERS" "[I" ∈ lw_tbl ∨ ∃ host, Cond.fieldLinkNest R_TX 89 "PatternWorks" "LETTERS" "[I" host ∈ lw_tbl := Or.inr ⟨"PatternWorks", ab_t6 (List.mem_of_getElem? (i := 83) rfl)⟩
theorem s_TX_92 : Cond.fieldLink R_TX 92 "PatternWorks" "NUMBERS" "[I" ∈ lw_tbl ∨ ∃ host, Cond.fieldLinkNest R_TX 92 "PatternWorks" "NUMBERS" "[I" host ∈ lw_tbl := Or.inr ⟨"PatternWorks", ab_t6 (List.mem_of_getElem? (i := 85) rfl)⟩
theorem s_TX_95 : Cond.fieldLink R_TX 95 "PatternWorks" "GREEK" "[I" ∈ lw_tbl ∨ ∃ host, Cond.fieldLinkNest R_TX 95 "PatternWorks" "GREEK" "[I" host ∈ lw_tbl := Or.inr ⟨"PatternWorks", ab_t6 (List.mem_of_getElem? (i := 87) rfl)⟩
theorem s_TX_98 : Cond.fieldLink R_TX 98 "PatternWorks" "CYRILLIC" "[I" ∈ lw_tbl ∨ ∃ host, Cond.fieldLinkNest R_TX 98 "PatternWorks" "CYRILLIC" "[I" host ∈ lw_tbl := Or.inr ⟨"PatternWorks", ab_t6 (List.mem_of_getElem? (i := 89) rfl)⟩
theorem s_CS_48 : Cond.fieldLink R_CS 48 "PatternWorks" "ALIKE_RANGES" "[I" ∈ lw_tbl ∨ ∃ host, Cond.fieldLinkNest R_CS 48 "PatternWorks" "ALIKE_RANGES" "[I" host ∈ lw_tbl := Or.inr ⟨"PatternWorks", ab_t6 (List.mem_of_getElem? (i := 106) rfl)⟩
theorem s_CS_55 : Cond.fieldLink R_CS 55 "PatternWorks" "ALIKE_FOURS" "[I" ∈ lw_tbl ∨ ∃ host, Cond.fieldLinkNest R_CS 55 "PatternWorks" "ALIKE_FOURS" "[I" host ∈ lw_tbl := Or.inr ⟨"PatternWorks", ab_t6 (List.mem_of_getElem? (i := 112) rfl)⟩
theorem s_TX_154 : Cond.fieldLink R_TX 154 "PatternWorks" "PLAIN_LETTERS" "[I" ∈ lw_tbl ∨ ∃ host, Cond.fieldLinkNest R_TX 154 "PatternWorks" "PLAIN_LETTERS" "[I" host ∈ lw_tbl := Or.inr ⟨"PatternWorks", ab_t6 (List.mem_of_getElem? (i := 186) rfl)⟩
theorem s_TX_159 : Cond.fieldLink R_TX 159 "PatternWorks" "PLAIN_UPPER" "[I" ∈ lw_tbl ∨ ∃ host, Cond.fieldLinkNest R_TX 159 "PatternWorks" "PLAIN_UPPER" "[I" host ∈ lw_tbl := Or.inr ⟨"PatternWorks", ab_t6 (List.mem_of_getElem? (i := 189) rfl)⟩
theorem s_TX_164 : Cond.fieldLink R_TX 164 "PatternWorks" "PLAIN_LOWER" "[I" ∈ lw_tbl ∨ ∃ host, Cond.fieldLinkNest R_TX 164 "PatternWorks" "PLAIN_LOWER" "[I" host ∈ lw_tbl := Or.inr ⟨"PatternWorks", ab_t6 (List.mem_of_getElem? (i := 192) rfl)⟩
theorem s_TX_169 : Cond.fieldLink R_TX 169 "PatternWorks" "PUNCTUATION" "[I" ∈ lw_tbl ∨ ∃ host, Cond.fieldLinkNest R_TX 169 "PatternWorks" "PUNCTUATION" "[I" host ∈ lw_tbl := Or.inr ⟨"PatternWorks", ab_t6 (List.mem_of_getElem? (i := 195) rfl)⟩
theorem s_TX_174 : Cond.fieldLink R_TX 174 "PatternWorks" "WIDE_SPACES" "[I" ∈ lw_tbl ∨ ∃ host, Cond.fieldLinkNest R_TX 174 "PatternWorks" "WIDE_SPACES" "[I" host ∈ lw_tbl := Or.inr ⟨"PatternWorks", ab_t6 (List.mem_of_getElem? (i := 198) rfl)⟩
theorem s_RD_113 : Cond.fieldLink R_RD 113 "PatternWorks" "ANYTHING" "[I" ∈ lw_tbl ∨ ∃ host, Cond.fieldLinkNest R_RD 113 "PatternWorks" "ANYTHING" "[I" host ∈ lw_tbl := Or.inr ⟨"PatternWorks", ab_t7 (List.mem_of_getElem? (i := 9) rfl)⟩
theorem s_RD_116 : Cond.fieldLink R_RD 116 "PatternWorks" "ANYTHING_ON_A_LINE" "[I" ∈ lw_tbl ∨ ∃ host, Cond.fieldLinkNest R_RD 116 "PatternWorks" "ANYTHING_ON_A_LINE" "[I" host ∈ lw_tbl := Or.inr ⟨"PatternWorks", ab_t7 (List.mem_of_getElem? (i := 11) rfl)⟩
theorem f_PR_9 : ab_fl R_PR 9 5 0 (.array (.int)) true := ⟨R_PR, F_PR, 16, t_PR, k_PR, by decide, rfl, rfl, rfl, Or.inl (ab_t7 (List.mem_of_getElem? (i := 46) rfl))⟩
theorem f_OM_83 : ab_fl R_OM 83 5 0 (.array (.int)) true := ⟨R_PR, F_PR, 16, t_PR, k_PR, by decide, rfl, rfl, rfl, Or.inr ⟨"PatternWorks", ab_t7 (List.mem_of_getElem? (i := 47) rfl)⟩⟩
theorem f_ST_95 : ab_fl R_ST 95 5 0 (.array (.int)) true := ⟨R_PR, F_PR, 16, t_PR, k_PR, by decide, rfl, rfl, rfl, Or.inr ⟨"PatternWorks", ab_t7 (List.mem_of_getElem? (i := 48) rfl)⟩⟩
theorem f_MK_109 : ab_fl R_MK 109 5 0 (.array (.int)) true := ⟨R_PR, F_PR, 16, t_PR, k_PR, by decide, rfl, rfl, rfl, Or.inr ⟨"PatternWorks", ab_t7 (List.mem_of_getElem? (i := 49) rfl)⟩⟩
theorem f_TH_115 : ab_fl R_TH 115 5 0 (.array (.int)) true := ⟨R_PR, F_PR, 16, t_PR, k_PR, by decide, rfl, rfl, rfl, Or.inr ⟨"PatternWorks", ab_t7 (List.mem_of_getElem? (i := 50) rfl)⟩⟩
theorem f_PR_15 : ab_fl R_PR 15 5 1 (.array (.int)) true := ⟨R_PR, F_PR, 16, t_PR, k_PR, by decide, rfl, rfl, rfl, Or.inl (ab_t7 (List.mem_of_getElem? (i := 51) rfl))⟩
theorem f_OM_67 : ab_fl R_OM 67 5 1 (.array (.int)) true := ⟨R_PR, F_PR, 16, t_PR, k_PR, by decide, rfl, rfl, rfl, Or.inr ⟨"PatternWorks", ab_t7 (List.mem_of_getElem? (i := 52) rfl)⟩⟩
theorem f_TH_125 : ab_fl R_TH 125 5 1 (.array (.int)) true := ⟨R_PR, F_PR, 16, t_PR, k_PR, by decide, rfl, rfl, rfl, Or.inr ⟨"PatternWorks", ab_t7 (List.mem_of_getElem? (i := 53) rfl)⟩⟩
theorem f_MK_129 : ab_fl R_MK 129 5 1 (.array (.int)) true := ⟨R_PR, F_PR, 16, t_PR, k_PR, by decide, rfl, rfl, rfl, Or.inr ⟨"PatternWorks", ab_t7 (List.mem_of_getElem? (i := 54) rfl)⟩⟩
theorem f_ST_155 : ab_fl R_ST 155 5 1 (.array (.int)) true := ⟨R_PR, F_PR, 16, t_PR, k_PR, by decide, rfl, rfl, rfl, Or.inr ⟨"PatternWorks", ab_t7 (List.mem_of_getElem? (i := 55) rfl)⟩⟩
theorem f_PR_18 : ab_fl R_PR 18 5 2 (.array (.int)) true := ⟨R_PR, F_PR, 16, t_PR, k_PR, by decide, rfl, rfl, rfl, Or.inl (ab_t7 (List.mem_of_getElem? (i := 56) rfl))⟩
theorem f_OM_89 : ab_fl R_OM 89 5 2 (.array (.int)) true := ⟨R_PR, F_PR, 16, t_PR, k_PR, by decide, rfl, rfl, rfl, Or.inr ⟨"PatternWorks", ab_t7 (List.mem_of_getElem? (i := 57) rfl)⟩⟩
theorem f_MK_112 : ab_fl R_MK 112 5 2 (.array (.int)) true := ⟨R_PR, F_PR, 16, t_PR, k_PR, by decide, rfl, rfl, rfl, Or.inr ⟨"PatternWorks", ab_t7 (List.mem_of_getElem? (i := 58) rfl)⟩⟩
theorem f_ST_98 : ab_fl R_ST 98 5 2 (.array (.int)) true := ⟨R_PR, F_PR, 16, t_PR, k_PR, by decide, rfl, rfl, rfl, Or.inr ⟨"PatternWorks", ab_t7 (List.mem_of_getElem? (i := 59) rfl)⟩⟩
theorem f_TH_138 : ab_fl R_TH 138 5 2 (.array (.int)) true := ⟨R_PR, F_PR, 16, t_PR, k_PR, by decide, rfl, rfl, rfl, Or.inr ⟨"PatternWorks", ab_t7 (List.mem_of_getElem? (i := 60) rfl)⟩⟩
theorem f_MK_46 : ab_fl R_MK 46 5 3 (.int) false := ⟨R_PR, F_PR, 16, t_PR, k_PR, by decide, rfl, rfl, rfl, Or.inr ⟨"PatternWorks", ab_t7 (List.mem_of_getElem? (i := 61) rfl)⟩⟩
theorem f_PR_74 : ab_fl R_PR 74 5 3 (.int) false := ⟨R_PR, F_PR, 16, t_PR, k_PR, by decide, rfl, rfl, rfl, Or.inl (ab_t7 (List.mem_of_getElem? (i := 62) rfl))⟩
theorem f_OM_64 : ab_fl R_OM 64 5 3 (.int) false := ⟨R_PR, F_PR, 16, t_PR, k_PR, by decide, rfl, rfl, rfl, Or.inr ⟨"PatternWorks", ab_t7 (List.mem_of_getElem? (i := 63) rfl)⟩⟩
theorem f_ST_94 : ab_fl R_ST 94 5 3 (.int) false := ⟨R_PR, F_PR, 16, t_PR, k_PR, by decide, rfl, rfl, rfl, Or.inr ⟨"PatternWorks", ab_t7 (List.mem_of_getElem? (i := 64) rfl)⟩⟩
theorem f_TH_81 : ab_fl R_TH 81 5 4 (.int) false := ⟨R_PR, F_PR, 16, t_PR, k_PR, by decide, rfl, rfl, rfl, Or.inr ⟨"PatternWorks", ab_t7 (List.mem_of_getElem? (i := 65) rfl)⟩⟩
theorem f_PR_100 : ab_fl R_PR 100 5 4 (.int) false := ⟨R_PR, F_PR, 16, t_PR, k_PR, by decide, rfl, rfl, rfl, Or.inl (ab_t7 (List.mem_of_getElem? (i := 66) rfl))⟩
theorem f_OM_57 : ab_fl R_OM 57 5 4 (.int) false := ⟨R_PR, F_PR, 16, t_PR, k_PR, by decide, rfl, rfl, rfl, Or.inr ⟨"PatternWorks", ab_t7 (List.mem_of_getElem? (i := 67) rfl)⟩⟩
theorem f_MK_89 : ab_fl R_MK 89 5 4 (.int) false := ⟨R_PR, F_PR, 16, t_PR, k_PR, by decide, rfl, rfl, rfl, Or.inr ⟨"PatternWorks", ab_t7 (List.mem_of_getElem? (i := 68) rfl)⟩⟩
theorem f_ST_129 : ab_fl R_ST 129 5 4 (.int) false := ⟨R_PR, F_PR, 16, t_PR, k_PR, by decide, rfl, rfl, rfl, Or.inr ⟨"PatternWorks", ab_t7 (List.mem_of_getElem? (i := 69) rfl)⟩⟩
theorem f_PR_80 : ab_fl R_PR 80 5 5 (.boolean) false := ⟨R_PR, F_PR, 16, t_PR, k_PR, by decide, rfl, rfl, rfl, Or.inl (ab_t7 (List.mem_of_getElem? (i := 70) rfl))⟩
theorem f_ST_142 : ab_fl R_ST 142 5 5 (.boolean) false := ⟨R_PR, F_PR, 16, t_PR, k_PR, by decide, rfl, rfl, rfl, Or.inr ⟨"PatternWorks", ab_t7 (List.mem_of_getElem? (i := 71) rfl)⟩⟩
theorem f_PR_21 : ab_fl R_PR 21 5 6 (.array (.int)) false := ⟨R_PR, F_PR, 16, t_PR, k_PR, by decide, rfl, rfl, rfl, Or.inl (ab_t7 (List.mem_of_getElem? (i := 72) rfl))⟩
theorem f_OM_101 : ab_fl R_OM 101 5 6 (.array (.int)) false := ⟨R_PR, F_PR, 16, t_PR, k_PR, by decide, rfl, rfl, rfl, Or.inr ⟨"PatternWorks", ab_t7 (List.mem_of_getElem? (i := 73) rfl)⟩⟩
theorem f_ST_104 : ab_fl R_ST 104 5 6 (.array (.int)) false := ⟨R_PR, F_PR, 16, t_PR, k_PR, by decide, rfl, rfl, rfl, Or.inr ⟨"PatternWorks", ab_t7 (List.mem_of_getElem? (i := 74) rfl)⟩⟩
theorem f_PR_77 : ab_fl R_PR 77 5 7 (.int) false := ⟨R_PR, F_PR, 16, t_PR, k_PR, by decide, rfl, rfl, rfl, Or.inl (ab_t7 (List.mem_of_getElem? (i := 75) rfl))⟩
theorem f_ST_101 : ab_fl R_ST 101 5 7 (.int) false := ⟨R_PR, F_PR, 16, t_PR, k_PR, by decide, rfl, rfl, rfl, Or.inr ⟨"PatternWorks", ab_t7 (List.mem_of_getElem? (i := 76) rfl)⟩⟩
theorem f_PR_42 : ab_fl R_PR 42 5 8 (.int) false := ⟨R_PR, F_PR, 16, t_PR, k_PR, by decide, rfl, rfl, rfl, Or.inl (ab_t7 (List.mem_of_getElem? (i := 77) rfl))⟩
theorem f_PW_133 : ab_fl R_PW 133 5 8 (.int) false := ⟨R_PR, F_PR, 16, t_PR, k_PR, by decide, rfl, rfl, rfl, Or.inr ⟨"PatternWorks", ab_t7 (List.mem_of_getElem? (i := 78) rfl)⟩⟩
theorem f_PR_43 : ab_fl R_PR 43 5 9 (.int) false := ⟨R_PR, F_PR, 16, t_PR, k_PR, by decide, rfl, rfl, rfl, Or.inl (ab_t7 (List.mem_of_getElem? (i := 79) rfl))⟩
theorem f_TH_72 : ab_fl R_TH 72 5 9 (.int) false := ⟨R_PR, F_PR, 16, t_PR, k_PR, by decide, rfl, rfl, rfl, Or.inr ⟨"PatternWorks", ab_t7 (List.mem_of_getElem? (i := 80) rfl)⟩⟩
theorem f_MK_83 : ab_fl R_MK 83 5 9 (.int) false := ⟨R_PR, F_PR, 16, t_PR, k_PR, by decide, rfl, rfl, rfl, Or.inr ⟨"PatternWorks", ab_t7 (List.mem_of_getElem? (i := 81) rfl)⟩⟩
theorem f_OM_121 : ab_fl R_OM 121 5 9 (.int) false := ⟨R_PR, F_PR, 16, t_PR, k_PR, by decide, rfl, rfl, rfl, Or.inr ⟨"PatternWorks", ab_t7 (List.mem_of_getElem? (i := 82) rfl)⟩⟩
theorem f_PW_178 : ab_fl R_PW 178 5 9 (.int) false := ⟨R_PR, F_PR, 16, t_PR, k_PR, by decide, rfl, rfl, rfl, Or.inr ⟨"PatternWorks", ab_t7 (List.mem_of_getElem? (i := 83) rfl)⟩⟩
theorem f_PR_51 : ab_fl R_PR 51 5 10 (.int) false := ⟨R_PR, F_PR, 16, t_PR, k_PR, by decide, rfl, rfl, rfl, Or.inl (ab_t7 (List.mem_of_getElem? (i := 84) rfl))⟩
theorem f_PW_152 : ab_fl R_PW 152 5 10 (.int) false := ⟨R_PR, F_PR, 16, t_PR, k_PR, by decide, rfl, rfl, rfl, Or.inr ⟨"PatternWorks", ab_t7 (List.mem_of_getElem? (i := 85) rfl)⟩⟩
theorem f_PR_30 : ab_fl R_PR 30 5 11 (.int) false := ⟨R_PR, F_PR, 16, t_PR, k_PR, by decide, rfl, rfl, rfl, Or.inl (ab_t7 (List.mem_of_getElem? (i := 86) rfl))⟩
theorem f_PW_153 : ab_fl R_PW 153 5 11 (.int) false := ⟨R_PR, F_PR, 16, t_PR, k_PR, by decide, rfl, rfl, rfl, Or.inr ⟨"PatternWorks", ab_t7 (List.mem_of_getElem? (i := 87) rfl)⟩⟩
theorem f_PR_34 : ab_fl R_PR 34 5 12 (.int) false := ⟨R_PR, F_PR, 16, t_PR, k_PR, by decide, rfl, rfl, rfl, Or.inl (ab_t7 (List.mem_of_getElem? (i := 88) rfl))⟩
theorem f_ST_81 : ab_fl R_ST 81 5 12 (.int) false := ⟨R_PR, F_PR, 16, t_PR, k_PR, by decide, rfl, rfl, rfl, Or.inr ⟨"PatternWorks", ab_t7 (List.mem_of_getElem? (i := 89) rfl)⟩⟩
theorem f_OM_37 : ab_fl R_OM 37 5 13 (.int) false := ⟨R_PR, F_PR, 16, t_PR, k_PR, by decide, rfl, rfl, rfl, Or.inr ⟨"PatternWorks", ab_t7 (List.mem_of_getElem? (i := 90) rfl)⟩⟩
theorem f_PR_52 : ab_fl R_PR 52 5 13 (.int) false := ⟨R_PR, F_PR, 16, t_PR, k_PR, by decide, rfl, rfl, rfl, Or.inl (ab_t7 (List.mem_of_getElem? (i := 91) rfl))⟩
theorem f_PR_24 : ab_fl R_PR 24 5 14 (.array (.int)) true := ⟨R_PR, F_PR, 16, t_PR, k_PR, by decide, rfl, rfl, rfl, Or.inl (ab_t7 (List.mem_of_getElem? (i := 92) rfl))⟩
theorem f_PR_27 : ab_fl R_PR 27 5 15 (.array (.int)) true := ⟨R_PR, F_PR, 16, t_PR, k_PR, by decide, rfl, rfl, rfl, Or.inl (ab_t7 (List.mem_of_getElem? (i := 93) rfl))⟩
theorem f_MO_7 : ab_fl R_MO 7 12 0 (.array (.int)) true := ⟨R_MO, F_MO, 102, t_MO, k_MO, by decide, rfl, rfl, rfl, Or.inl (ab_t8 (List.mem_of_getElem? (i := 20) rfl))⟩
theorem f_MO_13 : ab_fl R_MO 13 12 1 (.array (.int)) true := ⟨R_MO, F_MO, 102, t_MO, k_MO, by decide, rfl, rfl, rfl, Or.inl (ab_t8 (List.mem_of_getElem? (i := 21) rfl))⟩
theorem f_MO_220 : ab_fl R_MO 220 12 2 (.int) false := ⟨R_MO, F_MO, 102, t_MO, k_MO, by decide, rfl, rfl, rfl, Or.inl (ab_t8 (List.mem_of_getElem? (i := 22) rfl))⟩
theorem f_MO_16 : ab_fl R_MO 16 12 3 (.array (.int)) true := ⟨R_MO, F_MO, 102, t_MO, k_MO, by decide, rfl, rfl, rfl, Or.inl (ab_t8 (List.mem_of_getElem? (i := 23) rfl))⟩
theorem f_MO_19 : ab_fl R_MO 19 12 4 (.array (.int)) true := ⟨R_MO, F_MO, 102, t_MO, k_MO, by decide, rfl, rfl, rfl, Or.inl (ab_t8 (List.mem_of_getElem? (i := 24) rfl))⟩
theorem f_MO_22 : ab_fl R_MO 22 12 5 (.array (.int)) true := ⟨R_MO, F_MO, 102, t_MO, k_MO, by decide, rfl, rfl, rfl, Or.inl (ab_t8 (List.mem_of_getElem? (i := 25) rfl))⟩
theorem f_MO_25 : ab_fl R_MO 25 12 6 (.array (.int)) true := ⟨R_MO, F_MO, 102, t_MO, k_MO, by decide, rfl, rfl, rfl, Or.inl (ab_t8 (List.mem_of_getElem? (i := 26) rfl))⟩
theorem f_MO_223 : ab_fl R_MO 223 12 7 (.int) false := ⟨R_MO, F_MO, 102, t_MO, k_MO, by decide, rfl, rfl, rfl, Or.inl (ab_t8 (List.mem_of_getElem? (i := 27) rfl))⟩
theorem f_MO_510 : ab_fl R_MO 510 12 8 (.int) false := ⟨R_MO, F_MO, 102, t_MO, k_MO, by decide, rfl, rfl, rfl, Or.inl (ab_t8 (List.mem_of_getElem? (i := 28) rfl))⟩
theorem f_MO_618 : ab_fl R_MO 618 12 9 (.int) false := ⟨R_MO, F_MO, 102, t_MO, k_MO, by decide, rfl, rfl, rfl, Or.inl (ab_t8 (List.mem_of_getElem? (i := 29) rfl))⟩
theorem f_MO_226 : ab_fl R_MO 226 12 10 (.int) false := ⟨R_MO, F_MO, 102, t_MO, k_MO, by decide, rfl, rfl, rfl, Or.inl (ab_t8 (List.mem_of_getElem? (i := 30) rfl))⟩
theorem f_MO_237 : ab_fl R_MO 237 12 11 (.int) false := ⟨R_MO, F_MO, 102, t_MO, k_MO, by decide, rfl, rfl, rfl, Or.inl (ab_t8 (List.mem_of_getElem? (i := 31) rfl))⟩
theorem f_MO_258 : ab_fl R_MO 258 12 12 (.int) false := ⟨R_MO, F_MO, 102, t_MO, k_MO, by decide, rfl, rfl, rfl, Or.inl (ab_t8 (List.mem_of_getElem? (i := 32) rfl))⟩
theorem f_MO_248 : ab_fl R_MO 248 12 13 (.int) false := ⟨R_MO, F_MO, 102, t_MO, k_MO, by decide, rfl, rfl, rfl, Or.inl (ab_t8 (List.mem_of_getElem? (i := 33) rfl))⟩
theorem f_MO_28 : ab_fl R_MO 28 12 14 (.array (.int)) true := ⟨R_MO, F_MO, 102, t_MO, k_MO, by decide, rfl, rfl, rfl, Or.inl (ab_t8 (List.mem_of_getElem? (i := 34) rfl))⟩
theorem f_MO_31 : ab_fl R_MO 31 12 15 (.array (.int)) true := ⟨R_MO, F_MO, 102, t_MO, k_MO, by decide, rfl, rfl, rfl, Or.inl (ab_t8 (List.mem_of_getElem? (i := 35) rfl))⟩
theorem f_MO_34 : ab_fl R_MO 34 12 16 (.array (.int)) true := ⟨R_MO, F_MO, 102, t_MO, k_MO, by decide, rfl, rfl, rfl, Or.inl (ab_t8 (List.mem_of_getElem? (i := 36) rfl))⟩
theorem f_MO_37 : ab_fl R_MO 37 12 17 (.array (.int)) true := ⟨R_MO, F_MO, 102, t_MO, k_MO, by decide, rfl, rfl, rfl, Or.inl (ab_t8 (List.mem_of_getElem? (i := 37) rfl))⟩
theorem f_MO_40 : ab_fl R_MO 40 12 18 (.array (.int)) true := ⟨R_MO, F_MO, 102, t_MO, k_MO, by decide, rfl, rfl, rfl, Or.inl (ab_t8 (List.mem_of_getElem? (i := 38) rfl))⟩
theorem f_MO_43 : ab_fl R_MO 43 12 19 (.array (.int)) true := ⟨R_MO, F_MO, 102, t_MO, k_MO, by decide, rfl, rfl, rfl, Or.inl (ab_t8 (List.mem_of_getElem? (i := 39) rfl))⟩
theorem f_MO_46 : ab_fl R_MO 46 12 20 (.array (.boolean)) true := ⟨R_MO, F_MO, 102, t_MO, k_MO, by decide, rfl, rfl, rfl, Or.inl (ab_t8 (List.mem_of_getElem? (i := 40) rfl))⟩
theorem f_MO_264 : ab_fl R_MO 264 12 21 (.int) false := ⟨R_MO, F_MO, 102, t_MO, k_MO, by decide, rfl, rfl, rfl, Or.inl (ab_t8 (List.mem_of_getElem? (i := 41) rfl))⟩
theorem f_MO_50 : ab_fl R_MO 50 12 22 (.array (.int)) true := ⟨R_MO, F_MO, 102, t_MO, k_MO, by decide, rfl, rfl, rfl, Or.inl (ab_t8 (List.mem_of_getElem? (i := 42) rfl))⟩
theorem f_MO_53 : ab_fl R_MO 53 12 23 (.array (.int)) true := ⟨R_MO, F_MO, 102, t_MO, k_MO, by decide, rfl, rfl, rfl, Or.inl (ab_t8 (List.mem_of_getElem? (i := 43) rfl))⟩
theorem f_MO_56 : ab_fl R_MO 56 12 24 (.array (.int)) true := ⟨R_MO, F_MO, 102, t_MO, k_MO, by decide, rfl, rfl, rfl, Or.inl (ab_t8 (List.mem_of_getElem? (i := 44) rfl))⟩
theorem f_MO_59 : ab_fl R_MO 59 12 25 (.array (.int)) true := ⟨R_MO, F_MO, 102, t_MO, k_MO, by decide, rfl, rfl, rfl, Or.inl (ab_t8 (List.mem_of_getElem? (i := 45) rfl))⟩
theorem f_MO_62 : ab_fl R_MO 62 12 26 (.array (.int)) true := ⟨R_MO, F_MO, 102, t_MO, k_MO, by decide, rfl, rfl, rfl, Or.inl (ab_t8 (List.mem_of_getElem? (i := 46) rfl))⟩
theorem f_MO_65 : ab_fl R_MO 65 12 27 (.array (.int)) true := ⟨R_MO, F_MO, 102, t_MO, k_MO, by decide, rfl, rfl, rfl, Or.inl (ab_t8 (List.mem_of_getElem? (i := 47) rfl))⟩
theorem f_MO_68 : ab_fl R_MO 68 12 28 (.array (.long)) true := ⟨R_MO, F_MO, 102, t_MO, k_MO, by decide, rfl, rfl, rfl, Or.inl (ab_t8 (List.mem_of_getElem? (i := 48) rfl))⟩
theorem f_MO_72 : ab_fl R_MO 72 12 29 (.array (.boolean)) true := ⟨R_MO, F_MO, 102, t_MO, k_MO, by decide, rfl, rfl, rfl, Or.inl (ab_t8 (List.mem_of_getElem? (i := 49) rfl))⟩
theorem f_MO_279 : ab_fl R_MO 279 12 30 (.int) false := ⟨R_MO, F_MO, 102, t_MO, k_MO, by decide, rfl, rfl, rfl, Or.inl (ab_t8 (List.mem_of_getElem? (i := 50) rfl))⟩
theorem f_MO_276 : ab_fl R_MO 276 12 31 (.int) false := ⟨R_MO, F_MO, 102, t_MO, k_MO, by decide, rfl, rfl, rfl, Or.inl (ab_t8 (List.mem_of_getElem? (i := 51) rfl))⟩
theorem f_MO_273 : ab_fl R_MO 273 12 32 (.int) false := ⟨R_MO, F_MO, 102, t_MO, k_MO, by decide, rfl, rfl, rfl, Or.inl (ab_t8 (List.mem_of_getElem? (i := 52) rfl))⟩
theorem f_MO_75 : ab_fl R_MO 75 12 33 (.int) false := ⟨R_MO, F_MO, 102, t_MO, k_MO, by decide, rfl, rfl, rfl, Or.inl (ab_t8 (List.mem_of_getElem? (i := 53) rfl))⟩
theorem f_MO_395 : ab_fl R_MO 395 12 34 (.int) false := ⟨R_MO, F_MO, 102, t_MO, k_MO, by decide, rfl, rfl, rfl, Or.inl (ab_t8 (List.mem_of_getElem? (i := 54) rfl))⟩
theorem f_MO_282 : ab_fl R_MO 282 12 35 (.int) false := ⟨R_MO, F_MO, 102, t_MO, k_MO, by decide, rfl, rfl, rfl, Or.inl (ab_t8 (List.mem_of_getElem? (i := 55) rfl))⟩
theorem f_MO_79 : ab_fl R_MO 79 12 36 (.array (.int)) true := ⟨R_MO, F_MO, 102, t_MO, k_MO, by decide, rfl, rfl, rfl, Or.inl (ab_t8 (List.mem_of_getElem? (i := 56) rfl))⟩
theorem f_MO_82 : ab_fl R_MO 82 12 37 (.array (.int)) true := ⟨R_MO, F_MO, 102, t_MO, k_MO, by decide, rfl, rfl, rfl, Or.inl (ab_t8 (List.mem_of_getElem? (i := 57) rfl))⟩
theorem f_MO_85 : ab_fl R_MO 85 12 38 (.array (.int)) true := ⟨R_MO, F_MO, 102, t_MO, k_MO, by decide, rfl, rfl, rfl, Or.inl (ab_t8 (List.mem_of_getElem? (i := 58) rfl))⟩
theorem f_MO_88 : ab_fl R_MO 88 12 39 (.array (.int)) true := ⟨R_MO, F_MO, 102, t_MO, k_MO, by decide, rfl, rfl, rfl, Or.inl (ab_t8 (List.mem_of_getElem? (i := 59) rfl))⟩
theorem f_MO_91 : ab_fl R_MO 91 12 40 (.array (.int)) true := ⟨R_MO, F_MO, 102, t_MO, k_MO, by decide, rfl, rfl, rfl, Or.inl (ab_t8 (List.mem_of_getElem? (i := 60) rfl))⟩
theorem f_MO_94 : ab_fl R_MO 94 12 41 (.array (.int)) true := ⟨R_MO, F_MO, 102, t_MO, k_MO, by decide, rfl, rfl, rfl, Or.inl (ab_t8 (List.mem_of_getElem? (i := 61) rfl))⟩
theorem f_MO_97 : ab_fl R_MO 97 12 42 (.array (.int)) true := ⟨R_MO, F_MO, 102, t_MO, k_MO, by decide, rfl, rfl, rfl, Or.inl (ab_t8 (List.mem_of_getElem? (i := 62) rfl))⟩
theorem f_MO_100 : ab_fl R_MO 100 12 43 (.array (.int)) true := ⟨R_MO, F_MO, 102, t_MO, k_MO, by decide, rfl, rfl, rfl, Or.inl (ab_t8 (List.mem_of_getElem? (i := 63) rfl))⟩
theorem f_MO_103 : ab_fl R_MO 103 12 44 (.array (.int)) true := ⟨R_MO, F_MO, 102, t_MO, k_MO, by decide, rfl, rfl, rfl, Or.inl (ab_t8 (List.mem_of_getElem? (i := 64) rfl))⟩
theorem f_MO_106 : ab_fl R_MO 106 12 45 (.array (.int)) true := ⟨R_MO, F_MO, 102, t_MO, k_MO, by decide, rfl, rfl, rfl, Or.inl (ab_t8 (List.mem_of_getElem? (i := 65) rfl))⟩
theorem f_MO_307 : ab_fl R_MO 307 12 46 (.int) false := ⟨R_MO, F_MO, 102, t_MO, k_MO, by decide, rfl, rfl, rfl, Or.inl (ab_t8 (List.mem_of_getElem? (i := 66) rfl))⟩
theorem f_MO_319 : ab_fl R_MO 319 12 47 (.boolean) false := ⟨R_MO, F_MO, 102, t_MO, k_MO, by decide, rfl, rfl, rfl, Or.inl (ab_t8 (List.mem_of_getElem? (i := 67) rfl))⟩
theorem f_MO_403 : ab_fl R_MO 403 12 48 (.int) false := ⟨R_MO, F_MO, 102, t_MO, k_MO, by decide, rfl, rfl, rfl, Or.inl (ab_t8 (List.mem_of_getElem? (i := 68) rfl))⟩
theorem f_MO_406 : ab_fl R_MO 406 12 49 (.int) false := ⟨R_MO, F_MO, 102, t_MO, k_MO, by decide, rfl, rfl, rfl, Or.inl (ab_t8 (List.mem_of_getElem? (i := 69) rfl))⟩
theorem f_MO_109 : ab_fl R_MO 109 12 50 (.array (.boolean)) true := ⟨R_MO, F_MO, 102, t_MO, k_MO, by decide, rfl, rfl, rfl, Or.inl (ab_t8 (List.mem_of_getElem? (i := 70) rfl))⟩
theorem f_MO_112 : ab_fl R_MO 112 12 51 (.array (.int)) true := ⟨R_MO, F_MO, 102, t_MO, k_MO, by decide, rfl, rfl, rfl, Or.inl (ab_t8 (List.mem_of_getElem? (i := 71) rfl))⟩
theorem f_MO_115 : ab_fl R_MO 115 12 52 (.array (.int)) true := ⟨R_MO, F_MO, 102, t_MO, k_MO, by decide, rfl, rfl, rfl, Or.inl (ab_t8 (List.mem_of_getElem? (i := 72) rfl))⟩
theorem f_MO_118 : ab_fl R_MO 118 12 53 (.array (.int)) true := ⟨R_MO, F_MO, 102, t_MO, k_MO, by decide, rfl, rfl, rfl, Or.inl (ab_t8 (List.mem_of_getElem? (i := 73) rfl))⟩
theorem f_MO_121 : ab_fl R_MO 121 12 54 (.array (.int)) true := ⟨R_MO, F_MO, 102, t_MO, k_MO, by decide, rfl, rfl, rfl, Or.inl (ab_t8 (List.mem_of_getElem? (i := 74) rfl))⟩
theorem f_MO_124 : ab_fl R_MO 124 12 55 (.array (.int)) true := ⟨R_MO, F_MO, 102, t_MO, k_MO, by decide, rfl, rfl, rfl, Or.inl (ab_t8 (List.mem_of_getElem? (i := 75) rfl))⟩
theorem f_MO_128 : ab_fl R_MO 128 12 56 (.array (.int)) true := ⟨R_MO, F_MO, 102, t_MO, k_MO, by decide, rfl, rfl, rfl, Or.inl (ab_t8 (List.mem_of_getElem? (i := 76) rfl))⟩
theorem f_MO_131 : ab_fl R_MO 131 12 57 (.array (.int)) true := ⟨R_MO, F_MO, 102, t_MO, k_MO, by decide, rfl, rfl, rfl, Or.inl (ab_t8 (List.mem_of_getElem? (i := 77) rfl))⟩
theorem f_MO_134 : ab_fl R_MO 134 12 58 (.array (.int)) true := ⟨R_MO, F_MO, 102, t_MO, k_MO, by decide, rfl, rfl, rfl, Or.inl (ab_t8 (List.mem_of_getElem? (i := 78) rfl))⟩
theorem f_MO_137 : ab_fl R_MO 137 12 59 (.array (.int)) true := ⟨R_MO, F_MO, 102, t_MO, k_MO, by decide, rfl, rfl, rfl, Or.inl (ab_t8 (List.mem_of_getElem? (i := 79) rfl))⟩
theorem f_MO_140 : ab_fl R_MO 140 12 60 (.array (.int)) true := ⟨R_MO, F_MO, 102, t_MO, k_MO, by decide, rfl, rfl, rfl, Or.inl (ab_t8 (List.mem_of_getElem? (i := 80) rfl))⟩
theorem f_MO_143 : ab_fl R_MO 143 12 61 (.array (.int)) true := ⟨R_MO, F_MO, 102, t_MO, k_MO, by decide, rfl, rfl, rfl, Or.inl (ab_t8 (List.mem_of_getElem? (i := 81) rfl))⟩
theorem f_MO_146 : ab_fl R_MO 146 12 62 (.array (.int)) true := ⟨R_MO, F_MO, 102, t_MO, k_MO, by decide, rfl, rfl, rfl, Or.inl (ab_t8 (List.mem_of_getElem? (i := 82) rfl))⟩
theorem f_MO_149 : ab_fl R_MO 149 12 63 (.array (.int)) true := ⟨R_MO, F_MO, 102, t_MO, k_MO, by decide, rfl, rfl, rfl, Or.inl (ab_t8 (List.mem_of_getElem? (i := 83) rfl))⟩
theorem f_MO_152 : ab_fl R_MO 152 12 64 (.array (.int)) true := ⟨R_MO, F_MO, 102, t_MO, k_MO, by decide, rfl, rfl, rfl, Or.inl (ab_t8 (List.mem_of_getElem? (i := 84) rfl))⟩
theorem f_MO_155 : ab_fl R_MO 155 12 65 (.array (.int)) true := ⟨R_MO, F_MO, 102, t_MO, k_MO, by decide, rfl, rfl, rfl, Or.inl (ab_t8 (List.mem_of_getElem? (i := 85) rfl))⟩
theorem f_MO_438 : ab_fl R_MO 438 12 66 (.int) false := ⟨R_MO, F_MO, 102, t_MO, k_MO, by decide, rfl, rfl, rfl, Or.inl (ab_t8 (List.mem_of_getElem? (i := 86) rfl))⟩
theorem f_MO_445 : ab_fl R_MO 445 12 67 (.int) false := ⟨R_MO, F_MO, 102, t_MO, k_MO, by decide, rfl, rfl, rfl, Or.inl (ab_t8 (List.mem_of_getElem? (i := 87) rfl))⟩
theorem f_MO_448 : ab_fl R_MO 448 12 68 (.int) false := ⟨R_MO, F_MO, 102, t_MO, k_MO, by decide, rfl, rfl, rfl, Or.inl (ab_t8 (List.mem_of_getElem? (i := 88) rfl))⟩
theorem f_MO_451 : ab_fl R_MO 451 12 69 (.int) false := ⟨R_MO, F_MO, 102, t_MO, k_MO, by decide, rfl, rfl, rfl, Or.inl (ab_t8 (List.mem_of_getElem? (i := 89) rfl))⟩
theorem f_MO_158 : ab_fl R_MO 158 12 70 (.array (.int)) true := ⟨R_MO, F_MO, 102, t_MO, k_MO, by decide, rfl, rfl, rfl, Or.inl (ab_t8 (List.mem_of_getElem? (i := 90) rfl))⟩
theorem f_MO_161 : ab_fl R_MO 161 12 71 (.array (.int)) true := ⟨R_MO, F_MO, 102, t_MO, k_MO, by decide, rfl, rfl, rfl, Or.inl (ab_t8 (List.mem_of_getElem? (i := 91) rfl))⟩
theorem f_MO_164 : ab_fl R_MO 164 12 72 (.array (.int)) true := ⟨R_MO, F_MO, 102, t_MO, k_MO, by decide, rfl, rfl, rfl, Or.inl (ab_t8 (List.mem_of_getElem? (i := 92) rfl))⟩
theorem f_MO_167 : ab_fl R_MO 167 12 73 (.array (.int)) true := ⟨R_MO, F_MO, 102, t_MO, k_MO, by decide, rfl, rfl, rfl, Or.inl (ab_t8 (List.mem_of_getElem? (i := 93) rfl))⟩
theorem f_MO_170 : ab_fl R_MO 170 12 74 (.array (.int)) true := ⟨R_MO, F_MO, 102, t_MO, k_MO, by decide, rfl, rfl, rfl, Or.inl (ab_t8 (List.mem_of_getElem? (i := 94) rfl))⟩
theorem f_MO_174 : ab_fl R_MO 174 12 75 (.array (.int)) true := ⟨R_MO, F_MO, 102, t_MO, k_MO, by decide, rfl, rfl, rfl, Or.inl (ab_t8 (List.mem_of_getElem? (i := 95) rfl))⟩
theorem f_MO_178 : ab_fl R_MO 178 12 76 (.array (.long)) true := ⟨R_MO, F_MO, 102, t_MO, k_MO, by decide, rfl, rfl, rfl, Or.inl (ab_t8 (List.mem_of_getElem? (i := 96) rfl))⟩
theorem f_MO_181 : ab_fl R_MO 181 12 77 (.array (.long)) true := ⟨R_MO, F_MO, 102, t_MO, k_MO, by decide, rfl, rfl, rfl, Or.inl (ab_t8 (List.mem_of_getElem? (i := 97) rfl))⟩
theorem f_MO_184 : ab_fl R_MO 184 12 78 (.array (.long)) true := ⟨R_MO, F_MO, 102, t_MO, k_MO, by decide, rfl, rfl, rfl, Or.inl (ab_t8 (List.mem_of_getElem? (i := 98) rfl))⟩
theorem f_MO_187 : ab_fl R_MO 187 12 79 (.array (.boolean)) true := ⟨R_MO, F_MO, 102, t_MO, k_MO, by decide, rfl, rfl, rfl, Or.inl (ab_t8 (List.mem_of_getElem? (i := 99) rfl))⟩
theorem f_MO_513 : ab_fl R_MO 513 12 80 (.int) false := ⟨R_MO, F_MO, 102, t_MO, k_MO, by decide, rfl, rfl, rfl, Or.inl (ab_t8 (List.mem_of_getElem? (i := 100) rfl))⟩
theorem f_MO_516 : ab_fl R_MO 516 12 81 (.int) false := ⟨R_MO, F_MO, 102, t_MO, k_MO, by decide, rfl, rfl, rfl, Or.inl (ab_t8 (List.mem_of_getElem? (i := 101) rfl))⟩
theorem f_MO_190 : ab_fl R_MO 190 12 82 (.array (.int)) true := ⟨R_MO, F_MO, 102, t_MO, k_MO, by decide, rfl, rfl, rfl, Or.inl (ab_t8 (List.mem_of_getElem? (i := 102) rfl))⟩
theorem f_MO_193 : ab_fl R_MO 193 12 83 (.array (.int)) true := ⟨R_MO, F_MO, 102, t_MO, k_MO, by decide, rfl, rfl, rfl, Or.inl (ab_t8 (List.mem_of_getElem? (i := 103) rfl))⟩
theorem f_MO_196 : ab_fl R_MO 196 12 84 (.array (.int)) true := ⟨R_MO, F_MO, 102, t_MO, k_MO, by decide, rfl, rfl, rfl, Or.inl (ab_t8 (List.mem_of_getElem? (i := 104) rfl))⟩
theorem f_MO_199 : ab_fl R_MO 199 12 85 (.array (.int)) true := ⟨R_MO, F_MO, 102, t_MO, k_MO, by decide, rfl, rfl, rfl, Or.inl (ab_t8 (List.mem_of_getElem? (i := 105) rfl))⟩
theorem f_MO_202 : ab_fl R_MO 202 12 86 (.array (.int)) true := ⟨R_MO, F_MO, 102, t_MO, k_MO, by decide, rfl, rfl, rfl, Or.inl (ab_t8 (List.mem_of_getElem? (i := 106) rfl))⟩
theorem f_MO_205 : ab_fl R_MO 205 12 87 (.array (.int)) true := ⟨R_MO, F_MO, 102, t_MO, k_MO, by decide, rfl, rfl, rfl, Or.inl (ab_t8 (List.mem_of_getElem? (i := 107) rfl))⟩
theorem f_MO_208 : ab_fl R_MO 208 12 88 (.array (.boolean)) true := ⟨R_MO, F_MO, 102, t_MO, k_MO, by decide, rfl, rfl, rfl, Or.inl (ab_t8 (List.mem_of_getElem? (i := 108) rfl))⟩
theorem f_MO_540 : ab_fl R_MO 540 12 89 (.int) false := ⟨R_MO, F_MO, 102, t_MO, k_MO, by decide, rfl, rfl, rfl, Or.inl (ab_t8 (List.mem_of_getElem? (i := 109) rfl))⟩
theorem f_MO_563 : ab_fl R_MO 563 12 90 (.boolean) false := ⟨R_MO, F_MO, 102, t_MO, k_MO, by decide, rfl, rfl, rfl, Or.inl (ab_t8 (List.mem_of_getElem? (i := 110) rfl))⟩
theorem f_MO_570 : ab_fl R_MO 570 12 91 (.int) false := ⟨R_MO, F_MO, 102, t_MO, k_MO, by decide, rfl, rfl, rfl, Or.inl (ab_t8 (List.mem_of_getElem? (i := 111) rfl))⟩
theorem f_MO_573 : ab_fl R_MO 573 12 92 (.int) false := ⟨R_MO, F_MO, 102, t_MO, k_MO, by decide, rfl, rfl, rfl, Or.inl (ab_t8 (List.mem_of_getElem? (i := 112) rfl))⟩
theorem f_MO_576 : ab_fl R_MO 576 12 93 (.int) false := ⟨R_MO, F_MO, 102, t_MO, k_MO, by decide, rfl, rfl, rfl, Or.inl (ab_t8 (List.mem_of_getElem? (i := 113) rfl))⟩
theorem f_MO_579 : ab_fl R_MO 579 12 94 (.int) false := ⟨R_MO, F_MO, 102, t_MO, k_MO, by decide, rfl, rfl, rfl, Or.inl (ab_t8 (List.mem_of_getElem? (i := 114) rfl))⟩
theorem f_MO_588 : ab_fl R_MO 588 12 95 (.int) false := ⟨R_MO, F_MO, 102, t_MO, k_MO, by decide, rfl, rfl, rfl, Or.inl (ab_t8 (List.mem_of_getElem? (i := 115) rfl))⟩
theorem f_MO_211 : ab_fl R_MO 211 12 96 (.array (.int)) true := ⟨R_MO, F_MO, 102, t_MO, k_MO, by decide, rfl, rfl, rfl, Or.inl (ab_t8 (List.mem_of_getElem? (i := 116) rfl))⟩
theorem f_MO_214 : ab_fl R_MO 214 12 97 (.array (.int)) true := ⟨R_MO, F_MO, 102, t_MO, k_MO, by decide, rfl, rfl, rfl, Or.inl (ab_t8 (List.mem_of_getElem? (i := 117) rfl))⟩
theorem f_MO_217 : ab_fl R_MO 217 12 98 (.array (.int)) true := ⟨R_MO, F_MO, 102, t_MO, k_MO, by decide, rfl, rfl, rfl, Or.inl (ab_t8 (List.mem_of_getElem? (i := 118) rfl))⟩
theorem f_MO_594 : ab_fl R_MO 594 12 99 (.int) false := ⟨R_MO, F_MO, 102, t_MO, k_MO, by decide, rfl, rfl, rfl, Or.inl (ab_t8 (List.mem_of_getElem? (i := 119) rfl))⟩
theorem f_MO_603 : ab_fl R_MO 603 12 100 (.int) false := ⟨R_MO, F_MO, 102, t_MO, k_MO, by decide, rfl, rfl, rfl, Or.inl (ab_t8 (List.mem_of_getElem? (i := 120) rfl))⟩
theorem f_MO_597 : ab_fl R_MO 597 12 101 (.boolean) false := ⟨R_MO, F_MO, 102, t_MO, k_MO, by decide, rfl, rfl, rfl, Or.inl (ab_t8 (List.mem_of_getElem? (i := 121) rfl))⟩
theorem ini_PW : Cond.initialized R_PW ∈ lw_tbl := ab_t1 (List.mem_of_getElem? (i := 1) rfl)
theorem inst_PW : Cond.instantiable R_PW 18 ∈ lw_tbl := ab_t1 (List.mem_of_getElem? (i := 30) rfl)
theorem ini_CS : Cond.initialized R_CS ∈ lw_tbl := ab_t1 (List.mem_of_getElem? (i := 5) rfl)
theorem inst_CS : Cond.instantiable R_CS 2 ∈ lw_tbl := ab_t1 (List.mem_of_getElem? (i := 73) rfl)
theorem ini_MK : Cond.initialized R_MK ∈ lw_tbl := ab_t1 (List.mem_of_getElem? (i := 9) rfl)
theorem inst_MK : Cond.instantiable R_MK 13 ∈ lw_tbl := ab_t2 (List.mem_of_getElem? (i := 95) rfl)
theorem ini_OM : Cond.initialized R_OM ∈ lw_tbl := ab_t1 (List.mem_of_getElem? (i := 10) rfl)
theorem inst_OM : Cond.instantiable R_OM 15 ∈ lw_tbl := ab_t2 (List.mem_of_getElem? (i := 142) rfl)
theorem ini_PA : Cond.initialized R_PA ∈ lw_tbl := ab_t1 (List.mem_of_getElem? (i := 6) rfl)
theorem inst_PA : Cond.instantiable R_PA 15 ∈ lw_tbl := ab_t1 (List.mem_of_getElem? (i := 124) rfl)
theorem ini_PR : Cond.initialized R_PR ∈ lw_tbl := ab_t1 (List.mem_of_getElem? (i := 24) rfl)
theorem inst_PR : Cond.instantiable R_PR 16 ∈ lw_tbl := ab_t7 (List.mem_of_getElem? (i := 41) rfl)
theorem ini_RD : Cond.initialized R_RD ∈ lw_tbl := ab_t1 (List.mem_of_getElem? (i := 3) rfl)
theorem inst_RD : Cond.instantiable R_RD 10 ∈ lw_tbl := ab_t1 (List.mem_of_getElem? (i := 61) rfl)
theorem ini_RW : Cond.initialized R_RW ∈ lw_tbl := ab_t1 (List.mem_of_getElem? (i := 2) rfl)
theorem inst_RW : Cond.instantiable R_RW 3 ∈ lw_tbl := ab_t1 (List.mem_of_getElem? (i := 38) rfl)
theorem ini_ST : Cond.initialized R_ST ∈ lw_tbl := ab_t1 (List.mem_of_getElem? (i := 11) rfl)
theorem inst_ST : Cond.instantiable R_ST 18 ∈ lw_tbl := ab_t2 (List.mem_of_getElem? (i := 197) rfl)
theorem ini_SU : Cond.initialized R_SU ∈ lw_tbl := ab_t1 (List.mem_of_getElem? (i := 7) rfl)
theorem inst_SU : Cond.instantiable R_SU 5 ∈ lw_tbl := ab_t1 (List.mem_of_getElem? (i := 227) rfl)
theorem ini_TX : Cond.initialized R_TX ∈ lw_tbl := ab_t1 (List.mem_of_getElem? (i := 4) rfl)
theorem inst_TX : Cond.instantiable R_TX 8 ∈ lw_tbl := ab_t1 (List.mem_of_getElem? (i := 67) rfl)
theorem ini_TH : Cond.initialized R_TH ∈ lw_tbl := ab_t1 (List.mem_of_getElem? (i := 8) rfl)
theorem inst_TH : Cond.instantiable R_TH 17 ∈ lw_tbl := ab_t2 (List.mem_of_getElem? (i := 36) rfl)
theorem ini_MO : Cond.initialized R_MO ∈ lw_tbl := ab_t1 (List.mem_of_getElem? (i := 13) rfl)
theorem inst_MO : Cond.instantiable R_MO 102 ∈ lw_tbl := ab_t8 (List.mem_of_getElem? (i := 12) rfl)
theorem ini_LA : Cond.initialized "PatternWorksLaw" ∈ lw_tbl := ab_t1 (List.mem_of_getElem? (i := 0) rfl)
theorem ini_IA : Cond.initialized R_IA ∈ lw_tbl := ab_t1 (List.mem_of_getElem? (i := 19) rfl)
theorem inst_IA : Cond.instantiable R_IA 6 ∈ lw_tbl := ab_t3 (List.mem_of_getElem? (i := 237) rfl)
theorem cast_IA : Cond.castable R_IA R_IA ∈ lw_tbl := ab_t3 (List.mem_of_getElem? (i := 238) rfl)
def R_LA : String := "PatternWorksLaw"
def R_AR : String := "java/util/Arrays"
theorem cl_LA_8 : Cond.classLink R_LA 8 "PatternWorks" ∈ lw_tbl := ab_t1 (List.mem_of_getElem? (i := 29) rfl)
theorem cl_PW_13 : Cond.classLink R_PW 13 "PatternWorks$Row" ∈ lw_tbl := ab_t1 (List.mem_of_getElem? (i := 37) rfl)
theorem cl_PW_22 : Cond.classLink R_PW 22 "PatternWorks$Reader" ∈ lw_tbl := ab_t1 (List.mem_of_getElem? (i := 60) rfl)
theorem cl_RD_9 : Cond.classLink R_RD 9 "PatternWorks$Text" ∈ lw_tbl := ab_t1 (List.mem_of_getElem? (i := 66) rfl)
theorem cl_TX_9 : Cond.classLink R_TX 9 "PatternWorks$CharSet" ∈ lw_tbl := ab_t1 (List.mem_of_getElem? (i := 72) rfl)
theorem cl_RD_18 : Cond.classLink R_RD 18 "PatternWorks$Part" ∈ lw_tbl := ab_t1 (List.mem_of_getElem? (i := 123) rfl)
theorem cl_PW_29 : Cond.classLink R_PW 29 "PatternWorks$Program" ∈ lw_tbl := ab_t1 (List.mem_of_getElem? (i := 224) rfl)
theorem cl_PW_35 : Cond.classLink R_PW 35 "PatternWorks$Subject" ∈ lw_tbl := ab_t1 (List.mem_of_getElem? (i := 226) rfl)
theorem cl_PW_45 : Cond.classLink R_PW 45 "PatternWorks$Threads" ∈ lw_tbl := ab_t2 (List.mem_of_getElem? (i := 35) rfl)
theorem cl_PW_52 : Cond.classLink R_PW 52 "PatternWorks$Marks" ∈ lw_tbl := ab_t2 (List.mem_of_getElem? (i := 94) rfl)
theorem cl_PW_59 : Cond.classLink R_PW 59 "PatternWorks$OneMind" ∈ lw_tbl := ab_t2 (List.mem_of_getElem? (i := 141) rfl)
theorem cl_OM_21 : Cond.classLink R_OM 21 "PatternWorks$CharSet" ∈ lw_tbl := ab_t2 (List.mem_of_getElem? (i := 147) rfl)
theorem cl_PW_66 : Cond.classLink R_PW 66 "PatternWorks$States" ∈ lw_tbl := ab_t2 (List.mem_of_getElem? (i := 196) rfl)
theorem cl_AR_317 : Cond.classLink R_AR 317 "[I" ∈ lw_tbl := ab_t3 (List.mem_of_getElem? (i := 111) rfl)
theorem cl_AR_43 : Cond.classLink R_AR 43 "java/lang/IllegalArgumentException" ∈ lw_tbl := ab_t3 (List.mem_of_getElem? (i := 236) rfl)
theorem cl_AR_45 : Cond.classLink R_AR 45 "java/lang/StringBuilder" ∈ lw_tbl := ab_t4 (List.mem_of_getElem? (i := 35) rfl)
theorem cl_AR_311 : Cond.classLink R_AR 311 "[B" ∈ lw_tbl := ab_t4 (List.mem_of_getElem? (i := 103) rfl)
theorem cl_LA_13 : Cond.classLink R_LA 13 "java/lang/IllegalArgumentException" ∈ lw_tbl := ab_t6 (List.mem_of_getElem? (i := 25) rfl)
theorem cl_PW_109 : Cond.classLink R_PW 109 "java/lang/IllegalArgumentException" ∈ lw_tbl := ab_t6 (List.mem_of_getElem? (i := 30) rfl)
theorem cl_LA_34 : Cond.classLink R_LA 34 "PatternWorksModel" ∈ lw_tbl := ab_t8 (List.mem_of_getElem? (i := 11) rfl)
def y_AR_copyOf : MethodName := ⟨"java/util/Arrays", "copyOf", "([II)[I"⟩
abbrev b_AR_copyOf : ByteArray := prog_28_method_123_code
theorem m_AR_copyOf : ab_mt y_AR_copyOf b_AR_copyOf 3 (some (.array .int)) 2 := ⟨by decide, ab_t3 (List.mem_of_getElem? (i := 104) rfl), ab_t1 (List.mem_of_getElem? (i := 12) rfl), ⟨by decide +kernel, by decide +kernel⟩, by decide +kernel⟩
theorem st_AR_copyOf : Cond.static y_AR_copyOf ∈ lw_tbl := ab_t3 (List.mem_of_getElem? (i := 103) rfl)
def y_AR_fill : MethodName := ⟨"java/util/Arrays", "fill", "([II)V"⟩
abbrev b_AR_fill : ByteArray := prog_28_method_103_code
theorem m_AR_fill : ab_mt y_AR_fill b_AR_fill 4 none 2 := ⟨by decide, ab_t3 (List.mem_of_getElem? (i := 20) rfl), ab_t1 (List.mem_of_getElem? (i := 12) rfl), ⟨by decide +kernel, by decide +kernel⟩, by decide +kernel⟩
theorem st_AR_fill : Cond.static y_AR_fill ∈ lw_tbl := ab_t3 (List.mem_of_getElem? (i := 19) rfl)
def y_AR_fillr : MethodName := ⟨"java/util/Arrays", "fill", "([IIII)V"⟩
abbrev b_AR_fillr : ByteArray := prog_28_method_104_code
theorem m_AR_fillr : ab_mt y_AR_fillr b_AR_fillr 5 none 4 := ⟨by decide, ab_t3 (List.mem_of_getElem? (i := 232) rfl), ab_t1 (List.mem_of_getElem? (i := 12) rfl), ⟨by decide +kernel, by decide +kernel⟩, by decide +kernel⟩
theorem st_AR_fillr : Cond.static y_AR_fillr ∈ lw_tbl := ab_t3 (List.mem_of_getElem? (i := 231) rfl)
def y_AR_rangeCheck : MethodName := ⟨"java/util/Arrays", "rangeCheck", "(III)V"⟩
abbrev b_AR_rangeCheck : ByteArray := prog_28_method_30_code
theorem m_AR_rangeCheck : ab_mt y_AR_rangeCheck b_AR_rangeCheck 3 none 3 := ⟨by decide, ab_t3 (List.mem_of_getElem? (i := 235) rfl), ab_t1 (List.mem_of_getElem? (i := 12) rfl), ⟨by decide +kernel, by decide +kernel⟩, by decide +kernel⟩
theorem st_AR_rangeCheck : Cond.static y_AR_rangeCheck ∈ lw_tbl := ab_t3 (List.mem_of_getElem? (i := 234) rfl)
def y_CS_add : MethodName := ⟨"PatternWorks$CharSet", "add", "(II)V"⟩
abbrev b_CS_add : ByteArray := prog_2_method_5_code
theorem m_CS_add : ab_mt y_CS_add b_CS_add 7 none 2 := ⟨by decide, ab_t5 (List.mem_of_getElem? (i := 171) rfl), ab_t1 (List.mem_of_getElem? (i := 5) rfl), ⟨by decide +kernel, by decide +kernel⟩, by decide +kernel⟩
theorem im_CS_add : Cond.instanceMethod y_CS_add ∈ lw_tbl := ab_t5 (List.mem_of_getElem? (i := 169) rfl)
theorem se_CS_add : Cond.selects "PatternWorks$CharSet" y_CS_add y_CS_add ∈ lw_tbl := ab_t5 (List.mem_of_getElem? (i := 170) rfl)
def y_CS_addAlike : MethodName := ⟨"PatternWorks$CharSet", "addAlike", "(II)V"⟩
abbrev b_CS_addAlike : ByteArray := prog_2_method_6_code
theorem m_CS_addAlike : ab_mt y_CS_addAlike b_CS_addAlike 6 none 2 := ⟨by decide, ab_t6 (List.mem_of_getElem? (i := 104) rfl), ab_t1 (List.mem_of_getElem? (i := 5) rfl), ⟨by decide +kernel, by decide +kernel⟩, by decide +kernel⟩
theorem im_CS_addAlike : Cond.instanceMethod y_CS_addAlike ∈ lw_tbl := ab_t6 (List.mem_of_getElem? (i := 102) rfl)
theorem se_CS_addAlike : Cond.selects "PatternWorks$CharSet" y_CS_addAlike y_CS_addAlike ∈ lw_tbl := ab_t6 (List.mem_of_getElem? (i := 103) rfl)
def y_CS_addAll : MethodName := ⟨"PatternWorks$CharSet", "addAll", "([IZ)V"⟩
abbrev b_CS_addAll : ByteArray := prog_2_method_8_code
theorem m_CS_addAll : ab_mt y_CS_addAll b_CS_addAll 5 none 2 := ⟨by decide, ab_t6 (List.mem_of_getElem? (i := 122) rfl), ab_t1 (List.mem_of_getElem? (i := 5) rfl), ⟨by decide +kernel, by decide +kernel⟩, by decide +kernel⟩
theorem im_CS_addAll : Cond.instanceMethod y_CS_addAll ∈ lw_tbl := ab_t6 (List.mem_of_getElem? (i := 120) rfl)
theorem se_CS_addAll : Cond.selects "PatternWorks$CharSet" y_CS_addAll y_CS_addAll ∈ lw_tbl := ab_t6 (List.mem_of_getElem? (i := 121) rfl)
def y_CS_addMoved : MethodName := ⟨"PatternWorks$CharSet", "addMoved", "(III)V"⟩
abbrev b_CS_addMoved : ByteArray := prog_2_method_7_code
theorem m_CS_addMoved : ab_mt y_CS_addMoved b_CS_addMoved 4 none 3 := ⟨by decide, ab_t6 (List.mem_of_getElem? (i := 111) rfl), ab_t1 (List.mem_of_getElem? (i := 5) rfl), ⟨by decide +kernel, by decide +kernel⟩, by decide +kernel⟩
theorem im_CS_addMoved : Cond.instanceMethod y_CS_addMoved ∈ lw_tbl := ab_t6 (List.mem_of_getElem? (i := 110) rfl)
theorem se_CS_addMoved : Cond.selects "PatternWorks$CharSet" y_CS_addMoved y_CS_addMoved ∈ lw_tbl := ab_t0 (List.mem_of_getElem? (i := 46) rfl)
def y_CS_clear : MethodName := ⟨"PatternWorks$CharSet", "clear", "()V"⟩
abbrev b_CS_clear : ByteArray := prog_2_method_2_code
theorem m_CS_clear : ab_mt y_CS_clear b_CS_clear 1 none 0 := ⟨by decide, ab_t5 (List.mem_of_getElem? (i := 151) rfl), ab_t1 (List.mem_of_getElem? (i := 5) rfl), ⟨by decide +kernel, by decide +kernel⟩, by decide +kernel⟩
theorem im_CS_clear : Cond.instanceMethod y_CS_clear ∈ lw_tbl := ab_t5 (List.mem_of_getElem? (i := 149) rfl)
theorem se_CS_clear : Cond.selects "PatternWorks$CharSet" y_CS_clear y_CS_clear ∈ lw_tbl := ab_t5 (List.mem_of_getElem? (i := 150) rfl)
def y_CS_init : MethodName := ⟨"PatternWorks$CharSet", "<init>", "()V"⟩
abbrev b_CS_init : ByteArray := prog_2_method_1_code
theorem m_CS_init : ab_mt y_CS_init b_CS_init 1 none 0 := ⟨by decide, ab_t1 (List.mem_of_getElem? (i := 76) rfl), ab_t1 (List.mem_of_getElem? (i := 5) rfl), ⟨by decide +kernel, by decide +kernel⟩, by decide +kernel⟩
theorem im_CS_init : Cond.instanceMethod y_CS_init ∈ lw_tbl := ab_t1 (List.mem_of_getElem? (i := 75) rfl)
def y_CS_meets : MethodName := ⟨"PatternWorks$CharSet", "meets", "(II)Z"⟩
abbrev b_CS_meets : ByteArray := prog_2_method_4_code
theorem m_CS_meets : ab_mt y_CS_meets b_CS_meets 4 (some (.boolean)) 2 := ⟨by decide, ab_t5 (List.mem_of_getElem? (i := 163) rfl), ab_t1 (List.mem_of_getElem? (i := 5) rfl), ⟨by decide +kernel, by decide +kernel⟩, by decide +kernel⟩
theorem im_CS_meets : Cond.instanceMethod y_CS_meets ∈ lw_tbl := ab_t5 (List.mem_of_getElem? (i := 161) rfl)
theorem se_CS_meets : Cond.selects "PatternWorks$CharSet" y_CS_meets y_CS_meets ∈ lw_tbl := ab_t5 (List.mem_of_getElem? (i := 162) rfl)
def y_CS_rangeFrom : MethodName := ⟨"PatternWorks$CharSet", "rangeFrom", "(I)I"⟩
abbrev b_CS_rangeFrom : ByteArray := prog_2_method_3_code
theorem m_CS_rangeFrom : ab_mt y_CS_rangeFrom b_CS_rangeFrom 6 (some (.int)) 1 := ⟨by decide, ab_t5 (List.mem_of_getElem? (i := 167) rfl), ab_t1 (List.mem_of_getElem? (i := 5) rfl), ⟨by decide +kernel, by decide +kernel⟩, by decide +kernel⟩
theorem im_CS_rangeFrom : Cond.instanceMethod y_CS_rangeFrom ∈ lw_tbl := ab_t5 (List.mem_of_getElem? (i := 166) rfl)
theorem se_CS_rangeFrom : Cond.selects "PatternWorks$CharSet" y_CS_rangeFrom y_CS_rangeFrom ∈ lw_tbl := ab_t0 (List.mem_of_getElem? (i := 29) rfl)
def y_CS_ranges : MethodName := ⟨"PatternWorks$CharSet", "ranges", "(Z)[I"⟩
abbrev b_CS_ranges : ByteArray := prog_2_method_9_code
theorem m_CS_ranges : ab_mt y_CS_ranges b_CS_ranges 6 (some (.array .int)) 1 := ⟨by decide, ab_t6 (List.mem_of_getElem? (i := 117) rfl), ab_t1 (List.mem_of_getElem? (i := 5) rfl), ⟨by decide +kernel, by decide +kernel⟩, by decide +kernel⟩
theorem im_CS_ranges : Cond.instanceMethod y_CS_ranges ∈ lw_tbl := ab_t6 (List.mem_of_getElem? (i := 115) rfl)
theorem se_CS_ranges : Cond.selects "PatternWorks$CharSet" y_CS_ranges y_CS_ranges ∈ lw_tbl := ab_t6 (List.mem_of_getElem? (i := 116) rfl)
def y_LA_all : MethodName := ⟨"PatternWorksLaw", "all", "(LPatternWorks;I[J)I"⟩
abbrev b_LA_all : ByteArray := method_5_code
theorem m_LA_all : ab_mtW y_LA_all b_LA_all 4 (some (.int)) [(0, 9, 12, 13)] 3 := ⟨by decide, ab_t7 (List.mem_of_getElem? (i := 191) rfl), ab_t1 (List.mem_of_getElem? (i := 0) rfl), ⟨by decide +kernel, by decide +kernel⟩, by decide +kernel⟩
theorem st_LA_all : Cond.static y_LA_all ∈ lw_tbl := ab_t7 (List.mem_of_getElem? (i := 190) rfl)
def y_LA_compile : MethodName := ⟨"PatternWorksLaw", "compile", "(LPatternWorks;II[J)I"⟩
abbrev b_LA_compile : ByteArray := method_3_code
theorem m_LA_compile : ab_mtW y_LA_compile b_LA_compile 5 (some (.int)) [(0, 10, 13, 13)] 4 := ⟨by decide, ab_t6 (List.mem_of_getElem? (i := 24) rfl), ab_t1 (List.mem_of_getElem? (i := 0) rfl), ⟨by decide +kernel, by decide +kernel⟩, by decide +kernel⟩
theorem st_LA_compile : Cond.static y_LA_compile ∈ lw_tbl := ab_t6 (List.mem_of_getElem? (i := 23) rfl)
def y_LA_keep : MethodName := ⟨"PatternWorksLaw", "keep", "(LPatternWorks;I)I"⟩
abbrev b_LA_keep : ByteArray := method_8_code
theorem m_LA_keep : ab_mtW y_LA_keep b_LA_keep 3 (some (.int)) [(0, 5, 8, 13)] 2 := ⟨by decide, ab_t8 (List.mem_of_getElem? (i := 1) rfl), ab_t1 (List.mem_of_getElem? (i := 0) rfl), ⟨by decide +kernel, by decide +kernel⟩, by decide +kernel⟩
theorem st_LA_keep : Cond.static y_LA_keep ∈ lw_tbl := ab_t8 (List.mem_of_getElem? (i := 0) rfl)
def y_LA_match : MethodName := ⟨"PatternWorksLaw", "match", "(LPatternWorks;IIII[J)I"⟩
abbrev b_LA_match : ByteArray := method_4_code
theorem m_LA_match : ab_mtW y_LA_match b_LA_match 7 (some (.int)) [(0, 14, 17, 13)] 6 := ⟨by decide, ab_t7 (List.mem_of_getElem? (i := 181) rfl), ab_t1 (List.mem_of_getElem? (i := 0) rfl), ⟨by decide +kernel, by decide +kernel⟩, by decide +kernel⟩
theorem st_LA_match : Cond.static y_LA_match ∈ lw_tbl := ab_t7 (List.mem_of_getElem? (i := 180) rfl)
def y_LA_replace : MethodName := ⟨"PatternWorksLaw", "replace", "(LPatternWorks;I[J)I"⟩
abbrev b_LA_replace : ByteArray := method_6_code
theorem m_LA_replace : ab_mtW y_LA_replace b_LA_replace 4 (some (.int)) [(0, 9, 12, 13)] 3 := ⟨by decide, ab_t7 (List.mem_of_getElem? (i := 204) rfl), ab_t1 (List.mem_of_getElem? (i := 0) rfl), ⟨by decide +kernel, by decide +kernel⟩, by decide +kernel⟩
theorem st_LA_replace : Cond.static y_LA_replace ∈ lw_tbl := ab_t7 (List.mem_of_getElem? (i := 203) rfl)
def y_LA_split : MethodName := ⟨"PatternWorksLaw", "split", "(LPatternWorks;I[J)I"⟩
abbrev b_LA_split : ByteArray := method_7_code
theorem m_LA_split : ab_mtW y_LA_split b_LA_split 4 (some (.int)) [(0, 9, 12, 13)] 3 := ⟨by decide, ab_t7 (List.mem_of_getElem? (i := 234) rfl), ab_t1 (List.mem_of_getElem? (i := 0) rfl), ⟨by decide +kernel, by decide +kernel⟩, by decide +kernel⟩
theorem st_LA_split : Cond.static y_LA_split ∈ lw_tbl := ab_t7 (List.mem_of_getElem? (i := 233) rfl)
def y_MK_arrive : MethodName := ⟨"PatternWorks$Marks", "arrive", "(I)V"⟩
abbrev b_MK_arrive : ByteArray := prog_3_method_6_code
theorem m_MK_arrive : ab_mt y_MK_arrive b_MK_arrive 2 none 1 := ⟨by decide, ab_t5 (List.mem_of_getElem? (i := 237) rfl), ab_t1 (List.mem_of_getElem? (i := 9) rfl), ⟨by decide +kernel, by decide +kernel⟩, by decide +kernel⟩
theorem im_MK_arrive : Cond.instanceMethod y_MK_arrive ∈ lw_tbl := ab_t5 (List.mem_of_getElem? (i := 236) rfl)
theorem se_MK_arrive : Cond.selects "PatternWorks$Marks" y_MK_arrive y_MK_arrive ∈ lw_tbl := ab_t0 (List.mem_of_getElem? (i := 37) rfl)
def y_MK_begin : MethodName := ⟨"PatternWorks$Marks", "begin", "(LPatternWorks$Program;LPatternWorks$Subject;II[I)V"⟩
abbrev b_MK_begin : ByteArray := prog_3_method_2_code
theorem m_MK_begin : ab_mt y_MK_begin b_MK_begin 7 none 5 := ⟨by decide, ab_t5 (List.mem_of_getElem? (i := 202) rfl), ab_t1 (List.mem_of_getElem? (i := 9) rfl), ⟨by decide +kernel, by decide +kernel⟩, by decide +kernel⟩
theorem im_MK_begin : Cond.instanceMethod y_MK_begin ∈ lw_tbl := ab_t5 (List.mem_of_getElem? (i := 200) rfl)
theorem se_MK_begin : Cond.selects "PatternWorks$Marks" y_MK_begin y_MK_begin ∈ lw_tbl := ab_t5 (List.mem_of_getElem? (i := 201) rfl)
def y_MK_find : MethodName := ⟨"PatternWorks$Marks", "find", "(I)I"⟩
abbrev b_MK_find : ByteArray := prog_3_method_3_code
theorem m_MK_find : ab_mt y_MK_find b_MK_find 4 (some (.int)) 1 := ⟨by decide, ab_t5 (List.mem_of_getElem? (i := 210) rfl), ab_t1 (List.mem_of_getElem? (i := 9) rfl), ⟨by decide +kernel, by decide +kernel⟩, by decide +kernel⟩
theorem im_MK_find : Cond.instanceMethod y_MK_find ∈ lw_tbl := ab_t5 (List.mem_of_getElem? (i := 208) rfl)
theorem se_MK_find : Cond.selects "PatternWorks$Marks" y_MK_find y_MK_find ∈ lw_tbl := ab_t5 (List.mem_of_getElem? (i := 209) rfl)
def y_MK_init : MethodName := ⟨"PatternWorks$Marks", "<init>", "()V"⟩
abbrev b_MK_init : ByteArray := prog_3_method_1_code
theorem m_MK_init : ab_mt y_MK_init b_MK_init 1 none 0 := ⟨by decide, ab_t2 (List.mem_of_getElem? (i := 98) rfl), ab_t1 (List.mem_of_getElem? (i := 9) rfl), ⟨by decide +kernel, by decide +kernel⟩, by decide +kernel⟩
theorem im_MK_init : Cond.instanceMethod y_MK_init ∈ lw_tbl := ab_t2 (List.mem_of_getElem? (i := 97) rfl)
def y_MK_mark : MethodName := ⟨"PatternWorks$Marks", "mark", "(II)Z"⟩
abbrev b_MK_mark : ByteArray := prog_3_method_8_code
theorem m_MK_mark : ab_mt y_MK_mark b_MK_mark 6 (some (.boolean)) 2 := ⟨by decide, ab_t5 (List.mem_of_getElem? (i := 231) rfl), ab_t1 (List.mem_of_getElem? (i := 9) rfl), ⟨by decide +kernel, by decide +kernel⟩, by decide +kernel⟩
theorem im_MK_mark : Cond.instanceMethod y_MK_mark ∈ lw_tbl := ab_t5 (List.mem_of_getElem? (i := 230) rfl)
theorem se_MK_mark : Cond.selects "PatternWorks$Marks" y_MK_mark y_MK_mark ∈ lw_tbl := ab_t0 (List.mem_of_getElem? (i := 36) rfl)
def y_MK_push : MethodName := ⟨"PatternWorks$Marks", "push", "(I)V"⟩
abbrev b_MK_push : ByteArray := prog_3_method_7_code
theorem m_MK_push : ab_mt y_MK_push b_MK_push 2 none 1 := ⟨by decide, ab_t5 (List.mem_of_getElem? (i := 219) rfl), ab_t1 (List.mem_of_getElem? (i := 9) rfl), ⟨by decide +kernel, by decide +kernel⟩, by decide +kernel⟩
theorem im_MK_push : Cond.instanceMethod y_MK_push ∈ lw_tbl := ab_t5 (List.mem_of_getElem? (i := 218) rfl)
theorem se_MK_push : Cond.selects "PatternWorks$Marks" y_MK_push y_MK_push ∈ lw_tbl := ab_t0 (List.mem_of_getElem? (i := 34) rfl)
def y_MK_tryFrom : MethodName := ⟨"PatternWorks$Marks", "tryFrom", "(I)V"⟩
abbrev b_MK_tryFrom : ByteArray := prog_3_method_4_code
theorem m_MK_tryFrom : ab_mt y_MK_tryFrom b_MK_tryFrom 7 none 1 := ⟨by decide, ab_t5 (List.mem_of_getElem? (i := 214) rfl), ab_t1 (List.mem_of_getElem? (i := 9) rfl), ⟨by decide +kernel, by decide +kernel⟩, by decide +kernel⟩
theorem im_MK_tryFrom : Cond.instanceMethod y_MK_tryFrom ∈ lw_tbl := ab_t5 (List.mem_of_getElem? (i := 213) rfl)
theorem se_MK_tryFrom : Cond.selects "PatternWorks$Marks" y_MK_tryFrom y_MK_tryFrom ∈ lw_tbl := ab_t0 (List.mem_of_getElem? (i := 33) rfl)
def y_MK_walk : MethodName := ⟨"PatternWorks$Marks", "walk", "(II)V"⟩
abbrev b_MK_walk : ByteArray := prog_3_method_5_code
theorem m_MK_walk : ab_mt y_MK_walk b_MK_walk 10 none 2 := ⟨by decide, ab_t5 (List.mem_of_getElem? (i := 227) rfl), ab_t1 (List.mem_of_getElem? (i := 9) rfl), ⟨by decide +kernel, by decide +kernel⟩, by decide +kernel⟩
theorem im_MK_walk : Cond.instanceMethod y_MK_walk ∈ lw_tbl := ab_t5 (List.mem_of_getElem? (i := 226) rfl)
theorem se_MK_walk : Cond.selects "PatternWorks$Marks" y_MK_walk y_MK_walk ∈ lw_tbl := ab_t0 (List.mem_of_getElem? (i := 35) rfl)
def y_MO_about : MethodName := ⟨"PatternWorksModel", "about", "(II)I"⟩
abbrev b_MO_about : ByteArray := prog_14_method_74_code
theorem m_MO_about : ab_mt y_MO_about b_MO_about 3 (some (.int)) 2 := ⟨by decide, ab_t10 (List.mem_of_getElem? (i := 128) rfl), ab_t1 (List.mem_of_getElem? (i := 13) rfl), ⟨by decide +kernel, by decide +kernel⟩, by decide +kernel⟩
theorem im_MO_about : Cond.instanceMethod y_MO_about ∈ lw_tbl := ab_t10 (List.mem_of_getElem? (i := 126) rfl)
theorem se_MO_about : Cond.selects "PatternWorksModel" y_MO_about y_MO_about ∈ lw_tbl := ab_t10 (List.mem_of_getElem? (i := 127) rfl)
def y_MO_addPiece : MethodName := ⟨"PatternWorksModel", "addPiece", "(II)V"⟩
abbrev b_MO_addPiece : ByteArray := prog_14_method_96_code
theorem m_MO_addPiece : ab_mt y_MO_addPiece b_MO_addPiece 3 none 2 := ⟨by decide, ab_t10 (List.mem_of_getElem? (i := 222) rfl), ab_t1 (List.mem_of_getElem? (i := 13) rfl), ⟨by decide +kernel, by decide +kernel⟩, by decide +kernel⟩
theorem im_MO_addPiece : Cond.instanceMethod y_MO_addPiece ∈ lw_tbl := ab_t10 (List.mem_of_getElem? (i := 221) rfl)
theorem se_MO_addPiece : Cond.selects "PatternWorksModel" y_MO_addPiece y_MO_addPiece ∈ lw_tbl := ab_t0 (List.mem_of_getElem? (i := 147) rfl)
def y_MO_addStep : MethodName := ⟨"PatternWorksModel", "addStep", "(III)I"⟩
abbrev b_MO_addStep : ByteArray := prog_14_method_54_code
theorem m_MO_addStep : ab_mt y_MO_addStep b_MO_addStep 5 (some (.int)) 3 := ⟨by decide, ab_t10 (List.mem_of_getElem? (i := 60) rfl), ab_t1 (List.mem_of_getElem? (i := 13) rfl), ⟨by decide +kernel, by decide +kernel⟩, by decide +kernel⟩
theorem im_MO_addStep : Cond.instanceMethod y_MO_addStep ∈ lw_tbl := ab_t10 (List.mem_of_getElem? (i := 59) rfl)
theorem se_MO_addStep : Cond.selects "PatternWorksModel" y_MO_addStep y_MO_addStep ∈ lw_tbl := ab_t0 (List.mem_of_getElem? (i := 117) rfl)
def y_MO_all : MethodName := ⟨"PatternWorksModel", "all", "(I)I"⟩
abbrev b_MO_all : ByteArray := prog_14_method_94_code
theorem m_MO_all : ab_mt y_MO_all b_MO_all 2 (some (.int)) 1 := ⟨by decide, ab_t10 (List.mem_of_getElem? (i := 202) rfl), ab_t1 (List.mem_of_getElem? (i := 13) rfl), ⟨by decide +kernel, by decide +kernel⟩, by decide +kernel⟩
theorem im_MO_all : Cond.instanceMethod y_MO_all ∈ lw_tbl := ab_t10 (List.mem_of_getElem? (i := 200) rfl)
theorem se_MO_all : Cond.selects "PatternWorksModel" y_MO_all y_MO_all ∈ lw_tbl := ab_t10 (List.mem_of_getElem? (i := 201) rfl)
def y_MO_atMost : MethodName := ⟨"PatternWorksModel", "atMost", "(J)J"⟩
abbrev b_MO_atMost : ByteArray := prog_14_method_18_code
theorem m_MO_atMost : ab_mt y_MO_atMost b_MO_atMost 2 (some (.long)) 1 := ⟨by decide, ab_t10 (List.mem_of_getElem? (i := 36) rfl), ab_t1 (List.mem_of_getElem? (i := 13) rfl), ⟨by decide +kernel, by decide +kernel⟩, by decide +kernel⟩
theorem st_MO_atMost : Cond.static y_MO_atMost ∈ lw_tbl := ab_t10 (List.mem_of_getElem? (i := 35) rfl)
def y_MO_begin : MethodName := ⟨"PatternWorksModel", "begin", "()V"⟩
abbrev b_MO_begin : ByteArray := prog_14_method_10_code
theorem m_MO_begin : ab_mt y_MO_begin b_MO_begin 2 none 0 := ⟨by decide, ab_t9 (List.mem_of_getElem? (i := 163) rfl), ab_t1 (List.mem_of_getElem? (i := 13) rfl), ⟨by decide +kernel, by decide +kernel⟩, by decide +kernel⟩
theorem im_MO_begin : Cond.instanceMethod y_MO_begin ∈ lw_tbl := ab_t9 (List.mem_of_getElem? (i := 162) rfl)
theorem se_MO_begin : Cond.selects "PatternWorksModel" y_MO_begin y_MO_begin ∈ lw_tbl := ab_t0 (List.mem_of_getElem? (i := 88) rfl)
def y_MO_beginAll : MethodName := ⟨"PatternWorksModel", "beginAll", "(I)V"⟩
abbrev b_MO_beginAll : ByteArray := prog_14_method_92_code
theorem m_MO_beginAll : ab_mt y_MO_beginAll b_MO_beginAll 2 none 1 := ⟨by decide, ab_t10 (List.mem_of_getElem? (i := 206) rfl), ab_t1 (List.mem_of_getElem? (i := 13) rfl), ⟨by decide +kernel, by decide +kernel⟩, by decide +kernel⟩
theorem im_MO_beginAll : Cond.instanceMethod y_MO_beginAll ∈ lw_tbl := ab_t10 (List.mem_of_getElem? (i := 205) rfl)
theorem se_MO_beginAll : Cond.selects "PatternWorksModel" y_MO_beginAll y_MO_beginAll ∈ lw_tbl := ab_t0 (List.mem_of_getElem? (i := 145) rfl)
def y_MO_bit : MethodName := ⟨"PatternWorksModel", "bit", "([JII)Z"⟩
abbrev b_MO_bit : ByteArray := prog_14_method_77_code
theorem m_MO_bit : ab_mt y_MO_bit b_MO_bit 3 (some (.boolean)) 3 := ⟨by decide, ab_t10 (List.mem_of_getElem? (i := 159) rfl), ab_t1 (List.mem_of_getElem? (i := 13) rfl), ⟨by decide +kernel, by decide +kernel⟩, by decide +kernel⟩
theorem st_MO_bit : Cond.static y_MO_bit ∈ lw_tbl := ab_t10 (List.mem_of_getElem? (i := 158) rfl)
def y_MO_byteOf : MethodName := ⟨"PatternWorksModel", "byteOf", "([III)I"⟩
abbrev b_MO_byteOf : ByteArray := prog_14_method_5_code
theorem m_MO_byteOf : ab_mt y_MO_byteOf b_MO_byteOf 3 (some (.int)) 3 := ⟨by decide, ab_t9 (List.mem_of_getElem? (i := 237) rfl), ab_t1 (List.mem_of_getElem? (i := 13) rfl), ⟨by decide +kernel, by decide +kernel⟩, by decide +kernel⟩
theorem st_MO_byteOf : Cond.static y_MO_byteOf ∈ lw_tbl := ab_t9 (List.mem_of_getElem? (i := 236) rfl)
def y_MO_character : MethodName := ⟨"PatternWorksModel", "character", "([III)I"⟩
abbrev b_MO_character : ByteArray := prog_14_method_6_code
theorem m_MO_character : ab_mt y_MO_character b_MO_character 11 (some (.int)) 3 := ⟨by decide, ab_t9 (List.mem_of_getElem? (i := 234) rfl), ab_t1 (List.mem_of_getElem? (i := 13) rfl), ⟨by decide +kernel, by decide +kernel⟩, by decide +kernel⟩
theorem im_MO_character : Cond.instanceMethod y_MO_character ∈ lw_tbl := ab_t9 (List.mem_of_getElem? (i := 233) rfl)
theorem se_MO_character : Cond.selects "PatternWorksModel" y_MO_character y_MO_character ∈ lw_tbl := ab_t0 (List.mem_of_getElem? (i := 104) rfl)
def y_MO_close : MethodName := ⟨"PatternWorksModel", "close", "(Z)I"⟩
abbrev b_MO_close : ByteArray := prog_14_method_16_code
theorem m_MO_close : ab_mt y_MO_close b_MO_close 6 (some (.int)) 1 := ⟨by decide, ab_t9 (List.mem_of_getElem? (i := 182) rfl), ab_t1 (List.mem_of_getElem? (i := 13) rfl), ⟨by decide +kernel, by decide +kernel⟩, by decide +kernel⟩
theorem im_MO_close : Cond.instanceMethod y_MO_close ∈ lw_tbl := ab_t9 (List.mem_of_getElem? (i := 181) rfl)
theorem se_MO_close : Cond.selects "PatternWorksModel" y_MO_close y_MO_close ∈ lw_tbl := ab_t0 (List.mem_of_getElem? (i := 92) rfl)
def y_MO_closeAll : MethodName := ⟨"PatternWorksModel", "closeAll", "()I"⟩
abbrev b_MO_closeAll : ByteArray := prog_14_method_27_code
theorem m_MO_closeAll : ab_mt y_MO_closeAll b_MO_closeAll 4 (some (.int)) 0 := ⟨by decide, ab_t10 (List.mem_of_getElem? (i := 29) rfl), ab_t1 (List.mem_of_getElem? (i := 13) rfl), ⟨by decide +kernel, by decide +kernel⟩, by decide +kernel⟩
theorem im_MO_closeAll : Cond.instanceMethod y_MO_closeAll ∈ lw_tbl := ab_t10 (List.mem_of_getElem? (i := 28) rfl)
theorem se_MO_closeAll : Cond.selects "PatternWorksModel" y_MO_closeAll y_MO_closeAll ∈ lw_tbl := ab_t0 (List.mem_of_getElem? (i := 111) rfl)
def y_MO_closeGroup : MethodName := ⟨"PatternWorksModel", "closeGroup", "()V"⟩
abbrev b_MO_closeGroup : ByteArray := prog_14_method_49_code
theorem m_MO_closeGroup : ab_mt y_MO_closeGroup b_MO_closeGroup 4 none 0 := ⟨by decide, ab_t10 (List.mem_of_getElem? (i := 25) rfl), ab_t1 (List.mem_of_getElem? (i := 13) rfl), ⟨by decide +kernel, by decide +kernel⟩, by decide +kernel⟩
theorem im_MO_closeGroup : Cond.instanceMethod y_MO_closeGroup ∈ lw_tbl := ab_t10 (List.mem_of_getElem? (i := 24) rfl)
theorem se_MO_closeGroup : Cond.selects "PatternWorksModel" y_MO_closeGroup y_MO_closeGroup ∈ lw_tbl := ab_t0 (List.mem_of_getElem? (i := 110) rfl)
def y_MO_closeRound : MethodName := ⟨"PatternWorksModel", "closeRound", "(I)V"⟩
abbrev b_MO_closeRound : ByteArray := prog_14_method_68_code
theorem m_MO_closeRound : ab_mt y_MO_closeRound b_MO_closeRound 6 none 1 := ⟨by decide, ab_t10 (List.mem_of_getElem? (i := 116) rfl), ab_t1 (List.mem_of_getElem? (i := 13) rfl), ⟨by decide +kernel, by decide +kernel⟩, by decide +kernel⟩
theorem im_MO_closeRound : Cond.instanceMethod y_MO_closeRound ∈ lw_tbl := ab_t10 (List.mem_of_getElem? (i := 115) rfl)
theorem se_MO_closeRound : Cond.selects "PatternWorksModel" y_MO_closeRound y_MO_closeRound ∈ lw_tbl := ab_t0 (List.mem_of_getElem? (i := 131) rfl)
def y_MO_closeRow : MethodName := ⟨"PatternWorksModel", "closeRow", "()V"⟩
abbrev b_MO_closeRow : ByteArray := prog_14_method_26_code
theorem m_MO_closeRow : ab_mt y_MO_closeRow b_MO_closeRow 4 none 0 := ⟨by decide, ab_t10 (List.mem_of_getElem? (i := 33) rfl), ab_t1 (List.mem_of_getElem? (i := 13) rfl), ⟨by decide +kernel, by decide +kernel⟩, by decide +kernel⟩
theorem im_MO_closeRow : Cond.instanceMethod y_MO_closeRow ∈ lw_tbl := ab_t10 (List.mem_of_getElem? (i := 32) rfl)
theorem se_MO_closeRow : Cond.selects "PatternWorksModel" y_MO_closeRow y_MO_closeRow ∈ lw_tbl := ab_t0 (List.mem_of_getElem? (i := 112) rfl)
def y_MO_compile : MethodName := ⟨"PatternWorksModel", "compile", "(II)I"⟩
abbrev b_MO_compile : ByteArray := prog_14_method_71_code
theorem m_MO_compile : ab_mt y_MO_compile b_MO_compile 6 (some (.int)) 2 := ⟨by decide, ab_t9 (List.mem_of_getElem? (i := 100) rfl), ab_t1 (List.mem_of_getElem? (i := 13) rfl), ⟨by decide +kernel, by decide +kernel⟩, by decide +kernel⟩
theorem im_MO_compile : Cond.instanceMethod y_MO_compile ∈ lw_tbl := ab_t9 (List.mem_of_getElem? (i := 98) rfl)
theorem se_MO_compile : Cond.selects "PatternWorksModel" y_MO_compile y_MO_compile ∈ lw_tbl := ab_t9 (List.mem_of_getElem? (i := 99) rfl)
def y_MO_control : MethodName := ⟨"PatternWorksModel", "control", "(I)I"⟩
abbrev b_MO_control : ByteArray := prog_14_method_34_code
theorem m_MO_control : ab_mt y_MO_control b_MO_control 1 (some (.int)) 1 := ⟨by decide, ab_t9 (List.mem_of_getElem? (i := 146) rfl), ab_t1 (List.mem_of_getElem? (i := 13) rfl), ⟨by decide +kernel, by decide +kernel⟩, by decide +kernel⟩
theorem st_MO_control : Cond.static y_MO_control ∈ lw_tbl := ab_t9 (List.mem_of_getElem? (i := 145) rfl)
def y_MO_done : MethodName := ⟨"PatternWorksModel", "done", "(I)V"⟩
abbrev b_MO_done : ByteArray := prog_14_method_57_code
theorem m_MO_done : ab_mt y_MO_done b_MO_done 2 none 1 := ⟨by decide, ab_t10 (List.mem_of_getElem? (i := 72) rfl), ab_t1 (List.mem_of_getElem? (i := 13) rfl), ⟨by decide +kernel, by decide +kernel⟩, by decide +kernel⟩
theorem im_MO_done : Cond.instanceMethod y_MO_done ∈ lw_tbl := ab_t10 (List.mem_of_getElem? (i := 71) rfl)
theorem se_MO_done : Cond.selects "PatternWorksModel" y_MO_done y_MO_done ∈ lw_tbl := ab_t0 (List.mem_of_getElem? (i := 120) rfl)
def y_MO_each : MethodName := ⟨"PatternWorksModel", "each", "(IIII)I"⟩
abbrev b_MO_each : ByteArray := prog_14_method_59_code
theorem m_MO_each : ab_mt y_MO_each b_MO_each 7 (some (.int)) 4 := ⟨by decide, ab_t10 (List.mem_of_getElem? (i := 84) rfl), ab_t1 (List.mem_of_getElem? (i := 13) rfl), ⟨by decide +kernel, by decide +kernel⟩, by decide +kernel⟩
theorem im_MO_each : Cond.instanceMethod y_MO_each ∈ lw_tbl := ab_t10 (List.mem_of_getElem? (i := 83) rfl)
theorem se_MO_each : Cond.selects "PatternWorksModel" y_MO_each y_MO_each ∈ lw_tbl := ab_t0 (List.mem_of_getElem? (i := 123) rfl)
def y_MO_eachOf : MethodName := ⟨"PatternWorksModel", "eachOf", "(III)I"⟩
abbrev b_MO_eachOf : ByteArray := prog_14_method_60_code
theorem m_MO_eachOf : ab_mt y_MO_eachOf b_MO_eachOf 6 (some (.int)) 3 := ⟨by decide, ab_t10 (List.mem_of_getElem? (i := 100) rfl), ab_t1 (List.mem_of_getElem? (i := 13) rfl), ⟨by decide +kernel, by decide +kernel⟩, by decide +kernel⟩
theorem im_MO_eachOf : Cond.instanceMethod y_MO_eachOf ∈ lw_tbl := ab_t10 (List.mem_of_getElem? (i := 99) rfl)
theorem se_MO_eachOf : Cond.selects "PatternWorksModel" y_MO_eachOf y_MO_eachOf ∈ lw_tbl := ab_t0 (List.mem_of_getElem? (i := 127) rfl)
def y_MO_end : MethodName := ⟨"PatternWorksModel", "end", "(I)I"⟩
abbrev b_MO_end : ByteArray := prog_14_method_4_code
theorem m_MO_end : ab_mt y_MO_end b_MO_end 3 (some (.int)) 1 := ⟨by decide, ab_t9 (List.mem_of_getElem? (i := 96) rfl), ab_t1 (List.mem_of_getElem? (i := 13) rfl), ⟨by decide +kernel, by decide +kernel⟩, by decide +kernel⟩
theorem im_MO_end : Cond.instanceMethod y_MO_end ∈ lw_tbl := ab_t9 (List.mem_of_getElem? (i := 94) rfl)
theorem se_MO_end : Cond.selects "PatternWorksModel" y_MO_end y_MO_end ∈ lw_tbl := ab_t9 (List.mem_of_getElem? (i := 95) rfl)
def y_MO_escape : MethodName := ⟨"PatternWorksModel", "escape", "(Z)I"⟩
abbrev b_MO_escape : ByteArray := prog_14_method_35_code
theorem m_MO_escape : ab_mt y_MO_escape b_MO_escape 5 (some (.int)) 1 := ⟨by decide, ab_t9 (List.mem_of_getElem? (i := 128) rfl), ab_t1 (List.mem_of_getElem? (i := 13) rfl), ⟨by decide +kernel, by decide +kernel⟩, by decide +kernel⟩
theorem im_MO_escape : Cond.instanceMethod y_MO_escape ∈ lw_tbl := ab_t9 (List.mem_of_getElem? (i := 127) rfl)
theorem se_MO_escape : Cond.selects "PatternWorksModel" y_MO_escape y_MO_escape ∈ lw_tbl := ab_t0 (List.mem_of_getElem? (i := 84) rfl)
def y_MO_fault : MethodName := ⟨"PatternWorksModel", "fault", "(I)I"⟩
abbrev b_MO_fault : ByteArray := prog_14_method_72_code
theorem m_MO_fault : ab_mt y_MO_fault b_MO_fault 2 (some (.int)) 1 := ⟨by decide, ab_t10 (List.mem_of_getElem? (i := 124) rfl), ab_t1 (List.mem_of_getElem? (i := 13) rfl), ⟨by decide +kernel, by decide +kernel⟩, by decide +kernel⟩
theorem im_MO_fault : Cond.instanceMethod y_MO_fault ∈ lw_tbl := ab_t10 (List.mem_of_getElem? (i := 122) rfl)
theorem se_MO_fault : Cond.selects "PatternWorksModel" y_MO_fault y_MO_fault ∈ lw_tbl := ab_t10 (List.mem_of_getElem? (i := 123) rfl)
def y_MO_feed : MethodName := ⟨"PatternWorksModel", "feed", "(IIIII)V"⟩
abbrev b_MO_feed : ByteArray := prog_14_method_3_code
theorem m_MO_feed : ab_mt y_MO_feed b_MO_feed 8 none 5 := ⟨by decide, ab_t9 (List.mem_of_getElem? (i := 92) rfl), ab_t1 (List.mem_of_getElem? (i := 13) rfl), ⟨by decide +kernel, by decide +kernel⟩, by decide +kernel⟩
theorem im_MO_feed : Cond.instanceMethod y_MO_feed ∈ lw_tbl := ab_t9 (List.mem_of_getElem? (i := 90) rfl)
theorem se_MO_feed : Cond.selects "PatternWorksModel" y_MO_feed y_MO_feed ∈ lw_tbl := ab_t9 (List.mem_of_getElem? (i := 91) rfl)
def y_MO_find : MethodName := ⟨"PatternWorksModel", "find", "(IIZ)Z"⟩
abbrev b_MO_find : ByteArray := prog_14_method_89_code
theorem m_MO_find : ab_mt y_MO_find b_MO_find 6 (some (.boolean)) 3 := ⟨by decide, ab_t10 (List.mem_of_getElem? (i := 190) rfl), ab_t1 (List.mem_of_getElem? (i := 13) rfl), ⟨by decide +kernel, by decide +kernel⟩, by decide +kernel⟩
theorem im_MO_find : Cond.instanceMethod y_MO_find ∈ lw_tbl := ab_t10 (List.mem_of_getElem? (i := 189) rfl)
theorem se_MO_find : Cond.selects "PatternWorksModel" y_MO_find y_MO_find ∈ lw_tbl := ab_t0 (List.mem_of_getElem? (i := 143) rfl)
def y_MO_flagOf : MethodName := ⟨"PatternWorksModel", "flagOf", "(I)I"⟩
abbrev b_MO_flagOf : ByteArray := prog_14_method_45_code
theorem m_MO_flagOf : ab_mt y_MO_flagOf b_MO_flagOf 1 (some (.int)) 1 := ⟨by decide, ab_t10 (List.mem_of_getElem? (i := 21) rfl), ab_t1 (List.mem_of_getElem? (i := 13) rfl), ⟨by decide +kernel, by decide +kernel⟩, by decide +kernel⟩
theorem st_MO_flagOf : Cond.static y_MO_flagOf ∈ lw_tbl := ab_t10 (List.mem_of_getElem? (i := 20) rfl)
def y_MO_found : MethodName := ⟨"PatternWorksModel", "found", "(II)I"⟩
abbrev b_MO_found : ByteArray := prog_14_method_95_code
theorem m_MO_found : ab_mt y_MO_found b_MO_found 3 (some (.int)) 2 := ⟨by decide, ab_t10 (List.mem_of_getElem? (i := 214) rfl), ab_t1 (List.mem_of_getElem? (i := 13) rfl), ⟨by decide +kernel, by decide +kernel⟩, by decide +kernel⟩
theorem im_MO_found : Cond.instanceMethod y_MO_found ∈ lw_tbl := ab_t10 (List.mem_of_getElem? (i := 212) rfl)
theorem se_MO_found : Cond.selects "PatternWorksModel" y_MO_found y_MO_found ∈ lw_tbl := ab_t10 (List.mem_of_getElem? (i := 213) rfl)
def y_MO_fromEnd : MethodName := ⟨"PatternWorksModel", "fromEnd", "(II)I"⟩
abbrev b_MO_fromEnd : ByteArray := prog_14_method_62_code
theorem m_MO_fromEnd : ab_mt y_MO_fromEnd b_MO_fromEnd 6 (some (.int)) 2 := ⟨by decide, ab_t10 (List.mem_of_getElem? (i := 92) rfl), ab_t1 (List.mem_of_getElem? (i := 13) rfl), ⟨by decide +kernel, by decide +kernel⟩, by decide +kernel⟩
theorem im_MO_fromEnd : Cond.instanceMethod y_MO_fromEnd ∈ lw_tbl := ab_t10 (List.mem_of_getElem? (i := 91) rfl)
theorem se_MO_fromEnd : Cond.selects "PatternWorksModel" y_MO_fromEnd y_MO_fromEnd ∈ lw_tbl := ab_t0 (List.mem_of_getElem? (i := 125) rfl)
def y_MO_gather : MethodName := ⟨"PatternWorksModel", "gather", "(II)V"⟩
abbrev b_MO_gather : ByteArray := prog_14_method_8_code
theorem m_MO_gather : ab_mt y_MO_gather b_MO_gather 3 none 2 := ⟨by decide, ab_t9 (List.mem_of_getElem? (i := 175) rfl), ab_t1 (List.mem_of_getElem? (i := 13) rfl), ⟨by decide +kernel, by decide +kernel⟩, by decide +kernel⟩
theorem im_MO_gather : Cond.instanceMethod y_MO_gather ∈ lw_tbl := ab_t9 (List.mem_of_getElem? (i := 174) rfl)
theorem se_MO_gather : Cond.selects "PatternWorksModel" y_MO_gather y_MO_gather ∈ lw_tbl := ab_t0 (List.mem_of_getElem? (i := 91) rfl)
def y_MO_gatherLike : MethodName := ⟨"PatternWorksModel", "gatherLike", "(IIZ)V"⟩
abbrev b_MO_gatherLike : ByteArray := prog_14_method_11_code
theorem m_MO_gatherLike : ab_mt y_MO_gatherLike b_MO_gatherLike 5 none 3 := ⟨by decide, ab_t9 (List.mem_of_getElem? (i := 171) rfl), ab_t1 (List.mem_of_getElem? (i := 13) rfl), ⟨by decide +kernel, by decide +kernel⟩, by decide +kernel⟩
theorem im_MO_gatherLike : Cond.instanceMethod y_MO_gatherLike ∈ lw_tbl := ab_t9 (List.mem_of_getElem? (i := 170) rfl)
theorem se_MO_gatherLike : Cond.selects "PatternWorksModel" y_MO_gatherLike y_MO_gatherLike ∈ lw_tbl := ab_t0 (List.mem_of_getElem? (i := 90) rfl)
def y_MO_gatherMarked : MethodName := ⟨"PatternWorksModel", "gatherMarked", "()V"⟩
abbrev b_MO_gatherMarked : ByteArray := prog_14_method_12_code
theorem m_MO_gatherMarked : ab_mt y_MO_gatherMarked b_MO_gatherMarked 2 none 0 := ⟨by decide, ab_t9 (List.mem_of_getElem? (i := 186) rfl), ab_t1 (List.mem_of_getElem? (i := 13) rfl), ⟨by decide +kernel, by decide +kernel⟩, by decide +kernel⟩
theorem im_MO_gatherMarked : Cond.instanceMethod y_MO_gatherMarked ∈ lw_tbl := ab_t9 (List.mem_of_getElem? (i := 185) rfl)
theorem se_MO_gatherMarked : Cond.selects "PatternWorksModel" y_MO_gatherMarked y_MO_gatherMarked ∈ lw_tbl := ab_t0 (List.mem_of_getElem? (i := 93) rfl)
def y_MO_gatherNamed : MethodName := ⟨"PatternWorksModel", "gatherNamed", "(IZ)V"⟩
abbrev b_MO_gatherNamed : ByteArray := prog_14_method_13_code
theorem m_MO_gatherNamed : ab_mt y_MO_gatherNamed b_MO_gatherNamed 5 none 2 := ⟨by decide, ab_t9 (List.mem_of_getElem? (i := 211) rfl), ab_t1 (List.mem_of_getElem? (i := 13) rfl), ⟨by decide +kernel, by decide +kernel⟩, by decide +kernel⟩
theorem im_MO_gatherNamed : Cond.instanceMethod y_MO_gatherNamed ∈ lw_tbl := ab_t9 (List.mem_of_getElem? (i := 210) rfl)
theorem se_MO_gatherNamed : Cond.selects "PatternWorksModel" y_MO_gatherNamed y_MO_gatherNamed ∈ lw_tbl := ab_t0 (List.mem_of_getElem? (i := 99) rfl)
def y_MO_go : MethodName := ⟨"PatternWorksModel", "go", "(I)V"⟩
abbrev b_MO_go : ByteArray := prog_14_method_70_code
theorem m_MO_go : ab_mt y_MO_go b_MO_go 4 none 1 := ⟨by decide, ab_t10 (List.mem_of_getElem? (i := 68) rfl), ab_t1 (List.mem_of_getElem? (i := 13) rfl), ⟨by decide +kernel, by decide +kernel⟩, by decide +kernel⟩
theorem im_MO_go : Cond.instanceMethod y_MO_go ∈ lw_tbl := ab_t10 (List.mem_of_getElem? (i := 67) rfl)
theorem se_MO_go : Cond.selects "PatternWorksModel" y_MO_go y_MO_go ∈ lw_tbl := ab_t0 (List.mem_of_getElem? (i := 119) rfl)
def y_MO_goEither : MethodName := ⟨"PatternWorksModel", "goEither", "(I)V"⟩
abbrev b_MO_goEither : ByteArray := prog_14_method_64_code
theorem m_MO_goEither : ab_mt y_MO_goEither b_MO_goEither 3 none 1 := ⟨by decide, ab_t10 (List.mem_of_getElem? (i := 96) rfl), ab_t1 (List.mem_of_getElem? (i := 13) rfl), ⟨by decide +kernel, by decide +kernel⟩, by decide +kernel⟩
theorem im_MO_goEither : Cond.instanceMethod y_MO_goEither ∈ lw_tbl := ab_t10 (List.mem_of_getElem? (i := 95) rfl)
theorem se_MO_goEither : Cond.selects "PatternWorksModel" y_MO_goEither y_MO_goEither ∈ lw_tbl := ab_t0 (List.mem_of_getElem? (i := 126) rfl)
def y_MO_goGroup : MethodName := ⟨"PatternWorksModel", "goGroup", "(I)V"⟩
abbrev b_MO_goGroup : ByteArray := prog_14_method_65_code
theorem m_MO_goGroup : ab_mt y_MO_goGroup b_MO_goGroup 4 none 1 := ⟨by decide, ab_t10 (List.mem_of_getElem? (i := 104) rfl), ab_t1 (List.mem_of_getElem? (i := 13) rfl), ⟨by decide +kernel, by decide +kernel⟩, by decide +kernel⟩
theorem im_MO_goGroup : Cond.instanceMethod y_MO_goGroup ∈ lw_tbl := ab_t10 (List.mem_of_getElem? (i := 103) rfl)
theorem se_MO_goGroup : Cond.selects "PatternWorksModel" y_MO_goGroup y_MO_goGroup ∈ lw_tbl := ab_t0 (List.mem_of_getElem? (i := 128) rfl)
def y_MO_goRepeat : MethodName := ⟨"PatternWorksModel", "goRepeat", "(I)V"⟩
abbrev b_MO_goRepeat : ByteArray := prog_14_method_69_code
theorem m_MO_goRepeat : ab_mt y_MO_goRepeat b_MO_goRepeat 6 none 1 := ⟨by decide, ab_t10 (List.mem_of_getElem? (i := 108) rfl), ab_t1 (List.mem_of_getElem? (i := 13) rfl), ⟨by decide +kernel, by decide +kernel⟩, by decide +kernel⟩
theorem im_MO_goRepeat : Cond.instanceMethod y_MO_goRepeat ∈ lw_tbl := ab_t10 (List.mem_of_getElem? (i := 107) rfl)
theorem se_MO_goRepeat : Cond.selects "PatternWorksModel" y_MO_goRepeat y_MO_goRepeat ∈ lw_tbl := ab_t0 (List.mem_of_getElem? (i := 129) rfl)
def y_MO_goRow : MethodName := ⟨"PatternWorksModel", "goRow", "(I)V"⟩
abbrev b_MO_goRow : ByteArray := prog_14_method_63_code
theorem m_MO_goRow : ab_mt y_MO_goRow b_MO_goRow 3 none 1 := ⟨by decide, ab_t10 (List.mem_of_getElem? (i := 88) rfl), ab_t1 (List.mem_of_getElem? (i := 13) rfl), ⟨by decide +kernel, by decide +kernel⟩, by decide +kernel⟩
theorem im_MO_goRow : Cond.instanceMethod y_MO_goRow ∈ lw_tbl := ab_t10 (List.mem_of_getElem? (i := 87) rfl)
theorem se_MO_goRow : Cond.selects "PatternWorksModel" y_MO_goRow y_MO_goRow ∈ lw_tbl := ab_t0 (List.mem_of_getElem? (i := 124) rfl)
def y_MO_group : MethodName := ⟨"PatternWorksModel", "group", "(II)I"⟩
abbrev b_MO_group : ByteArray := prog_14_method_91_code
theorem m_MO_group : ab_mt y_MO_group b_MO_group 3 (some (.int)) 2 := ⟨by decide, ab_t10 (List.mem_of_getElem? (i := 198) rfl), ab_t1 (List.mem_of_getElem? (i := 13) rfl), ⟨by decide +kernel, by decide +kernel⟩, by decide +kernel⟩
theorem im_MO_group : Cond.instanceMethod y_MO_group ∈ lw_tbl := ab_t10 (List.mem_of_getElem? (i := 196) rfl)
theorem se_MO_group : Cond.selects "PatternWorksModel" y_MO_group y_MO_group ∈ lw_tbl := ab_t10 (List.mem_of_getElem? (i := 197) rfl)
def y_MO_groupAt : MethodName := ⟨"PatternWorksModel", "groupAt", "(III)I"⟩
abbrev b_MO_groupAt : ByteArray := prog_14_method_101_code
theorem m_MO_groupAt : ab_mt y_MO_groupAt b_MO_groupAt 9 (some (.int)) 3 := ⟨by decide, ab_t10 (List.mem_of_getElem? (i := 238) rfl), ab_t1 (List.mem_of_getElem? (i := 13) rfl), ⟨by decide +kernel, by decide +kernel⟩, by decide +kernel⟩
theorem im_MO_groupAt : Cond.instanceMethod y_MO_groupAt ∈ lw_tbl := ab_t10 (List.mem_of_getElem? (i := 237) rfl)
theorem se_MO_groupAt : Cond.selects "PatternWorksModel" y_MO_groupAt y_MO_groupAt ∈ lw_tbl := ab_t0 (List.mem_of_getElem? (i := 149) rfl)
def y_MO_has : MethodName := ⟨"PatternWorksModel", "has", "(I)Z"⟩
abbrev b_MO_has : ByteArray := prog_14_method_21_code
theorem m_MO_has : ab_mt y_MO_has b_MO_has 2 (some (.boolean)) 1 := ⟨by decide, ab_t9 (List.mem_of_getElem? (i := 167) rfl), ab_t1 (List.mem_of_getElem? (i := 13) rfl), ⟨by decide +kernel, by decide +kernel⟩, by decide +kernel⟩
theorem im_MO_has : Cond.instanceMethod y_MO_has ∈ lw_tbl := ab_t9 (List.mem_of_getElem? (i := 166) rfl)
theorem se_MO_has : Cond.selects "PatternWorksModel" y_MO_has y_MO_has ∈ lw_tbl := ab_t0 (List.mem_of_getElem? (i := 89) rfl)
def y_MO_here : MethodName := ⟨"PatternWorksModel", "here", "(I)I"⟩
abbrev b_MO_here : ByteArray := prog_14_method_22_code
theorem m_MO_here : ab_mt y_MO_here b_MO_here 2 (some (.int)) 1 := ⟨by decide, ab_t9 (List.mem_of_getElem? (i := 120) rfl), ab_t1 (List.mem_of_getElem? (i := 13) rfl), ⟨by decide +kernel, by decide +kernel⟩, by decide +kernel⟩
theorem im_MO_here : Cond.instanceMethod y_MO_here ∈ lw_tbl := ab_t9 (List.mem_of_getElem? (i := 119) rfl)
theorem se_MO_here : Cond.selects "PatternWorksModel" y_MO_here y_MO_here ∈ lw_tbl := ab_t0 (List.mem_of_getElem? (i := 82) rfl)
def y_MO_hex : MethodName := ⟨"PatternWorksModel", "hex", "(I)I"⟩
abbrev b_MO_hex : ByteArray := prog_14_method_29_code
theorem m_MO_hex : ab_mt y_MO_hex b_MO_hex 1 (some (.int)) 1 := ⟨by decide, ab_t9 (List.mem_of_getElem? (i := 135) rfl), ab_t1 (List.mem_of_getElem? (i := 13) rfl), ⟨by decide +kernel, by decide +kernel⟩, by decide +kernel⟩
theorem st_MO_hex : Cond.static y_MO_hex ∈ lw_tbl := ab_t9 (List.mem_of_getElem? (i := 134) rfl)
def y_MO_hexadecimal : MethodName := ⟨"PatternWorksModel", "hexadecimal", "(I)I"⟩
abbrev b_MO_hexadecimal : ByteArray := prog_14_method_31_code
theorem m_MO_hexadecimal : ab_mt y_MO_hexadecimal b_MO_hexadecimal 5 (some (.int)) 1 := ⟨by decide, ab_t9 (List.mem_of_getElem? (i := 132) rfl), ab_t1 (List.mem_of_getElem? (i := 13) rfl), ⟨by decide +kernel, by decide +kernel⟩, by decide +kernel⟩
theorem im_MO_hexadecimal : Cond.instanceMethod y_MO_hexadecimal ∈ lw_tbl := ab_t9 (List.mem_of_getElem? (i := 131) rfl)
theorem se_MO_hexadecimal : Cond.selects "PatternWorksModel" y_MO_hexadecimal y_MO_hexadecimal ∈ lw_tbl := ab_t0 (List.mem_of_getElem? (i := 85) rfl)
def y_MO_holds : MethodName := ⟨"PatternWorksModel", "holds", "(II)Z"⟩
abbrev b_MO_holds : ByteArray := prog_14_method_82_code
theorem m_MO_holds : ab_mt y_MO_holds b_MO_holds 3 (some (.boolean)) 2 := ⟨by decide, ab_t10 (List.mem_of_getElem? (i := 163) rfl), ab_t1 (List.mem_of_getElem? (i := 13) rfl), ⟨by decide +kernel, by decide +kernel⟩, by decide +kernel⟩
theorem im_MO_holds : Cond.instanceMethod y_MO_holds ∈ lw_tbl := ab_t10 (List.mem_of_getElem? (i := 162) rfl)
theorem se_MO_holds : Cond.selects "PatternWorksModel" y_MO_holds y_MO_holds ∈ lw_tbl := ab_t0 (List.mem_of_getElem? (i := 137) rfl)
def y_MO_image : MethodName := ⟨"PatternWorksModel", "image", "(I)I"⟩
abbrev b_MO_image : ByteArray := prog_14_method_9_code
theorem m_MO_image : ab_mt y_MO_image b_MO_image 2 (some (.int)) 1 := ⟨by decide, ab_t9 (List.mem_of_getElem? (i := 178) rfl), ab_t1 (List.mem_of_getElem? (i := 13) rfl), ⟨by decide +kernel, by decide +kernel⟩, by decide +kernel⟩
theorem st_MO_image : Cond.static y_MO_image ∈ lw_tbl := ab_t9 (List.mem_of_getElem? (i := 177) rfl)
def y_MO_init : MethodName := ⟨"PatternWorksModel", "<init>", "()V"⟩
abbrev b_MO_init : ByteArray := prog_14_method_1_code
theorem m_MO_init : ab_mt y_MO_init b_MO_init 1 none 0 := ⟨by decide, ab_t8 (List.mem_of_getElem? (i := 15) rfl), ab_t1 (List.mem_of_getElem? (i := 13) rfl), ⟨by decide +kernel, by decide +kernel⟩, by decide +kernel⟩
theorem im_MO_init : Cond.instanceMethod y_MO_init ∈ lw_tbl := ab_t8 (List.mem_of_getElem? (i := 14) rfl)
def y_MO_isTemplate : MethodName := ⟨"PatternWorksModel", "isTemplate", "(II)Z"⟩
abbrev b_MO_isTemplate : ByteArray := prog_14_method_103_code
theorem m_MO_isTemplate : ab_mt y_MO_isTemplate b_MO_isTemplate 5 (some (.boolean)) 2 := ⟨by decide, ab_t10 (List.mem_of_getElem? (i := 234) rfl), ab_t1 (List.mem_of_getElem? (i := 13) rfl), ⟨by decide +kernel, by decide +kernel⟩, by decide +kernel⟩
theorem im_MO_isTemplate : Cond.instanceMethod y_MO_isTemplate ∈ lw_tbl := ab_t10 (List.mem_of_getElem? (i := 233) rfl)
theorem se_MO_isTemplate : Cond.selects "PatternWorksModel" y_MO_isTemplate y_MO_isTemplate ∈ lw_tbl := ab_t0 (List.mem_of_getElem? (i := 148) rfl)
def y_MO_isThere : MethodName := ⟨"PatternWorksModel", "isThere", "(I)Z"⟩
abbrev b_MO_isThere : ByteArray := prog_14_method_73_code
theorem m_MO_isThere : ab_mt y_MO_isThere b_MO_isThere 2 (some (.boolean)) 1 := ⟨by decide, ab_t10 (List.mem_of_getElem? (i := 132) rfl), ab_t1 (List.mem_of_getElem? (i := 13) rfl), ⟨by decide +kernel, by decide +kernel⟩, by decide +kernel⟩
theorem im_MO_isThere : Cond.instanceMethod y_MO_isThere ∈ lw_tbl := ab_t10 (List.mem_of_getElem? (i := 131) rfl)
theorem se_MO_isThere : Cond.selects "PatternWorksModel" y_MO_isThere y_MO_isThere ∈ lw_tbl := ab_t0 (List.mem_of_getElem? (i := 133) rfl)
def y_MO_isWord : MethodName := ⟨"PatternWorksModel", "isWord", "(I)Z"⟩
abbrev b_MO_isWord : ByteArray := prog_14_method_7_code
theorem m_MO_isWord : ab_mt y_MO_isWord b_MO_isWord 1 (some (.boolean)) 1 := ⟨by decide, ab_t9 (List.mem_of_getElem? (i := 155) rfl), ab_t1 (List.mem_of_getElem? (i := 13) rfl), ⟨by decide +kernel, by decide +kernel⟩, by decide +kernel⟩
theorem st_MO_isWord : Cond.static y_MO_isWord ∈ lw_tbl := ab_t9 (List.mem_of_getElem? (i := 154) rfl)
def y_MO_item : MethodName := ⟨"PatternWorksModel", "item", "()V"⟩
abbrev b_MO_item : ByteArray := prog_14_method_39_code
theorem m_MO_item : ab_mt y_MO_item b_MO_item 4 none 0 := ⟨by decide, ab_t9 (List.mem_of_getElem? (i := 219) rfl), ab_t1 (List.mem_of_getElem? (i := 13) rfl), ⟨by decide +kernel, by decide +kernel⟩, by decide +kernel⟩
theorem im_MO_item : Cond.instanceMethod y_MO_item ∈ lw_tbl := ab_t9 (List.mem_of_getElem? (i := 218) rfl)
theorem se_MO_item : Cond.selects "PatternWorksModel" y_MO_item y_MO_item ∈ lw_tbl := ab_t0 (List.mem_of_getElem? (i := 101) rfl)
def y_MO_keep : MethodName := ⟨"PatternWorksModel", "keep", "(I)V"⟩
abbrev b_MO_keep : ByteArray := prog_14_method_108_code
theorem m_MO_keep : ab_mt y_MO_keep b_MO_keep 2 none 1 := ⟨by decide, ab_t11 (List.mem_of_getElem? (i := 26) rfl), ab_t1 (List.mem_of_getElem? (i := 13) rfl), ⟨by decide +kernel, by decide +kernel⟩, by decide +kernel⟩
theorem im_MO_keep : Cond.instanceMethod y_MO_keep ∈ lw_tbl := ab_t11 (List.mem_of_getElem? (i := 24) rfl)
theorem se_MO_keep : Cond.selects "PatternWorksModel" y_MO_keep y_MO_keep ∈ lw_tbl := ab_t11 (List.mem_of_getElem? (i := 25) rfl)
def y_MO_lastEnd : MethodName := ⟨"PatternWorksModel", "lastEnd", "(II)I"⟩
abbrev b_MO_lastEnd : ByteArray := prog_14_method_84_code
theorem m_MO_lastEnd : ab_mt y_MO_lastEnd b_MO_lastEnd 13 (some (.int)) 2 := ⟨by decide, ab_t10 (List.mem_of_getElem? (i := 194) rfl), ab_t1 (List.mem_of_getElem? (i := 13) rfl), ⟨by decide +kernel, by decide +kernel⟩, by decide +kernel⟩
theorem im_MO_lastEnd : Cond.instanceMethod y_MO_lastEnd ∈ lw_tbl := ab_t10 (List.mem_of_getElem? (i := 193) rfl)
theorem se_MO_lastEnd : Cond.selects "PatternWorksModel" y_MO_lastEnd y_MO_lastEnd ∈ lw_tbl := ab_t0 (List.mem_of_getElem? (i := 144) rfl)
def y_MO_lay : MethodName := ⟨"PatternWorksModel", "lay", "(II)V"⟩
abbrev b_MO_lay : ByteArray := prog_14_method_87_code
theorem m_MO_lay : ab_mt y_MO_lay b_MO_lay 3 none 2 := ⟨by decide, ab_t10 (List.mem_of_getElem? (i := 186) rfl), ab_t1 (List.mem_of_getElem? (i := 13) rfl), ⟨by decide +kernel, by decide +kernel⟩, by decide +kernel⟩
theorem im_MO_lay : Cond.instanceMethod y_MO_lay ∈ lw_tbl := ab_t10 (List.mem_of_getElem? (i := 185) rfl)
theorem se_MO_lay : Cond.selects "PatternWorksModel" y_MO_lay y_MO_lay ∈ lw_tbl := ab_t0 (List.mem_of_getElem? (i := 142) rfl)
def y_MO_look : MethodName := ⟨"PatternWorksModel", "look", "(I)V"⟩
abbrev b_MO_look : ByteArray := prog_14_method_79_code
theorem m_MO_look : ab_mt y_MO_look b_MO_look 2 none 1 := ⟨by decide, ab_t10 (List.mem_of_getElem? (i := 152) rfl), ab_t1 (List.mem_of_getElem? (i := 13) rfl), ⟨by decide +kernel, by decide +kernel⟩, by decide +kernel⟩
theorem im_MO_look : Cond.instanceMethod y_MO_look ∈ lw_tbl := ab_t10 (List.mem_of_getElem? (i := 151) rfl)
theorem se_MO_look : Cond.selects "PatternWorksModel" y_MO_look y_MO_look ∈ lw_tbl := ab_t0 (List.mem_of_getElem? (i := 135) rfl)
def y_MO_mark : MethodName := ⟨"PatternWorksModel", "mark", "([JII)V"⟩
abbrev b_MO_mark : ByteArray := prog_14_method_78_code
theorem m_MO_mark : ab_mt y_MO_mark b_MO_mark 3 none 3 := ⟨by decide, ab_t10 (List.mem_of_getElem? (i := 170) rfl), ab_t1 (List.mem_of_getElem? (i := 13) rfl), ⟨by decide +kernel, by decide +kernel⟩, by decide +kernel⟩
theorem st_MO_mark : Cond.static y_MO_mark ∈ lw_tbl := ab_t10 (List.mem_of_getElem? (i := 169) rfl)
def y_MO_match : MethodName := ⟨"PatternWorksModel", "match", "(IIII)I"⟩
abbrev b_MO_match : ByteArray := prog_14_method_90_code
theorem m_MO_match : ab_mt y_MO_match b_MO_match 6 (some (.int)) 4 := ⟨by decide, ab_t10 (List.mem_of_getElem? (i := 144) rfl), ab_t1 (List.mem_of_getElem? (i := 13) rfl), ⟨by decide +kernel, by decide +kernel⟩, by decide +kernel⟩
theorem im_MO_match : Cond.instanceMethod y_MO_match ∈ lw_tbl := ab_t10 (List.mem_of_getElem? (i := 142) rfl)
theorem se_MO_match : Cond.selects "PatternWorksModel" y_MO_match y_MO_match ∈ lw_tbl := ab_t10 (List.mem_of_getElem? (i := 143) rfl)
def y_MO_name : MethodName := ⟨"PatternWorksModel", "name", "(III)I"⟩
abbrev b_MO_name : ByteArray := prog_14_method_75_code
theorem m_MO_name : ab_mt y_MO_name b_MO_name 4 (some (.int)) 3 := ⟨by decide, ab_t10 (List.mem_of_getElem? (i := 136) rfl), ab_t1 (List.mem_of_getElem? (i := 13) rfl), ⟨by decide +kernel, by decide +kernel⟩, by decide +kernel⟩
theorem im_MO_name : Cond.instanceMethod y_MO_name ∈ lw_tbl := ab_t10 (List.mem_of_getElem? (i := 134) rfl)
theorem se_MO_name : Cond.selects "PatternWorksModel" y_MO_name y_MO_name ∈ lw_tbl := ab_t10 (List.mem_of_getElem? (i := 135) rfl)
def y_MO_nextMatch : MethodName := ⟨"PatternWorksModel", "nextMatch", "(I)Z"⟩
abbrev b_MO_nextMatch : ByteArray := prog_14_method_93_code
theorem m_MO_nextMatch : ab_mt y_MO_nextMatch b_MO_nextMatch 3 (some (.boolean)) 1 := ⟨by decide, ab_t10 (List.mem_of_getElem? (i := 210) rfl), ab_t1 (List.mem_of_getElem? (i := 13) rfl), ⟨by decide +kernel, by decide +kernel⟩, by decide +kernel⟩
theorem im_MO_nextMatch : Cond.instanceMethod y_MO_nextMatch ∈ lw_tbl := ab_t10 (List.mem_of_getElem? (i := 209) rfl)
theorem se_MO_nextMatch : Cond.selects "PatternWorksModel" y_MO_nextMatch y_MO_nextMatch ∈ lw_tbl := ab_t0 (List.mem_of_getElem? (i := 146) rfl)
def y_MO_node : MethodName := ⟨"PatternWorksModel", "node", "(IIJ)I"⟩
abbrev b_MO_node : ByteArray := prog_14_method_17_code
theorem m_MO_node : ab_mt y_MO_node b_MO_node 5 (some (.int)) 3 := ⟨by decide, ab_t9 (List.mem_of_getElem? (i := 203) rfl), ab_t1 (List.mem_of_getElem? (i := 13) rfl), ⟨by decide +kernel, by decide +kernel⟩, by decide +kernel⟩
theorem im_MO_node : Cond.instanceMethod y_MO_node ∈ lw_tbl := ab_t9 (List.mem_of_getElem? (i := 202) rfl)
theorem se_MO_node : Cond.selects "PatternWorksModel" y_MO_node y_MO_node ∈ lw_tbl := ab_t0 (List.mem_of_getElem? (i := 97) rfl)
def y_MO_note : MethodName := ⟨"PatternWorksModel", "note", "([JIIIZ)V"⟩
abbrev b_MO_note : ByteArray := prog_14_method_83_code
theorem m_MO_note : ab_mt y_MO_note b_MO_note 13 none 5 := ⟨by decide, ab_t10 (List.mem_of_getElem? (i := 148) rfl), ab_t1 (List.mem_of_getElem? (i := 13) rfl), ⟨by decide +kernel, by decide +kernel⟩, by decide +kernel⟩
theorem im_MO_note : Cond.instanceMethod y_MO_note ∈ lw_tbl := ab_t10 (List.mem_of_getElem? (i := 147) rfl)
theorem se_MO_note : Cond.selects "PatternWorksModel" y_MO_note y_MO_note ∈ lw_tbl := ab_t0 (List.mem_of_getElem? (i := 134) rfl)
def y_MO_numbersEnd : MethodName := ⟨"PatternWorksModel", "numbersEnd", "()I"⟩
abbrev b_MO_numbersEnd : ByteArray := prog_14_method_50_code
theorem m_MO_numbersEnd : ab_mt y_MO_numbersEnd b_MO_numbersEnd 4 (some (.int)) 0 := ⟨by decide, ab_t10 (List.mem_of_getElem? (i := 51) rfl), ab_t1 (List.mem_of_getElem? (i := 13) rfl), ⟨by decide +kernel, by decide +kernel⟩, by decide +kernel⟩
theorem im_MO_numbersEnd : Cond.instanceMethod y_MO_numbersEnd ∈ lw_tbl := ab_t10 (List.mem_of_getElem? (i := 50) rfl)
theorem se_MO_numbersEnd : Cond.selects "PatternWorksModel" y_MO_numbersEnd y_MO_numbersEnd ∈ lw_tbl := ab_t0 (List.mem_of_getElem? (i := 115) rfl)
def y_MO_onward : MethodName := ⟨"PatternWorksModel", "onward", "(III)I"⟩
abbrev b_MO_onward : ByteArray := prog_14_method_88_code
theorem m_MO_onward : ab_mt y_MO_onward b_MO_onward 4 (some (.int)) 3 := ⟨by decide, ab_t10 (List.mem_of_getElem? (i := 182) rfl), ab_t1 (List.mem_of_getElem? (i := 13) rfl), ⟨by decide +kernel, by decide +kernel⟩, by decide +kernel⟩
theorem im_MO_onward : Cond.instanceMethod y_MO_onward ∈ lw_tbl := ab_t10 (List.mem_of_getElem? (i := 181) rfl)
theorem se_MO_onward : Cond.selects "PatternWorksModel" y_MO_onward y_MO_onward ∈ lw_tbl := ab_t0 (List.mem_of_getElem? (i := 141) rfl)
def y_MO_open : MethodName := ⟨"PatternWorksModel", "open", "(III)V"⟩
abbrev b_MO_open : ByteArray := prog_14_method_56_code
theorem m_MO_open : ab_mt y_MO_open b_MO_open 4 none 3 := ⟨by decide, ab_t10 (List.mem_of_getElem? (i := 64) rfl), ab_t1 (List.mem_of_getElem? (i := 13) rfl), ⟨by decide +kernel, by decide +kernel⟩, by decide +kernel⟩
theorem im_MO_open : Cond.instanceMethod y_MO_open ∈ lw_tbl := ab_t10 (List.mem_of_getElem? (i := 63) rfl)
theorem se_MO_open : Cond.selects "PatternWorksModel" y_MO_open y_MO_open ∈ lw_tbl := ab_t0 (List.mem_of_getElem? (i := 118) rfl)
def y_MO_openGroup : MethodName := ⟨"PatternWorksModel", "openGroup", "(III)V"⟩
abbrev b_MO_openGroup : ByteArray := prog_14_method_24_code
theorem m_MO_openGroup : ab_mt y_MO_openGroup b_MO_openGroup 4 none 3 := ⟨by decide, ab_t9 (List.mem_of_getElem? (i := 108) rfl), ab_t1 (List.mem_of_getElem? (i := 13) rfl), ⟨by decide +kernel, by decide +kernel⟩, by decide +kernel⟩
theorem im_MO_openGroup : Cond.instanceMethod y_MO_openGroup ∈ lw_tbl := ab_t9 (List.mem_of_getElem? (i := 107) rfl)
theorem se_MO_openGroup : Cond.selects "PatternWorksModel" y_MO_openGroup y_MO_openGroup ∈ lw_tbl := ab_t0 (List.mem_of_getElem? (i := 79) rfl)
def y_MO_openNumbered : MethodName := ⟨"PatternWorksModel", "openNumbered", "(III)V"⟩
abbrev b_MO_openNumbered : ByteArray := prog_14_method_48_code
theorem m_MO_openNumbered : ab_mt y_MO_openNumbered b_MO_openNumbered 5 none 3 := ⟨by decide, ab_t10 (List.mem_of_getElem? (i := 14) rfl), ab_t1 (List.mem_of_getElem? (i := 13) rfl), ⟨by decide +kernel, by decide +kernel⟩, by decide +kernel⟩
theorem im_MO_openNumbered : Cond.instanceMethod y_MO_openNumbered ∈ lw_tbl := ab_t10 (List.mem_of_getElem? (i := 13) rfl)
theorem se_MO_openNumbered : Cond.selects "PatternWorksModel" y_MO_openNumbered y_MO_openNumbered ∈ lw_tbl := ab_t0 (List.mem_of_getElem? (i := 108) rfl)
def y_MO_openRound : MethodName := ⟨"PatternWorksModel", "openRound", "(I)V"⟩
abbrev b_MO_openRound : ByteArray := prog_14_method_67_code
theorem m_MO_openRound : ab_mt y_MO_openRound b_MO_openRound 6 none 1 := ⟨by decide, ab_t10 (List.mem_of_getElem? (i := 112) rfl), ab_t1 (List.mem_of_getElem? (i := 13) rfl), ⟨by decide +kernel, by decide +kernel⟩, by decide +kernel⟩
theorem im_MO_openRound : Cond.instanceMethod y_MO_openRound ∈ lw_tbl := ab_t10 (List.mem_of_getElem? (i := 111) rfl)
theorem se_MO_openRound : Cond.selects "PatternWorksModel" y_MO_openRound y_MO_openRound ∈ lw_tbl := ab_t0 (List.mem_of_getElem? (i := 130) rfl)
def y_MO_openRow : MethodName := ⟨"PatternWorksModel", "openRow", "()V"⟩
abbrev b_MO_openRow : ByteArray := prog_14_method_23_code
theorem m_MO_openRow : ab_mt y_MO_openRow b_MO_openRow 1 none 0 := ⟨by decide, ab_t9 (List.mem_of_getElem? (i := 112) rfl), ab_t1 (List.mem_of_getElem? (i := 13) rfl), ⟨by decide +kernel, by decide +kernel⟩, by decide +kernel⟩
theorem im_MO_openRow : Cond.instanceMethod y_MO_openRow ∈ lw_tbl := ab_t9 (List.mem_of_getElem? (i := 111) rfl)
theorem se_MO_openRow : Cond.selects "PatternWorksModel" y_MO_openRow y_MO_openRow ∈ lw_tbl := ab_t0 (List.mem_of_getElem? (i := 80) rfl)
def y_MO_output : MethodName := ⟨"PatternWorksModel", "output", "(I)I"⟩
abbrev b_MO_output : ByteArray := prog_14_method_107_code
theorem m_MO_output : ab_mt y_MO_output b_MO_output 2 (some (.int)) 1 := ⟨by decide, ab_t11 (List.mem_of_getElem? (i := 22) rfl), ab_t1 (List.mem_of_getElem? (i := 13) rfl), ⟨by decide +kernel, by decide +kernel⟩, by decide +kernel⟩
theorem im_MO_output : Cond.instanceMethod y_MO_output ∈ lw_tbl := ab_t11 (List.mem_of_getElem? (i := 20) rfl)
theorem se_MO_output : Cond.selects "PatternWorksModel" y_MO_output y_MO_output ∈ lw_tbl := ab_t11 (List.mem_of_getElem? (i := 21) rfl)
def y_MO_over : MethodName := ⟨"PatternWorksModel", "over", "()I"⟩
abbrev b_MO_over : ByteArray := prog_14_method_109_code
theorem m_MO_over : ab_mt y_MO_over b_MO_over 1 (some (.int)) 0 := ⟨by decide, ab_t11 (List.mem_of_getElem? (i := 30) rfl), ab_t1 (List.mem_of_getElem? (i := 13) rfl), ⟨by decide +kernel, by decide +kernel⟩, by decide +kernel⟩
theorem im_MO_over : Cond.instanceMethod y_MO_over ∈ lw_tbl := ab_t11 (List.mem_of_getElem? (i := 28) rfl)
theorem se_MO_over : Cond.selects "PatternWorksModel" y_MO_over y_MO_over ∈ lw_tbl := ab_t11 (List.mem_of_getElem? (i := 29) rfl)
def y_MO_part : MethodName := ⟨"PatternWorksModel", "part", "(II)V"⟩
abbrev b_MO_part : ByteArray := prog_14_method_25_code
theorem m_MO_part : ab_mt y_MO_part b_MO_part 3 none 2 := ⟨by decide, ab_t9 (List.mem_of_getElem? (i := 207) rfl), ab_t1 (List.mem_of_getElem? (i := 13) rfl), ⟨by decide +kernel, by decide +kernel⟩, by decide +kernel⟩
theorem im_MO_part : Cond.instanceMethod y_MO_part ∈ lw_tbl := ab_t9 (List.mem_of_getElem? (i := 206) rfl)
theorem se_MO_part : Cond.selects "PatternWorksModel" y_MO_part y_MO_part ∈ lw_tbl := ab_t0 (List.mem_of_getElem? (i := 98) rfl)
def y_MO_piece : MethodName := ⟨"PatternWorksModel", "piece", "(II)I"⟩
abbrev b_MO_piece : ByteArray := prog_14_method_98_code
theorem m_MO_piece : ab_mt y_MO_piece b_MO_piece 3 (some (.int)) 2 := ⟨by decide, ab_t10 (List.mem_of_getElem? (i := 226) rfl), ab_t1 (List.mem_of_getElem? (i := 13) rfl), ⟨by decide +kernel, by decide +kernel⟩, by decide +kernel⟩
theorem im_MO_piece : Cond.instanceMethod y_MO_piece ∈ lw_tbl := ab_t10 (List.mem_of_getElem? (i := 224) rfl)
theorem se_MO_piece : Cond.selects "PatternWorksModel" y_MO_piece y_MO_piece ∈ lw_tbl := ab_t10 (List.mem_of_getElem? (i := 225) rfl)
def y_MO_plain : MethodName := ⟨"PatternWorksModel", "plain", "()I"⟩
abbrev b_MO_plain : ByteArray := prog_14_method_36_code
theorem m_MO_plain : ab_mt y_MO_plain b_MO_plain 2 (some (.int)) 0 := ⟨by decide, ab_t9 (List.mem_of_getElem? (i := 230) rfl), ab_t1 (List.mem_of_getElem? (i := 13) rfl), ⟨by decide +kernel, by decide +kernel⟩, by decide +kernel⟩
theorem im_MO_plain : Cond.instanceMethod y_MO_plain ∈ lw_tbl := ab_t9 (List.mem_of_getElem? (i := 229) rfl)
theorem se_MO_plain : Cond.selects "PatternWorksModel" y_MO_plain y_MO_plain ∈ lw_tbl := ab_t0 (List.mem_of_getElem? (i := 103) rfl)
def y_MO_posix : MethodName := ⟨"PatternWorksModel", "posix", "()V"⟩
abbrev b_MO_posix : ByteArray := prog_14_method_38_code
theorem m_MO_posix : ab_mt y_MO_posix b_MO_posix 5 none 0 := ⟨by decide, ab_t9 (List.mem_of_getElem? (i := 223) rfl), ab_t1 (List.mem_of_getElem? (i := 13) rfl), ⟨by decide +kernel, by decide +kernel⟩, by decide +kernel⟩
theorem im_MO_posix : Cond.instanceMethod y_MO_posix ∈ lw_tbl := ab_t9 (List.mem_of_getElem? (i := 222) rfl)
theorem se_MO_posix : Cond.selects "PatternWorksModel" y_MO_posix y_MO_posix ∈ lw_tbl := ab_t0 (List.mem_of_getElem? (i := 102) rfl)
def y_MO_quote : MethodName := ⟨"PatternWorksModel", "quote", "()I"⟩
abbrev b_MO_quote : ByteArray := prog_14_method_106_code
theorem m_MO_quote : ab_mt y_MO_quote b_MO_quote 3 (some (.int)) 0 := ⟨by decide, ab_t11 (List.mem_of_getElem? (i := 18) rfl), ab_t1 (List.mem_of_getElem? (i := 13) rfl), ⟨by decide +kernel, by decide +kernel⟩, by decide +kernel⟩
theorem im_MO_quote : Cond.instanceMethod y_MO_quote ∈ lw_tbl := ab_t11 (List.mem_of_getElem? (i := 16) rfl)
theorem se_MO_quote : Cond.selects "PatternWorksModel" y_MO_quote y_MO_quote ∈ lw_tbl := ab_t11 (List.mem_of_getElem? (i := 17) rfl)
def y_MO_rangeEnd : MethodName := ⟨"PatternWorksModel", "rangeEnd", "(I)I"⟩
abbrev b_MO_rangeEnd : ByteArray := prog_14_method_40_code
theorem m_MO_rangeEnd : ab_mt y_MO_rangeEnd b_MO_rangeEnd 3 (some (.int)) 1 := ⟨by decide, ab_t10 (List.mem_of_getElem? (i := 2) rfl), ab_t1 (List.mem_of_getElem? (i := 13) rfl), ⟨by decide +kernel, by decide +kernel⟩, by decide +kernel⟩
theorem im_MO_rangeEnd : Cond.instanceMethod y_MO_rangeEnd ∈ lw_tbl := ab_t10 (List.mem_of_getElem? (i := 1) rfl)
theorem se_MO_rangeEnd : Cond.selects "PatternWorksModel" y_MO_rangeEnd y_MO_rangeEnd ∈ lw_tbl := ab_t0 (List.mem_of_getElem? (i := 105) rfl)
def y_MO_read : MethodName := ⟨"PatternWorksModel", "read", "(I)I"⟩
abbrev b_MO_read : ByteArray := prog_14_method_53_code
theorem m_MO_read : ab_mt y_MO_read b_MO_read 3 (some (.int)) 1 := ⟨by decide, ab_t9 (List.mem_of_getElem? (i := 104) rfl), ab_t1 (List.mem_of_getElem? (i := 13) rfl), ⟨by decide +kernel, by decide +kernel⟩, by decide +kernel⟩
theorem im_MO_read : Cond.instanceMethod y_MO_read ∈ lw_tbl := ab_t9 (List.mem_of_getElem? (i := 103) rfl)
theorem se_MO_read : Cond.selects "PatternWorksModel" y_MO_read y_MO_read ∈ lw_tbl := ab_t0 (List.mem_of_getElem? (i := 78) rfl)
def y_MO_readCharacter : MethodName := ⟨"PatternWorksModel", "readCharacter", "(I)V"⟩
abbrev b_MO_readCharacter : ByteArray := prog_14_method_42_code
theorem m_MO_readCharacter : ab_mt y_MO_readCharacter b_MO_readCharacter 4 none 1 := ⟨by decide, ab_t9 (List.mem_of_getElem? (i := 159) rfl), ab_t1 (List.mem_of_getElem? (i := 13) rfl), ⟨by decide +kernel, by decide +kernel⟩, by decide +kernel⟩
theorem im_MO_readCharacter : Cond.instanceMethod y_MO_readCharacter ∈ lw_tbl := ab_t9 (List.mem_of_getElem? (i := 158) rfl)
theorem se_MO_readCharacter : Cond.selects "PatternWorksModel" y_MO_readCharacter y_MO_readCharacter ∈ lw_tbl := ab_t0 (List.mem_of_getElem? (i := 87) rfl)
def y_MO_readClass : MethodName := ⟨"PatternWorksModel", "readClass", "()V"⟩
abbrev b_MO_readClass : ByteArray := prog_14_method_41_code
theorem m_MO_readClass : ab_mt y_MO_readClass b_MO_readClass 4 none 0 := ⟨by decide, ab_t9 (List.mem_of_getElem? (i := 215) rfl), ab_t1 (List.mem_of_getElem? (i := 13) rfl), ⟨by decide +kernel, by decide +kernel⟩, by decide +kernel⟩
theorem im_MO_readClass : Cond.instanceMethod y_MO_readClass ∈ lw_tbl := ab_t9 (List.mem_of_getElem? (i := 214) rfl)
theorem se_MO_readClass : Cond.selects "PatternWorksModel" y_MO_readClass y_MO_readClass ∈ lw_tbl := ab_t0 (List.mem_of_getElem? (i := 100) rfl)
def y_MO_readDot : MethodName := ⟨"PatternWorksModel", "readDot", "()V"⟩
abbrev b_MO_readDot : ByteArray := prog_14_method_44_code
theorem m_MO_readDot : ab_mt y_MO_readDot b_MO_readDot 1 none 0 := ⟨by decide, ab_t10 (List.mem_of_getElem? (i := 6) rfl), ab_t1 (List.mem_of_getElem? (i := 13) rfl), ⟨by decide +kernel, by decide +kernel⟩, by decide +kernel⟩
theorem im_MO_readDot : Cond.instanceMethod y_MO_readDot ∈ lw_tbl := ab_t10 (List.mem_of_getElem? (i := 5) rfl)
theorem se_MO_readDot : Cond.selects "PatternWorksModel" y_MO_readDot y_MO_readDot ∈ lw_tbl := ab_t0 (List.mem_of_getElem? (i := 106) rfl)
def y_MO_readEscape : MethodName := ⟨"PatternWorksModel", "readEscape", "()V"⟩
abbrev b_MO_readEscape : ByteArray := prog_14_method_43_code
theorem m_MO_readEscape : ab_mt y_MO_readEscape b_MO_readEscape 2 none 0 := ⟨by decide, ab_t9 (List.mem_of_getElem? (i := 124) rfl), ab_t1 (List.mem_of_getElem? (i := 13) rfl), ⟨by decide +kernel, by decide +kernel⟩, by decide +kernel⟩
theorem im_MO_readEscape : Cond.instanceMethod y_MO_readEscape ∈ lw_tbl := ab_t9 (List.mem_of_getElem? (i := 123) rfl)
theorem se_MO_readEscape : Cond.selects "PatternWorksModel" y_MO_readEscape y_MO_readEscape ∈ lw_tbl := ab_t0 (List.mem_of_getElem? (i := 83) rfl)
def y_MO_readGroup : MethodName := ⟨"PatternWorksModel", "readGroup", "()V"⟩
abbrev b_MO_readGroup : ByteArray := prog_14_method_46_code
theorem m_MO_readGroup : ab_mt y_MO_readGroup b_MO_readGroup 5 none 0 := ⟨by decide, ab_t10 (List.mem_of_getElem? (i := 10) rfl), ab_t1 (List.mem_of_getElem? (i := 13) rfl), ⟨by decide +kernel, by decide +kernel⟩, by decide +kernel⟩
theorem im_MO_readGroup : Cond.instanceMethod y_MO_readGroup ∈ lw_tbl := ab_t10 (List.mem_of_getElem? (i := 9) rfl)
theorem se_MO_readGroup : Cond.selects "PatternWorksModel" y_MO_readGroup y_MO_readGroup ∈ lw_tbl := ab_t0 (List.mem_of_getElem? (i := 107) rfl)
def y_MO_readName : MethodName := ⟨"PatternWorksModel", "readName", "(I)V"⟩
abbrev b_MO_readName : ByteArray := prog_14_method_47_code
theorem m_MO_readName : ab_mt y_MO_readName b_MO_readName 7 none 1 := ⟨by decide, ab_t10 (List.mem_of_getElem? (i := 18) rfl), ab_t1 (List.mem_of_getElem? (i := 13) rfl), ⟨by decide +kernel, by decide +kernel⟩, by decide +kernel⟩
theorem im_MO_readName : Cond.instanceMethod y_MO_readName ∈ lw_tbl := ab_t10 (List.mem_of_getElem? (i := 17) rfl)
theorem se_MO_readName : Cond.selects "PatternWorksModel" y_MO_readName y_MO_readName ∈ lw_tbl := ab_t0 (List.mem_of_getElem? (i := 109) rfl)
def y_MO_readPart : MethodName := ⟨"PatternWorksModel", "readPart", "()V"⟩
abbrev b_MO_readPart : ByteArray := prog_14_method_52_code
theorem m_MO_readPart : ab_mt y_MO_readPart b_MO_readPart 4 none 0 := ⟨by decide, ab_t9 (List.mem_of_getElem? (i := 116) rfl), ab_t1 (List.mem_of_getElem? (i := 13) rfl), ⟨by decide +kernel, by decide +kernel⟩, by decide +kernel⟩
theorem im_MO_readPart : Cond.instanceMethod y_MO_readPart ∈ lw_tbl := ab_t9 (List.mem_of_getElem? (i := 115) rfl)
theorem se_MO_readPart : Cond.selects "PatternWorksModel" y_MO_readPart y_MO_readPart ∈ lw_tbl := ab_t0 (List.mem_of_getElem? (i := 81) rfl)
def y_MO_readRepeat : MethodName := ⟨"PatternWorksModel", "readRepeat", "(I)V"⟩
abbrev b_MO_readRepeat : ByteArray := prog_14_method_51_code
theorem m_MO_readRepeat : ab_mt y_MO_readRepeat b_MO_readRepeat 4 none 1 := ⟨by decide, ab_t10 (List.mem_of_getElem? (i := 43) rfl), ab_t1 (List.mem_of_getElem? (i := 13) rfl), ⟨by decide +kernel, by decide +kernel⟩, by decide +kernel⟩
theorem im_MO_readRepeat : Cond.instanceMethod y_MO_readRepeat ∈ lw_tbl := ab_t10 (List.mem_of_getElem? (i := 42) rfl)
theorem se_MO_readRepeat : Cond.selects "PatternWorksModel" y_MO_readRepeat y_MO_readRepeat ∈ lw_tbl := ab_t0 (List.mem_of_getElem? (i := 113) rfl)
def y_MO_repeat : MethodName := ⟨"PatternWorksModel", "repeat", "(IIZ)V"⟩
abbrev b_MO_repeat : ByteArray := prog_14_method_28_code
theorem m_MO_repeat : ab_mt y_MO_repeat b_MO_repeat 8 none 3 := ⟨by decide, ab_t10 (List.mem_of_getElem? (i := 47) rfl), ab_t1 (List.mem_of_getElem? (i := 13) rfl), ⟨by decide +kernel, by decide +kernel⟩, by decide +kernel⟩
theorem im_MO_repeat : Cond.instanceMethod y_MO_repeat ∈ lw_tbl := ab_t10 (List.mem_of_getElem? (i := 46) rfl)
theorem se_MO_repeat : Cond.selects "PatternWorksModel" y_MO_repeat y_MO_repeat ∈ lw_tbl := ab_t0 (List.mem_of_getElem? (i := 114) rfl)
def y_MO_replace : MethodName := ⟨"PatternWorksModel", "replace", "(I)I"⟩
abbrev b_MO_replace : ByteArray := prog_14_method_104_code
theorem m_MO_replace : ab_mt y_MO_replace b_MO_replace 5 (some (.int)) 1 := ⟨by decide, ab_t10 (List.mem_of_getElem? (i := 230) rfl), ab_t1 (List.mem_of_getElem? (i := 13) rfl), ⟨by decide +kernel, by decide +kernel⟩, by decide +kernel⟩
theorem im_MO_replace : Cond.instanceMethod y_MO_replace ∈ lw_tbl := ab_t10 (List.mem_of_getElem? (i := 228) rfl)
theorem se_MO_replace : Cond.selects "PatternWorksModel" y_MO_replace y_MO_replace ∈ lw_tbl := ab_t10 (List.mem_of_getElem? (i := 229) rfl)
def y_MO_row : MethodName := ⟨"PatternWorksModel", "row", "()I"⟩
abbrev b_MO_row : ByteArray := prog_14_method_58_code
theorem m_MO_row : ab_mt y_MO_row b_MO_row 1 (some (.int)) 0 := ⟨by decide, ab_t10 (List.mem_of_getElem? (i := 56) rfl), ab_t1 (List.mem_of_getElem? (i := 13) rfl), ⟨by decide +kernel, by decide +kernel⟩, by decide +kernel⟩
theorem im_MO_row : Cond.instanceMethod y_MO_row ∈ lw_tbl := ab_t10 (List.mem_of_getElem? (i := 55) rfl)
theorem se_MO_row : Cond.selects "PatternWorksModel" y_MO_row y_MO_row ∈ lw_tbl := ab_t0 (List.mem_of_getElem? (i := 116) rfl)
def y_MO_same : MethodName := ⟨"PatternWorksModel", "same", "(II)I"⟩
abbrev b_MO_same : ByteArray := prog_14_method_61_code
theorem m_MO_same : ab_mt y_MO_same b_MO_same 5 (some (.int)) 2 := ⟨by decide, ab_t10 (List.mem_of_getElem? (i := 80) rfl), ab_t1 (List.mem_of_getElem? (i := 13) rfl), ⟨by decide +kernel, by decide +kernel⟩, by decide +kernel⟩
theorem im_MO_same : Cond.instanceMethod y_MO_same ∈ lw_tbl := ab_t10 (List.mem_of_getElem? (i := 79) rfl)
theorem se_MO_same : Cond.selects "PatternWorksModel" y_MO_same y_MO_same ∈ lw_tbl := ab_t0 (List.mem_of_getElem? (i := 122) rfl)
def y_MO_setNode : MethodName := ⟨"PatternWorksModel", "setNode", "(IZ)I"⟩
abbrev b_MO_setNode : ByteArray := prog_14_method_19_code
theorem m_MO_setNode : ab_mt y_MO_setNode b_MO_setNode 3 (some (.int)) 2 := ⟨by decide, ab_t9 (List.mem_of_getElem? (i := 199) rfl), ab_t1 (List.mem_of_getElem? (i := 13) rfl), ⟨by decide +kernel, by decide +kernel⟩, by decide +kernel⟩
theorem im_MO_setNode : Cond.instanceMethod y_MO_setNode ∈ lw_tbl := ab_t9 (List.mem_of_getElem? (i := 198) rfl)
theorem se_MO_setNode : Cond.selects "PatternWorksModel" y_MO_setNode y_MO_setNode ∈ lw_tbl := ab_t0 (List.mem_of_getElem? (i := 96) rfl)
def y_MO_spells : MethodName := ⟨"PatternWorksModel", "spells", "([IIICCCCC)Z"⟩
abbrev b_MO_spells : ByteArray := prog_14_method_37_code
theorem m_MO_spells : ab_mt y_MO_spells b_MO_spells 8 (some (.boolean)) 8 := ⟨by decide, ab_t9 (List.mem_of_getElem? (i := 226) rfl), ab_t1 (List.mem_of_getElem? (i := 13) rfl), ⟨by decide +kernel, by decide +kernel⟩, by decide +kernel⟩
theorem st_MO_spells : Cond.static y_MO_spells ∈ lw_tbl := ab_t9 (List.mem_of_getElem? (i := 225) rfl)
def y_MO_split1 : MethodName := ⟨"PatternWorksModel", "split", "(I)I"⟩
abbrev b_MO_split1 : ByteArray := prog_14_method_97_code
theorem m_MO_split1 : ab_mt y_MO_split1 b_MO_split1 3 (some (.int)) 1 := ⟨by decide, ab_t10 (List.mem_of_getElem? (i := 218) rfl), ab_t1 (List.mem_of_getElem? (i := 13) rfl), ⟨by decide +kernel, by decide +kernel⟩, by decide +kernel⟩
theorem im_MO_split1 : Cond.instanceMethod y_MO_split1 ∈ lw_tbl := ab_t10 (List.mem_of_getElem? (i := 216) rfl)
theorem se_MO_split1 : Cond.selects "PatternWorksModel" y_MO_split1 y_MO_split1 ∈ lw_tbl := ab_t10 (List.mem_of_getElem? (i := 217) rfl)
def y_MO_split2 : MethodName := ⟨"PatternWorksModel", "split", "(IIII)I"⟩
abbrev b_MO_split2 : ByteArray := prog_14_method_66_code
theorem m_MO_split2 : ab_mt y_MO_split2 b_MO_split2 5 (some (.int)) 4 := ⟨by decide, ab_t10 (List.mem_of_getElem? (i := 120) rfl), ab_t1 (List.mem_of_getElem? (i := 13) rfl), ⟨by decide +kernel, by decide +kernel⟩, by decide +kernel⟩
theorem im_MO_split2 : Cond.instanceMethod y_MO_split2 ∈ lw_tbl := ab_t10 (List.mem_of_getElem? (i := 119) rfl)
theorem se_MO_split2 : Cond.selects "PatternWorksModel" y_MO_split2 y_MO_split2 ∈ lw_tbl := ab_t0 (List.mem_of_getElem? (i := 132) rfl)
def y_MO_store : MethodName := ⟨"PatternWorksModel", "store", "(II)V"⟩
abbrev b_MO_store : ByteArray := prog_14_method_14_code
theorem m_MO_store : ab_mt y_MO_store b_MO_store 3 none 2 := ⟨by decide, ab_t9 (List.mem_of_getElem? (i := 195) rfl), ab_t1 (List.mem_of_getElem? (i := 13) rfl), ⟨by decide +kernel, by decide +kernel⟩, by decide +kernel⟩
theorem im_MO_store : Cond.instanceMethod y_MO_store ∈ lw_tbl := ab_t9 (List.mem_of_getElem? (i := 194) rfl)
theorem se_MO_store : Cond.selects "PatternWorksModel" y_MO_store y_MO_store ∈ lw_tbl := ab_t0 (List.mem_of_getElem? (i := 95) rfl)
def y_MO_storeCut : MethodName := ⟨"PatternWorksModel", "storeCut", "(II)V"⟩
abbrev b_MO_storeCut : ByteArray := prog_14_method_15_code
theorem m_MO_storeCut : ab_mt y_MO_storeCut b_MO_storeCut 3 none 2 := ⟨by decide, ab_t9 (List.mem_of_getElem? (i := 190) rfl), ab_t1 (List.mem_of_getElem? (i := 13) rfl), ⟨by decide +kernel, by decide +kernel⟩, by decide +kernel⟩
theorem im_MO_storeCut : Cond.instanceMethod y_MO_storeCut ∈ lw_tbl := ab_t9 (List.mem_of_getElem? (i := 189) rfl)
theorem se_MO_storeCut : Cond.selects "PatternWorksModel" y_MO_storeCut y_MO_storeCut ∈ lw_tbl := ab_t0 (List.mem_of_getElem? (i := 94) rfl)
def y_MO_subject : MethodName := ⟨"PatternWorksModel", "subject", "()I"⟩
abbrev b_MO_subject : ByteArray := prog_14_method_76_code
theorem m_MO_subject : ab_mt y_MO_subject b_MO_subject 2 (some (.int)) 0 := ⟨by decide, ab_t10 (List.mem_of_getElem? (i := 140) rfl), ab_t1 (List.mem_of_getElem? (i := 13) rfl), ⟨by decide +kernel, by decide +kernel⟩, by decide +kernel⟩
theorem im_MO_subject : Cond.instanceMethod y_MO_subject ∈ lw_tbl := ab_t10 (List.mem_of_getElem? (i := 138) rfl)
theorem se_MO_subject : Cond.selects "PatternWorksModel" y_MO_subject y_MO_subject ∈ lw_tbl := ab_t10 (List.mem_of_getElem? (i := 139) rfl)
def y_MO_takeStep : MethodName := ⟨"PatternWorksModel", "takeStep", "(II)I"⟩
abbrev b_MO_takeStep : ByteArray := prog_14_method_55_code
theorem m_MO_takeStep : ab_mt y_MO_takeStep b_MO_takeStep 7 (some (.int)) 2 := ⟨by decide, ab_t10 (List.mem_of_getElem? (i := 76) rfl), ab_t1 (List.mem_of_getElem? (i := 13) rfl), ⟨by decide +kernel, by decide +kernel⟩, by decide +kernel⟩
theorem im_MO_takeStep : Cond.instanceMethod y_MO_takeStep ∈ lw_tbl := ab_t10 (List.mem_of_getElem? (i := 75) rfl)
theorem se_MO_takeStep : Cond.selects "PatternWorksModel" y_MO_takeStep y_MO_takeStep ∈ lw_tbl := ab_t0 (List.mem_of_getElem? (i := 121) rfl)
def y_MO_taken : MethodName := ⟨"PatternWorksModel", "taken", "(II)I"⟩
abbrev b_MO_taken : ByteArray := prog_14_method_80_code
theorem m_MO_taken : ab_mt y_MO_taken b_MO_taken 5 (some (.int)) 2 := ⟨by decide, ab_t10 (List.mem_of_getElem? (i := 156) rfl), ab_t1 (List.mem_of_getElem? (i := 13) rfl), ⟨by decide +kernel, by decide +kernel⟩, by decide +kernel⟩
theorem im_MO_taken : Cond.instanceMethod y_MO_taken ∈ lw_tbl := ab_t10 (List.mem_of_getElem? (i := 155) rfl)
theorem se_MO_taken : Cond.selects "PatternWorksModel" y_MO_taken y_MO_taken ∈ lw_tbl := ab_t0 (List.mem_of_getElem? (i := 136) rfl)
def y_MO_undo : MethodName := ⟨"PatternWorksModel", "undo", "(I)V"⟩
abbrev b_MO_undo : ByteArray := prog_14_method_86_code
theorem m_MO_undo : ab_mt y_MO_undo b_MO_undo 2 none 1 := ⟨by decide, ab_t10 (List.mem_of_getElem? (i := 178) rfl), ab_t1 (List.mem_of_getElem? (i := 13) rfl), ⟨by decide +kernel, by decide +kernel⟩, by decide +kernel⟩
theorem im_MO_undo : Cond.instanceMethod y_MO_undo ∈ lw_tbl := ab_t10 (List.mem_of_getElem? (i := 177) rfl)
theorem se_MO_undo : Cond.selects "PatternWorksModel" y_MO_undo y_MO_undo ∈ lw_tbl := ab_t0 (List.mem_of_getElem? (i := 140) rfl)
def y_MO_walk : MethodName := ⟨"PatternWorksModel", "walk", "([JIII)V"⟩
abbrev b_MO_walk : ByteArray := prog_14_method_85_code
theorem m_MO_walk : ab_mt y_MO_walk b_MO_walk 12 none 4 := ⟨by decide, ab_t10 (List.mem_of_getElem? (i := 174) rfl), ab_t1 (List.mem_of_getElem? (i := 13) rfl), ⟨by decide +kernel, by decide +kernel⟩, by decide +kernel⟩
theorem im_MO_walk : Cond.instanceMethod y_MO_walk ∈ lw_tbl := ab_t10 (List.mem_of_getElem? (i := 173) rfl)
theorem se_MO_walk : Cond.selects "PatternWorksModel" y_MO_walk y_MO_walk ∈ lw_tbl := ab_t0 (List.mem_of_getElem? (i := 139) rfl)
def y_MO_which : MethodName := ⟨"PatternWorksModel", "which", "(IZ)I"⟩
abbrev b_MO_which : ByteArray := prog_14_method_105_code
theorem m_MO_which : ab_mt y_MO_which b_MO_which 7 (some (.int)) 2 := ⟨by decide, ab_t11 (List.mem_of_getElem? (i := 14) rfl), ab_t1 (List.mem_of_getElem? (i := 13) rfl), ⟨by decide +kernel, by decide +kernel⟩, by decide +kernel⟩
theorem im_MO_which : Cond.instanceMethod y_MO_which ∈ lw_tbl := ab_t11 (List.mem_of_getElem? (i := 12) rfl)
theorem se_MO_which : Cond.selects "PatternWorksModel" y_MO_which y_MO_which ∈ lw_tbl := ab_t11 (List.mem_of_getElem? (i := 13) rfl)
def y_MO_whichLetter : MethodName := ⟨"PatternWorksModel", "whichLetter", "(I)I"⟩
abbrev b_MO_whichLetter : ByteArray := prog_14_method_33_code
theorem m_MO_whichLetter : ab_mt y_MO_whichLetter b_MO_whichLetter 1 (some (.int)) 1 := ⟨by decide, ab_t9 (List.mem_of_getElem? (i := 152) rfl), ab_t1 (List.mem_of_getElem? (i := 13) rfl), ⟨by decide +kernel, by decide +kernel⟩, by decide +kernel⟩
theorem st_MO_whichLetter : Cond.static y_MO_whichLetter ∈ lw_tbl := ab_t9 (List.mem_of_getElem? (i := 151) rfl)
def y_MO_whichSet : MethodName := ⟨"PatternWorksModel", "whichSet", "(I)I"⟩
abbrev b_MO_whichSet : ByteArray := prog_14_method_32_code
theorem m_MO_whichSet : ab_mt y_MO_whichSet b_MO_whichSet 1 (some (.int)) 1 := ⟨by decide, ab_t9 (List.mem_of_getElem? (i := 149) rfl), ab_t1 (List.mem_of_getElem? (i := 13) rfl), ⟨by decide +kernel, by decide +kernel⟩, by decide +kernel⟩
theorem st_MO_whichSet : Cond.static y_MO_whichSet ∈ lw_tbl := ab_t9 (List.mem_of_getElem? (i := 148) rfl)
def y_MO_wordAt : MethodName := ⟨"PatternWorksModel", "wordAt", "(I)Z"⟩
abbrev b_MO_wordAt : ByteArray := prog_14_method_81_code
theorem m_MO_wordAt : ab_mt y_MO_wordAt b_MO_wordAt 2 (some (.boolean)) 1 := ⟨by decide, ab_t10 (List.mem_of_getElem? (i := 167) rfl), ab_t1 (List.mem_of_getElem? (i := 13) rfl), ⟨by decide +kernel, by decide +kernel⟩, by decide +kernel⟩
theorem im_MO_wordAt : Cond.instanceMethod y_MO_wordAt ∈ lw_tbl := ab_t10 (List.mem_of_getElem? (i := 166) rfl)
theorem se_MO_wordAt : Cond.selects "PatternWorksModel" y_MO_wordAt y_MO_wordAt ∈ lw_tbl := ab_t0 (List.mem_of_getElem? (i := 138) rfl)
def y_MO_write : MethodName := ⟨"PatternWorksModel", "write", "(I)V"⟩
abbrev b_MO_write : ByteArray := prog_14_method_99_code
theorem m_MO_write : ab_mt y_MO_write b_MO_write 2 none 1 := ⟨by decide, ab_t11 (List.mem_of_getElem? (i := 6) rfl), ab_t1 (List.mem_of_getElem? (i := 13) rfl), ⟨by decide +kernel, by decide +kernel⟩, by decide +kernel⟩
theorem im_MO_write : Cond.instanceMethod y_MO_write ∈ lw_tbl := ab_t11 (List.mem_of_getElem? (i := 5) rfl)
theorem se_MO_write : Cond.selects "PatternWorksModel" y_MO_write y_MO_write ∈ lw_tbl := ab_t0 (List.mem_of_getElem? (i := 151) rfl)
def y_MO_writeSubject : MethodName := ⟨"PatternWorksModel", "writeSubject", "(II)V"⟩
abbrev b_MO_writeSubject : ByteArray := prog_14_method_100_code
theorem m_MO_writeSubject : ab_mt y_MO_writeSubject b_MO_writeSubject 4 none 2 := ⟨by decide, ab_t11 (List.mem_of_getElem? (i := 2) rfl), ab_t1 (List.mem_of_getElem? (i := 13) rfl), ⟨by decide +kernel, by decide +kernel⟩, by decide +kernel⟩
theorem im_MO_writeSubject : Cond.instanceMethod y_MO_writeSubject ∈ lw_tbl := ab_t11 (List.mem_of_getElem? (i := 1) rfl)
theorem se_MO_writeSubject : Cond.selects "PatternWorksModel" y_MO_writeSubject y_MO_writeSubject ∈ lw_tbl := ab_t0 (List.mem_of_getElem? (i := 150) rfl)
def y_MO_writeTemplate : MethodName := ⟨"PatternWorksModel", "writeTemplate", "(II)V"⟩
abbrev b_MO_writeTemplate : ByteArray := prog_14_method_102_code
theorem m_MO_writeTemplate : ab_mt y_MO_writeTemplate b_MO_writeTemplate 5 none 2 := ⟨by decide, ab_t11 (List.mem_of_getElem? (i := 10) rfl), ab_t1 (List.mem_of_getElem? (i := 13) rfl), ⟨by decide +kernel, by decide +kernel⟩, by decide +kernel⟩
theorem im_MO_writeTemplate : Cond.instanceMethod y_MO_writeTemplate ∈ lw_tbl := ab_t11 (List.mem_of_getElem? (i := 9) rfl)
theorem se_MO_writeTemplate : Cond.selects "PatternWorksModel" y_MO_writeTemplate y_MO_writeTemplate ∈ lw_tbl := ab_t0 (List.mem_of_getElem? (i := 152) rfl)
def y_MO_wrong : MethodName := ⟨"PatternWorksModel", "wrong", "(II)V"⟩
abbrev b_MO_wrong : ByteArray := prog_14_method_20_code
theorem m_MO_wrong : ab_mt y_MO_wrong b_MO_wrong 3 none 2 := ⟨by decide, ab_t9 (List.mem_of_getElem? (i := 143) rfl), ab_t1 (List.mem_of_getElem? (i := 13) rfl), ⟨by decide +kernel, by decide +kernel⟩, by decide +kernel⟩
theorem im_MO_wrong : Cond.instanceMethod y_MO_wrong ∈ lw_tbl := ab_t9 (List.mem_of_getElem? (i := 142) rfl)
theorem se_MO_wrong : Cond.selects "PatternWorksModel" y_MO_wrong y_MO_wrong ∈ lw_tbl := ab_t0 (List.mem_of_getElem? (i := 86) rfl)
def y_OM_arrive : MethodName := ⟨"PatternWorks$OneMind", "arrive", "(I)Z"⟩
abbrev b_OM_arrive : ByteArray := prog_4_method_9_code
theorem m_OM_arrive : ab_mt y_OM_arrive b_OM_arrive 2 (some (.boolean)) 1 := ⟨by decide, ab_t5 (List.mem_of_getElem? (i := 190) rfl), ab_t1 (List.mem_of_getElem? (i := 10) rfl), ⟨by decide +kernel, by decide +kernel⟩, by decide +kernel⟩
theorem im_OM_arrive : Cond.instanceMethod y_OM_arrive ∈ lw_tbl := ab_t5 (List.mem_of_getElem? (i := 189) rfl)
theorem se_OM_arrive : Cond.selects "PatternWorks$OneMind" y_OM_arrive y_OM_arrive ∈ lw_tbl := ab_t0 (List.mem_of_getElem? (i := 31) rfl)
def y_OM_choose : MethodName := ⟨"PatternWorks$OneMind", "choose", "(II)V"⟩
abbrev b_OM_choose : ByteArray := prog_4_method_7_code
theorem m_OM_choose : ab_mt y_OM_choose b_OM_choose 6 none 2 := ⟨by decide, ab_t5 (List.mem_of_getElem? (i := 185) rfl), ab_t1 (List.mem_of_getElem? (i := 10) rfl), ⟨by decide +kernel, by decide +kernel⟩, by decide +kernel⟩
theorem im_OM_choose : Cond.instanceMethod y_OM_choose ∈ lw_tbl := ab_t5 (List.mem_of_getElem? (i := 184) rfl)
theorem se_OM_choose : Cond.selects "PatternWorks$OneMind" y_OM_choose y_OM_choose ∈ lw_tbl := ab_t0 (List.mem_of_getElem? (i := 30) rfl)
def y_OM_find : MethodName := ⟨"PatternWorks$OneMind", "find", "(LPatternWorks$Program;LPatternWorks$Subject;II[I)I"⟩
abbrev b_OM_find : ByteArray := prog_4_method_6_code
theorem m_OM_find : ab_mt y_OM_find b_OM_find 9 (some (.int)) 5 := ⟨by decide, ab_t5 (List.mem_of_getElem? (i := 179) rfl), ab_t1 (List.mem_of_getElem? (i := 10) rfl), ⟨by decide +kernel, by decide +kernel⟩, by decide +kernel⟩
theorem im_OM_find : Cond.instanceMethod y_OM_find ∈ lw_tbl := ab_t5 (List.mem_of_getElem? (i := 177) rfl)
theorem se_OM_find : Cond.selects "PatternWorks$OneMind" y_OM_find y_OM_find ∈ lw_tbl := ab_t5 (List.mem_of_getElem? (i := 178) rfl)
def y_OM_init : MethodName := ⟨"PatternWorks$OneMind", "<init>", "()V"⟩
abbrev b_OM_init : ByteArray := prog_4_method_1_code
theorem m_OM_init : ab_mt y_OM_init b_OM_init 1 none 0 := ⟨by decide, ab_t2 (List.mem_of_getElem? (i := 145) rfl), ab_t1 (List.mem_of_getElem? (i := 10) rfl), ⟨by decide +kernel, by decide +kernel⟩, by decide +kernel⟩
theorem im_OM_init : Cond.instanceMethod y_OM_init ∈ lw_tbl := ab_t2 (List.mem_of_getElem? (i := 144) rfl)
def y_OM_isClearFrom : MethodName := ⟨"PatternWorks$OneMind", "isClearFrom", "(I)Z"⟩
abbrev b_OM_isClearFrom : ByteArray := prog_4_method_4_code
theorem m_OM_isClearFrom : ab_mt y_OM_isClearFrom b_OM_isClearFrom 8 (some (.boolean)) 1 := ⟨by decide, ab_t5 (List.mem_of_getElem? (i := 147) rfl), ab_t1 (List.mem_of_getElem? (i := 10) rfl), ⟨by decide +kernel, by decide +kernel⟩, by decide +kernel⟩
theorem im_OM_isClearFrom : Cond.instanceMethod y_OM_isClearFrom ∈ lw_tbl := ab_t5 (List.mem_of_getElem? (i := 146) rfl)
theorem se_OM_isClearFrom : Cond.selects "PatternWorks$OneMind" y_OM_isClearFrom y_OM_isClearFrom ∈ lw_tbl := ab_t0 (List.mem_of_getElem? (i := 27) rfl)
def y_OM_isNewTaker : MethodName := ⟨"PatternWorks$OneMind", "isNewTaker", "(I)Z"⟩
abbrev b_OM_isNewTaker : ByteArray := prog_4_method_5_code
theorem m_OM_isNewTaker : ab_mt y_OM_isNewTaker b_OM_isNewTaker 6 (some (.boolean)) 1 := ⟨by decide, ab_t5 (List.mem_of_getElem? (i := 159) rfl), ab_t1 (List.mem_of_getElem? (i := 10) rfl), ⟨by decide +kernel, by decide +kernel⟩, by decide +kernel⟩
theorem im_OM_isNewTaker : Cond.instanceMethod y_OM_isNewTaker ∈ lw_tbl := ab_t5 (List.mem_of_getElem? (i := 158) rfl)
theorem se_OM_isNewTaker : Cond.selects "PatternWorks$OneMind" y_OM_isNewTaker y_OM_isNewTaker ∈ lw_tbl := ab_t0 (List.mem_of_getElem? (i := 28) rfl)
def y_OM_isOfOneMind : MethodName := ⟨"PatternWorks$OneMind", "isOfOneMind", "(LPatternWorks$Program;)Z"⟩
abbrev b_OM_isOfOneMind : ByteArray := prog_4_method_3_code
theorem m_OM_isOfOneMind : ab_mt y_OM_isOfOneMind b_OM_isOfOneMind 5 (some (.boolean)) 1 := ⟨by decide, ab_t5 (List.mem_of_getElem? (i := 142) rfl), ab_t1 (List.mem_of_getElem? (i := 10) rfl), ⟨by decide +kernel, by decide +kernel⟩, by decide +kernel⟩
theorem im_OM_isOfOneMind : Cond.instanceMethod y_OM_isOfOneMind ∈ lw_tbl := ab_t5 (List.mem_of_getElem? (i := 141) rfl)
theorem se_OM_isOfOneMind : Cond.selects "PatternWorks$OneMind" y_OM_isOfOneMind y_OM_isOfOneMind ∈ lw_tbl := ab_t0 (List.mem_of_getElem? (i := 26) rfl)
def y_OM_spread : MethodName := ⟨"PatternWorks$OneMind", "spread", "(II)V"⟩
abbrev b_OM_spread : ByteArray := prog_4_method_8_code
theorem m_OM_spread : ab_mt y_OM_spread b_OM_spread 5 none 2 := ⟨by decide, ab_t5 (List.mem_of_getElem? (i := 196) rfl), ab_t1 (List.mem_of_getElem? (i := 10) rfl), ⟨by decide +kernel, by decide +kernel⟩, by decide +kernel⟩
theorem im_OM_spread : Cond.instanceMethod y_OM_spread ∈ lw_tbl := ab_t5 (List.mem_of_getElem? (i := 195) rfl)
theorem se_OM_spread : Cond.selects "PatternWorks$OneMind" y_OM_spread y_OM_spread ∈ lw_tbl := ab_t0 (List.mem_of_getElem? (i := 32) rfl)
def y_OM_suits : MethodName := ⟨"PatternWorks$OneMind", "suits", "(LPatternWorks$Program;)Z"⟩
abbrev b_OM_suits : ByteArray := prog_4_method_2_code
theorem m_OM_suits : ab_mt y_OM_suits b_OM_suits 2 (some (.boolean)) 1 := ⟨by decide, ab_t5 (List.mem_of_getElem? (i := 138) rfl), ab_t1 (List.mem_of_getElem? (i := 10) rfl), ⟨by decide +kernel, by decide +kernel⟩, by decide +kernel⟩
theorem im_OM_suits : Cond.instanceMethod y_OM_suits ∈ lw_tbl := ab_t5 (List.mem_of_getElem? (i := 136) rfl)
theorem se_OM_suits : Cond.selects "PatternWorks$OneMind" y_OM_suits y_OM_suits ∈ lw_tbl := ab_t5 (List.mem_of_getElem? (i := 137) rfl)
def y_PA_closeRows : MethodName := ⟨"PatternWorks$Part", "closeRows", "()V"⟩
abbrev b_PA_closeRows : ByteArray := prog_5_method_4_code
theorem m_PA_closeRows : ab_mt y_PA_closeRows b_PA_closeRows 3 none 0 := ⟨by decide, ab_t7 (List.mem_of_getElem? (i := 6) rfl), ab_t1 (List.mem_of_getElem? (i := 6) rfl), ⟨by decide +kernel, by decide +kernel⟩, by decide +kernel⟩
theorem im_PA_closeRows : Cond.instanceMethod y_PA_closeRows ∈ lw_tbl := ab_t7 (List.mem_of_getElem? (i := 4) rfl)
theorem se_PA_closeRows : Cond.selects "PatternWorks$Part" y_PA_closeRows y_PA_closeRows ∈ lw_tbl := ab_t7 (List.mem_of_getElem? (i := 5) rfl)
def y_PA_init : MethodName := ⟨"PatternWorks$Part", "<init>", "(IIIZ)V"⟩
abbrev b_PA_init : ByteArray := prog_5_method_1_code
theorem m_PA_init : ab_mt y_PA_init b_PA_init 5 none 4 := ⟨by decide, ab_t1 (List.mem_of_getElem? (i := 127) rfl), ab_t1 (List.mem_of_getElem? (i := 6) rfl), ⟨by decide +kernel, by decide +kernel⟩, by decide +kernel⟩
theorem im_PA_init : Cond.instanceMethod y_PA_init ∈ lw_tbl := ab_t1 (List.mem_of_getElem? (i := 126) rfl)
def y_PA_push : MethodName := ⟨"PatternWorks$Part", "push", "(LPatternWorks$Part;)V"⟩
abbrev b_PA_push : ByteArray := prog_5_method_2_code
theorem m_PA_push : ab_mt y_PA_push b_PA_push 2 none 1 := ⟨by decide, ab_t6 (List.mem_of_getElem? (i := 44) rfl), ab_t1 (List.mem_of_getElem? (i := 6) rfl), ⟨by decide +kernel, by decide +kernel⟩, by decide +kernel⟩
theorem im_PA_push : Cond.instanceMethod y_PA_push ∈ lw_tbl := ab_t6 (List.mem_of_getElem? (i := 42) rfl)
theorem se_PA_push : Cond.selects "PatternWorks$Part" y_PA_push y_PA_push ∈ lw_tbl := ab_t6 (List.mem_of_getElem? (i := 43) rfl)
def y_PA_pushInLastRow : MethodName := ⟨"PatternWorks$Part", "pushInLastRow", "(LPatternWorks$Part;)V"⟩
abbrev b_PA_pushInLastRow : ByteArray := prog_5_method_3_code
theorem m_PA_pushInLastRow : ab_mt y_PA_pushInLastRow b_PA_pushInLastRow 2 none 1 := ⟨by decide, ab_t7 (List.mem_of_getElem? (i := 38) rfl), ab_t1 (List.mem_of_getElem? (i := 6) rfl), ⟨by decide +kernel, by decide +kernel⟩, by decide +kernel⟩
theorem im_PA_pushInLastRow : Cond.instanceMethod y_PA_pushInLastRow ∈ lw_tbl := ab_t7 (List.mem_of_getElem? (i := 36) rfl)
theorem se_PA_pushInLastRow : Cond.selects "PatternWorks$Part" y_PA_pushInLastRow y_PA_pushInLastRow ∈ lw_tbl := ab_t7 (List.mem_of_getElem? (i := 37) rfl)
def y_PA_repeat : MethodName := ⟨"PatternWorks$Part", "repeat", "(IIZ)V"⟩
abbrev b_PA_repeat : ByteArray := prog_5_method_5_code
theorem m_PA_repeat : ab_mt y_PA_repeat b_PA_repeat 6 none 3 := ⟨by decide, ab_t7 (List.mem_of_getElem? (i := 34) rfl), ab_t1 (List.mem_of_getElem? (i := 6) rfl), ⟨by decide +kernel, by decide +kernel⟩, by decide +kernel⟩
theorem im_PA_repeat : Cond.instanceMethod y_PA_repeat ∈ lw_tbl := ab_t7 (List.mem_of_getElem? (i := 32) rfl)
theorem se_PA_repeat : Cond.selects "PatternWorks$Part" y_PA_repeat y_PA_repeat ∈ lw_tbl := ab_t7 (List.mem_of_getElem? (i := 33) rfl)
def y_PR_add : MethodName := ⟨"PatternWorks$Program", "add", "(III)I"⟩
abbrev b_PR_add : ByteArray := prog_6_method_9_code
theorem m_PR_add : ab_mt y_PR_add b_PR_add 4 (some (.int)) 3 := ⟨by decide, ab_t7 (List.mem_of_getElem? (i := 135) rfl), ab_t1 (List.mem_of_getElem? (i := 24) rfl), ⟨by decide +kernel, by decide +kernel⟩, by decide +kernel⟩
theorem im_PR_add : Cond.instanceMethod y_PR_add ∈ lw_tbl := ab_t7 (List.mem_of_getElem? (i := 134) rfl)
theorem se_PR_add : Cond.selects "PatternWorks$Program" y_PR_add y_PR_add ∈ lw_tbl := ab_t0 (List.mem_of_getElem? (i := 64) rfl)
def y_PR_addPair : MethodName := ⟨"PatternWorks$Program", "addPair", "(IJI)J"⟩
abbrev b_PR_addPair : ByteArray := prog_6_method_13_code
theorem m_PR_addPair : ab_mt y_PR_addPair b_PR_addPair 7 (some (.long)) 3 := ⟨by decide, ab_t7 (List.mem_of_getElem? (i := 162) rfl), ab_t1 (List.mem_of_getElem? (i := 24) rfl), ⟨by decide +kernel, by decide +kernel⟩, by decide +kernel⟩
theorem im_PR_addPair : Cond.instanceMethod y_PR_addPair ∈ lw_tbl := ab_t7 (List.mem_of_getElem? (i := 161) rfl)
theorem se_PR_addPair : Cond.selects "PatternWorks$Program" y_PR_addPair y_PR_addPair ∈ lw_tbl := ab_t0 (List.mem_of_getElem? (i := 70) rfl)
def y_PR_build : MethodName := ⟨"PatternWorks$Program", "build", "(LPatternWorks$Part;LPatternWorks$Reader;II)V"⟩
abbrev b_PR_build : ByteArray := prog_6_method_2_code
theorem m_PR_build : ab_mt y_PR_build b_PR_build 6 none 4 := ⟨by decide, ab_t7 (List.mem_of_getElem? (i := 130) rfl), ab_t1 (List.mem_of_getElem? (i := 24) rfl), ⟨by decide +kernel, by decide +kernel⟩, by decide +kernel⟩
theorem im_PR_build : Cond.instanceMethod y_PR_build ∈ lw_tbl := ab_t7 (List.mem_of_getElem? (i := 128) rfl)
theorem se_PR_build : Cond.selects "PatternWorks$Program" y_PR_build y_PR_build ∈ lw_tbl := ab_t7 (List.mem_of_getElem? (i := 129) rfl)
def y_PR_bytesTaken : MethodName := ⟨"PatternWorks$Program", "bytesTaken", "(ILPatternWorks$Subject;I)I"⟩
abbrev b_PR_bytesTaken : ByteArray := prog_6_method_7_code
theorem m_PR_bytesTaken : ab_mt y_PR_bytesTaken b_PR_bytesTaken 5 (some (.int)) 3 := ⟨by decide, ab_t5 (List.mem_of_getElem? (i := 133) rfl), ab_t1 (List.mem_of_getElem? (i := 24) rfl), ⟨by decide +kernel, by decide +kernel⟩, by decide +kernel⟩
theorem im_PR_bytesTaken : Cond.instanceMethod y_PR_bytesTaken ∈ lw_tbl := ab_t5 (List.mem_of_getElem? (i := 131) rfl)
theorem se_PR_bytesTaken : Cond.selects "PatternWorks$Program" y_PR_bytesTaken y_PR_bytesTaken ∈ lw_tbl := ab_t5 (List.mem_of_getElem? (i := 132) rfl)
def y_PR_fork : MethodName := ⟨"PatternWorks$Program", "fork", "(JJ)J"⟩
abbrev b_PR_fork : ByteArray := prog_6_method_14_code
theorem m_PR_fork : ab_mt y_PR_fork b_PR_fork 7 (some (.long)) 2 := ⟨by decide, ab_t7 (List.mem_of_getElem? (i := 178) rfl), ab_t1 (List.mem_of_getElem? (i := 24) rfl), ⟨by decide +kernel, by decide +kernel⟩, by decide +kernel⟩
theorem im_PR_fork : Cond.instanceMethod y_PR_fork ∈ lw_tbl := ab_t7 (List.mem_of_getElem? (i := 177) rfl)
theorem se_PR_fork : Cond.selects "PatternWorks$Program" y_PR_fork y_PR_fork ∈ lw_tbl := ab_t0 (List.mem_of_getElem? (i := 72) rfl)
def y_PR_fresh : MethodName := ⟨"PatternWorks$Program", "fresh", "(J)I"⟩
abbrev b_PR_fresh : ByteArray := prog_6_method_11_code
theorem m_PR_fresh : ab_mt y_PR_fresh b_PR_fresh 2 (some (.int)) 1 := ⟨by decide, ab_t7 (List.mem_of_getElem? (i := 165) rfl), ab_t1 (List.mem_of_getElem? (i := 24) rfl), ⟨by decide +kernel, by decide +kernel⟩, by decide +kernel⟩
theorem st_PR_fresh : Cond.static y_PR_fresh ∈ lw_tbl := ab_t7 (List.mem_of_getElem? (i := 164) rfl)
def y_PR_groupNamed : MethodName := ⟨"PatternWorks$Program", "groupNamed", "(LPatternWorks$Row;II)I"⟩
abbrev b_PR_groupNamed : ByteArray := prog_6_method_4_code
theorem m_PR_groupNamed : ab_mt y_PR_groupNamed b_PR_groupNamed 8 (some (.int)) 3 := ⟨by decide, ab_t7 (List.mem_of_getElem? (i := 224) rfl), ab_t1 (List.mem_of_getElem? (i := 24) rfl), ⟨by decide +kernel, by decide +kernel⟩, by decide +kernel⟩
theorem im_PR_groupNamed : Cond.instanceMethod y_PR_groupNamed ∈ lw_tbl := ab_t7 (List.mem_of_getElem? (i := 222) rfl)
theorem se_PR_groupNamed : Cond.selects "PatternWorks$Program" y_PR_groupNamed y_PR_groupNamed ∈ lw_tbl := ab_t7 (List.mem_of_getElem? (i := 223) rfl)
def y_PR_has : MethodName := ⟨"PatternWorks$Program", "has", "(II)Z"⟩
abbrev b_PR_has : ByteArray := prog_6_method_8_code
theorem m_PR_has : ab_mt y_PR_has b_PR_has 8 (some (.boolean)) 2 := ⟨by decide, ab_t5 (List.mem_of_getElem? (i := 70) rfl), ab_t1 (List.mem_of_getElem? (i := 24) rfl), ⟨by decide +kernel, by decide +kernel⟩, by decide +kernel⟩
theorem im_PR_has : Cond.instanceMethod y_PR_has ∈ lw_tbl := ab_t5 (List.mem_of_getElem? (i := 68) rfl)
theorem se_PR_has : Cond.selects "PatternWorks$Program" y_PR_has y_PR_has ∈ lw_tbl := ab_t5 (List.mem_of_getElem? (i := 69) rfl)
def y_PR_init : MethodName := ⟨"PatternWorks$Program", "<init>", "()V"⟩
abbrev b_PR_init : ByteArray := prog_6_method_1_code
theorem m_PR_init : ab_mt y_PR_init b_PR_init 1 none 0 := ⟨by decide, ab_t7 (List.mem_of_getElem? (i := 44) rfl), ab_t1 (List.mem_of_getElem? (i := 24) rfl), ⟨by decide +kernel, by decide +kernel⟩, by decide +kernel⟩
theorem im_PR_init : Cond.instanceMethod y_PR_init ∈ lw_tbl := ab_t7 (List.mem_of_getElem? (i := 43) rfl)
def y_PR_isOn : MethodName := ⟨"PatternWorks$Program", "isOn", "(I)Z"⟩
abbrev b_PR_isOn : ByteArray := prog_6_method_5_code
theorem m_PR_isOn : ab_mt y_PR_isOn b_PR_isOn 2 (some (.boolean)) 1 := ⟨by decide, ab_t5 (List.mem_of_getElem? (i := 91) rfl), ab_t1 (List.mem_of_getElem? (i := 24) rfl), ⟨by decide +kernel, by decide +kernel⟩, by decide +kernel⟩
theorem im_PR_isOn : Cond.instanceMethod y_PR_isOn ∈ lw_tbl := ab_t5 (List.mem_of_getElem? (i := 89) rfl)
theorem se_PR_isOn : Cond.selects "PatternWorks$Program" y_PR_isOn y_PR_isOn ∈ lw_tbl := ab_t5 (List.mem_of_getElem? (i := 90) rfl)
def y_PR_loop : MethodName := ⟨"PatternWorks$Program", "loop", "(LPatternWorks$Part;JI)J"⟩
abbrev b_PR_loop : ByteArray := prog_6_method_18_code
theorem m_PR_loop : ab_mt y_PR_loop b_PR_loop 8 (some (.long)) 3 := ⟨by decide, ab_t7 (List.mem_of_getElem? (i := 154) rfl), ab_t1 (List.mem_of_getElem? (i := 24) rfl), ⟨by decide +kernel, by decide +kernel⟩, by decide +kernel⟩
theorem im_PR_loop : Cond.instanceMethod y_PR_loop ∈ lw_tbl := ab_t7 (List.mem_of_getElem? (i := 153) rfl)
theorem se_PR_loop : Cond.selects "PatternWorks$Program" y_PR_loop y_PR_loop ∈ lw_tbl := ab_t0 (List.mem_of_getElem? (i := 68) rfl)
def y_PR_nameByte : MethodName := ⟨"PatternWorks$Program", "nameByte", "(II)I"⟩
abbrev b_PR_nameByte : ByteArray := prog_6_method_3_code
theorem m_PR_nameByte : ab_mt y_PR_nameByte b_PR_nameByte 4 (some (.int)) 2 := ⟨by decide, ab_t3 (List.mem_of_getElem? (i := 136) rfl), ab_t1 (List.mem_of_getElem? (i := 24) rfl), ⟨by decide +kernel, by decide +kernel⟩, by decide +kernel⟩
theorem im_PR_nameByte : Cond.instanceMethod y_PR_nameByte ∈ lw_tbl := ab_t3 (List.mem_of_getElem? (i := 134) rfl)
theorem se_PR_nameByte : Cond.selects "PatternWorks$Program" y_PR_nameByte y_PR_nameByte ∈ lw_tbl := ab_t3 (List.mem_of_getElem? (i := 135) rfl)
def y_PR_once : MethodName := ⟨"PatternWorks$Program", "once", "(LPatternWorks$Part;JI)J"⟩
abbrev b_PR_once : ByteArray := prog_6_method_19_code
theorem m_PR_once : ab_mt y_PR_once b_PR_once 7 (some (.long)) 3 := ⟨by decide, ab_t7 (List.mem_of_getElem? (i := 158) rfl), ab_t1 (List.mem_of_getElem? (i := 24) rfl), ⟨by decide +kernel, by decide +kernel⟩, by decide +kernel⟩
theorem im_PR_once : Cond.instanceMethod y_PR_once ∈ lw_tbl := ab_t7 (List.mem_of_getElem? (i := 157) rfl)
theorem se_PR_once : Cond.selects "PatternWorks$Program" y_PR_once y_PR_once ∈ lw_tbl := ab_t0 (List.mem_of_getElem? (i := 69) rfl)
def y_PR_pair : MethodName := ⟨"PatternWorks$Program", "pair", "(II)J"⟩
abbrev b_PR_pair : ByteArray := prog_6_method_10_code
theorem m_PR_pair : ab_mt y_PR_pair b_PR_pair 2 (some (.long)) 2 := ⟨by decide, ab_t7 (List.mem_of_getElem? (i := 138) rfl), ab_t1 (List.mem_of_getElem? (i := 24) rfl), ⟨by decide +kernel, by decide +kernel⟩, by decide +kernel⟩
theorem st_PR_pair : Cond.static y_PR_pair ∈ lw_tbl := ab_t7 (List.mem_of_getElem? (i := 137) rfl)
def y_PR_recordOf : MethodName := ⟨"PatternWorks$Program", "recordOf", "(LPatternWorks$Part;)I"⟩
abbrev b_PR_recordOf : ByteArray := prog_6_method_20_code
theorem m_PR_recordOf : ab_mt y_PR_recordOf b_PR_recordOf 3 (some (.int)) 1 := ⟨by decide, ab_t7 (List.mem_of_getElem? (i := 172) rfl), ab_t1 (List.mem_of_getElem? (i := 24) rfl), ⟨by decide +kernel, by decide +kernel⟩, by decide +kernel⟩
theorem im_PR_recordOf : Cond.instanceMethod y_PR_recordOf ∈ lw_tbl := ab_t7 (List.mem_of_getElem? (i := 171) rfl)
theorem se_PR_recordOf : Cond.selects "PatternWorks$Program" y_PR_recordOf y_PR_recordOf ∈ lw_tbl := ab_t0 (List.mem_of_getElem? (i := 71) rfl)
def y_PR_repeated : MethodName := ⟨"PatternWorks$Program", "repeated", "(LPatternWorks$Part;JI)J"⟩
abbrev b_PR_repeated : ByteArray := prog_6_method_17_code
theorem m_PR_repeated : ab_mt y_PR_repeated b_PR_repeated 10 (some (.long)) 3 := ⟨by decide, ab_t7 (List.mem_of_getElem? (i := 150) rfl), ab_t1 (List.mem_of_getElem? (i := 24) rfl), ⟨by decide +kernel, by decide +kernel⟩, by decide +kernel⟩
theorem im_PR_repeated : Cond.instanceMethod y_PR_repeated ∈ lw_tbl := ab_t7 (List.mem_of_getElem? (i := 149) rfl)
theorem se_PR_repeated : Cond.selects "PatternWorks$Program" y_PR_repeated y_PR_repeated ∈ lw_tbl := ab_t0 (List.mem_of_getElem? (i := 67) rfl)
def y_PR_row : MethodName := ⟨"PatternWorks$Program", "row", "(LPatternWorks$Part;JI)J"⟩
abbrev b_PR_row : ByteArray := prog_6_method_16_code
theorem m_PR_row : ab_mt y_PR_row b_PR_row 8 (some (.long)) 3 := ⟨by decide, ab_t7 (List.mem_of_getElem? (i := 146) rfl), ab_t1 (List.mem_of_getElem? (i := 24) rfl), ⟨by decide +kernel, by decide +kernel⟩, by decide +kernel⟩
theorem im_PR_row : Cond.instanceMethod y_PR_row ∈ lw_tbl := ab_t7 (List.mem_of_getElem? (i := 145) rfl)
theorem se_PR_row : Cond.selects "PatternWorks$Program" y_PR_row y_PR_row ∈ lw_tbl := ab_t0 (List.mem_of_getElem? (i := 66) rfl)
def y_PR_rows : MethodName := ⟨"PatternWorks$Program", "rows", "(LPatternWorks$Part;JI)J"⟩
abbrev b_PR_rows : ByteArray := prog_6_method_15_code
theorem m_PR_rows : ab_mt y_PR_rows b_PR_rows 8 (some (.long)) 3 := ⟨by decide, ab_t7 (List.mem_of_getElem? (i := 142) rfl), ab_t1 (List.mem_of_getElem? (i := 24) rfl), ⟨by decide +kernel, by decide +kernel⟩, by decide +kernel⟩
theorem im_PR_rows : Cond.instanceMethod y_PR_rows ∈ lw_tbl := ab_t7 (List.mem_of_getElem? (i := 141) rfl)
theorem se_PR_rows : Cond.selects "PatternWorks$Program" y_PR_rows y_PR_rows ∈ lw_tbl := ab_t0 (List.mem_of_getElem? (i := 65) rfl)
def y_PR_takes : MethodName := ⟨"PatternWorks$Program", "takes", "(I)Z"⟩
abbrev b_PR_takes : ByteArray := prog_6_method_6_code
theorem m_PR_takes : ab_mt y_PR_takes b_PR_takes 2 (some (.boolean)) 1 := ⟨by decide, ab_t5 (List.mem_of_getElem? (i := 155) rfl), ab_t1 (List.mem_of_getElem? (i := 24) rfl), ⟨by decide +kernel, by decide +kernel⟩, by decide +kernel⟩
theorem im_PR_takes : Cond.instanceMethod y_PR_takes ∈ lw_tbl := ab_t5 (List.mem_of_getElem? (i := 153) rfl)
theorem se_PR_takes : Cond.selects "PatternWorks$Program" y_PR_takes y_PR_takes ∈ lw_tbl := ab_t5 (List.mem_of_getElem? (i := 154) rfl)
def y_PR_used : MethodName := ⟨"PatternWorks$Program", "used", "(J)I"⟩
abbrev b_PR_used : ByteArray := prog_6_method_12_code
theorem m_PR_used : ab_mt y_PR_used b_PR_used 2 (some (.int)) 1 := ⟨by decide, ab_t7 (List.mem_of_getElem? (i := 168) rfl), ab_t1 (List.mem_of_getElem? (i := 24) rfl), ⟨by decide +kernel, by decide +kernel⟩, by decide +kernel⟩
theorem st_PR_used : Cond.static y_PR_used ∈ lw_tbl := ab_t7 (List.mem_of_getElem? (i := 167) rfl)
def y_PW_about : MethodName := ⟨"PatternWorks", "about", "(II)I"⟩
abbrev b_PW_about : ByteArray := prog_1_method_6_code
theorem m_PW_about : ab_mt y_PW_about b_PW_about 4 (some (.int)) 2 := ⟨by decide, ab_t3 (List.mem_of_getElem? (i := 124) rfl), ab_t1 (List.mem_of_getElem? (i := 1) rfl), ⟨by decide +kernel, by decide +kernel⟩, by decide +kernel⟩
theorem im_PW_about : Cond.instanceMethod y_PW_about ∈ lw_tbl := ab_t3 (List.mem_of_getElem? (i := 122) rfl)
theorem se_PW_about : Cond.selects "PatternWorks" y_PW_about y_PW_about ∈ lw_tbl := ab_t3 (List.mem_of_getElem? (i := 123) rfl)
def y_PW_addTemplate : MethodName := ⟨"PatternWorks", "addTemplate", "()Z"⟩
abbrev b_PW_addTemplate : ByteArray := prog_1_method_30_code
theorem m_PW_addTemplate : ab_mt y_PW_addTemplate b_PW_addTemplate 5 (some (.boolean)) 0 := ⟨by decide, ab_t7 (List.mem_of_getElem? (i := 230) rfl), ab_t1 (List.mem_of_getElem? (i := 1) rfl), ⟨by decide +kernel, by decide +kernel⟩, by decide +kernel⟩
theorem im_PW_addTemplate : Cond.instanceMethod y_PW_addTemplate ∈ lw_tbl := ab_t7 (List.mem_of_getElem? (i := 229) rfl)
theorem se_PW_addTemplate : Cond.selects "PatternWorks" y_PW_addTemplate y_PW_addTemplate ∈ lw_tbl := ab_t0 (List.mem_of_getElem? (i := 77) rfl)
def y_PW_all : MethodName := ⟨"PatternWorks", "all", "(I)I"⟩
abbrev b_PW_all : ByteArray := prog_1_method_11_code
theorem m_PW_all : ab_mt y_PW_all b_PW_all 5 (some (.int)) 1 := ⟨by decide, ab_t7 (List.mem_of_getElem? (i := 195) rfl), ab_t1 (List.mem_of_getElem? (i := 1) rfl), ⟨by decide +kernel, by decide +kernel⟩, by decide +kernel⟩
theorem im_PW_all : Cond.instanceMethod y_PW_all ∈ lw_tbl := ab_t7 (List.mem_of_getElem? (i := 193) rfl)
theorem se_PW_all : Cond.selects "PatternWorks" y_PW_all y_PW_all ∈ lw_tbl := ab_t7 (List.mem_of_getElem? (i := 194) rfl)
def y_PW_codeAt : MethodName := ⟨"PatternWorks", "codeAt", "([III)I"⟩
abbrev b_PW_codeAt : ByteArray := prog_1_method_34_code
theorem m_PW_codeAt : ab_mt y_PW_codeAt b_PW_codeAt 8 (some (.int)) 3 := ⟨by decide, ab_t3 (List.mem_of_getElem? (i := 150) rfl), ab_t1 (List.mem_of_getElem? (i := 1) rfl), ⟨by decide +kernel, by decide +kernel⟩, by decide +kernel⟩
theorem st_PW_codeAt : Cond.static y_PW_codeAt ∈ lw_tbl := ab_t3 (List.mem_of_getElem? (i := 149) rfl)
def y_PW_compile : MethodName := ⟨"PatternWorks", "compile", "(II)I"⟩
abbrev b_PW_compile : ByteArray := prog_1_method_4_code
theorem m_PW_compile : ab_mt y_PW_compile b_PW_compile 4 (some (.int)) 2 := ⟨by decide, ab_t6 (List.mem_of_getElem? (i := 29) rfl), ab_t1 (List.mem_of_getElem? (i := 1) rfl), ⟨by decide +kernel, by decide +kernel⟩, by decide +kernel⟩
theorem im_PW_compile : Cond.instanceMethod y_PW_compile ∈ lw_tbl := ab_t6 (List.mem_of_getElem? (i := 27) rfl)
theorem se_PW_compile : Cond.selects "PatternWorks" y_PW_compile y_PW_compile ∈ lw_tbl := ab_t6 (List.mem_of_getElem? (i := 28) rfl)
def y_PW_dollarItem : MethodName := ⟨"PatternWorks", "dollarItem", "(LPatternWorks$Program;II)I"⟩
abbrev b_PW_dollarItem : ByteArray := prog_1_method_29_code
theorem m_PW_dollarItem : ab_mt y_PW_dollarItem b_PW_dollarItem 6 (some (.int)) 3 := ⟨by decide, ab_t7 (List.mem_of_getElem? (i := 220) rfl), ab_t1 (List.mem_of_getElem? (i := 1) rfl), ⟨by decide +kernel, by decide +kernel⟩, by decide +kernel⟩
theorem im_PW_dollarItem : Cond.instanceMethod y_PW_dollarItem ∈ lw_tbl := ab_t7 (List.mem_of_getElem? (i := 219) rfl)
theorem se_PW_dollarItem : Cond.selects "PatternWorks" y_PW_dollarItem y_PW_dollarItem ∈ lw_tbl := ab_t0 (List.mem_of_getElem? (i := 76) rfl)
def y_PW_dollarLength : MethodName := ⟨"PatternWorks", "dollarLength", "(I)I"⟩
abbrev b_PW_dollarLength : ByteArray := prog_1_method_28_code
theorem m_PW_dollarLength : ab_mt y_PW_dollarLength b_PW_dollarLength 4 (some (.int)) 1 := ⟨by decide, ab_t7 (List.mem_of_getElem? (i := 216) rfl), ab_t1 (List.mem_of_getElem? (i := 1) rfl), ⟨by decide +kernel, by decide +kernel⟩, by decide +kernel⟩
theorem im_PW_dollarLength : Cond.instanceMethod y_PW_dollarLength ∈ lw_tbl := ab_t7 (List.mem_of_getElem? (i := 215) rfl)
theorem se_PW_dollarLength : Cond.selects "PatternWorks" y_PW_dollarLength y_PW_dollarLength ∈ lw_tbl := ab_t0 (List.mem_of_getElem? (i := 75) rfl)
def y_PW_end : MethodName := ⟨"PatternWorks", "end", "(I)I"⟩
abbrev b_PW_end : ByteArray := prog_1_method_3_code
theorem m_PW_end : ab_mt y_PW_end b_PW_end 2 (some (.int)) 1 := ⟨by decide, ab_t3 (List.mem_of_getElem? (i := 87) rfl), ab_t1 (List.mem_of_getElem? (i := 1) rfl), ⟨by decide +kernel, by decide +kernel⟩, by decide +kernel⟩
theorem im_PW_end : Cond.instanceMethod y_PW_end ∈ lw_tbl := ab_t3 (List.mem_of_getElem? (i := 85) rfl)
theorem se_PW_end : Cond.selects "PatternWorks" y_PW_end y_PW_end ∈ lw_tbl := ab_t3 (List.mem_of_getElem? (i := 86) rfl)
def y_PW_fault : MethodName := ⟨"PatternWorks", "fault", "(I)I"⟩
abbrev b_PW_fault : ByteArray := prog_1_method_5_code
theorem m_PW_fault : ab_mt y_PW_fault b_PW_fault 2 (some (.int)) 1 := ⟨by decide, ab_t3 (List.mem_of_getElem? (i := 120) rfl), ab_t1 (List.mem_of_getElem? (i := 1) rfl), ⟨by decide +kernel, by decide +kernel⟩, by decide +kernel⟩
theorem im_PW_fault : Cond.instanceMethod y_PW_fault ∈ lw_tbl := ab_t3 (List.mem_of_getElem? (i := 118) rfl)
theorem se_PW_fault : Cond.selects "PatternWorks" y_PW_fault y_PW_fault ∈ lw_tbl := ab_t3 (List.mem_of_getElem? (i := 119) rfl)
def y_PW_feed : MethodName := ⟨"PatternWorks", "feed", "(IIIII)V"⟩
abbrev b_PW_feed : ByteArray := prog_1_method_2_code
theorem m_PW_feed : ab_mt y_PW_feed b_PW_feed 6 none 5 := ⟨by decide, ab_t3 (List.mem_of_getElem? (i := 79) rfl), ab_t1 (List.mem_of_getElem? (i := 1) rfl), ⟨by decide +kernel, by decide +kernel⟩, by decide +kernel⟩
theorem im_PW_feed : Cond.instanceMethod y_PW_feed ∈ lw_tbl := ab_t3 (List.mem_of_getElem? (i := 77) rfl)
theorem se_PW_feed : Cond.selects "PatternWorks" y_PW_feed y_PW_feed ∈ lw_tbl := ab_t3 (List.mem_of_getElem? (i := 78) rfl)
def y_PW_found : MethodName := ⟨"PatternWorks", "found", "(II)I"⟩
abbrev b_PW_found : ByteArray := prog_1_method_12_code
theorem m_PW_found : ab_mt y_PW_found b_PW_found 3 (some (.int)) 2 := ⟨by decide, ab_t3 (List.mem_of_getElem? (i := 173) rfl), ab_t1 (List.mem_of_getElem? (i := 1) rfl), ⟨by decide +kernel, by decide +kernel⟩, by decide +kernel⟩
theorem im_PW_found : Cond.instanceMethod y_PW_found ∈ lw_tbl := ab_t3 (List.mem_of_getElem? (i := 171) rfl)
theorem se_PW_found : Cond.selects "PatternWorks" y_PW_found y_PW_found ∈ lw_tbl := ab_t3 (List.mem_of_getElem? (i := 172) rfl)
def y_PW_group : MethodName := ⟨"PatternWorks", "group", "(II)I"⟩
abbrev b_PW_group : ByteArray := prog_1_method_10_code
theorem m_PW_group : ab_mt y_PW_group b_PW_group 3 (some (.int)) 2 := ⟨by decide, ab_t3 (List.mem_of_getElem? (i := 169) rfl), ab_t1 (List.mem_of_getElem? (i := 1) rfl), ⟨by decide +kernel, by decide +kernel⟩, by decide +kernel⟩
theorem im_PW_group : Cond.instanceMethod y_PW_group ∈ lw_tbl := ab_t3 (List.mem_of_getElem? (i := 167) rfl)
theorem se_PW_group : Cond.selects "PatternWorks" y_PW_group y_PW_group ∈ lw_tbl := ab_t3 (List.mem_of_getElem? (i := 168) rfl)
def y_PW_hunt : MethodName := ⟨"PatternWorks", "hunt", "(I)Z"⟩
abbrev b_PW_hunt : ByteArray := prog_1_method_25_code
theorem m_PW_hunt : ab_mt y_PW_hunt b_PW_hunt 3 (some (.boolean)) 1 := ⟨by decide, ab_t7 (List.mem_of_getElem? (i := 200) rfl), ab_t1 (List.mem_of_getElem? (i := 1) rfl), ⟨by decide +kernel, by decide +kernel⟩, by decide +kernel⟩
theorem im_PW_hunt : Cond.instanceMethod y_PW_hunt ∈ lw_tbl := ab_t7 (List.mem_of_getElem? (i := 199) rfl)
theorem se_PW_hunt : Cond.selects "PatternWorks" y_PW_hunt y_PW_hunt ∈ lw_tbl := ab_t0 (List.mem_of_getElem? (i := 73) rfl)
def y_PW_init : MethodName := ⟨"PatternWorks", "<init>", "()V"⟩
abbrev b_PW_init : ByteArray := prog_1_method_1_code
theorem m_PW_init : ab_mt y_PW_init b_PW_init 1 none 0 := ⟨by decide, ab_t1 (List.mem_of_getElem? (i := 33) rfl), ab_t1 (List.mem_of_getElem? (i := 1) rfl), ⟨by decide +kernel, by decide +kernel⟩, by decide +kernel⟩
theorem im_PW_init : Cond.instanceMethod y_PW_init ∈ lw_tbl := ab_t1 (List.mem_of_getElem? (i := 32) rfl)
def y_PW_isCharacter : MethodName := ⟨"PatternWorks", "isCharacter", "(I)Z"⟩
abbrev b_PW_isCharacter : ByteArray := prog_1_method_32_code
theorem m_PW_isCharacter : ab_mt y_PW_isCharacter b_PW_isCharacter 1 (some (.boolean)) 1 := ⟨by decide, ab_t3 (List.mem_of_getElem? (i := 157) rfl), ab_t1 (List.mem_of_getElem? (i := 1) rfl), ⟨by decide +kernel, by decide +kernel⟩, by decide +kernel⟩
theorem st_PW_isCharacter : Cond.static y_PW_isCharacter ∈ lw_tbl := ab_t3 (List.mem_of_getElem? (i := 156) rfl)
def y_PW_isWord : MethodName := ⟨"PatternWorks", "isWord", "(I)Z"⟩
abbrev b_PW_isWord : ByteArray := prog_1_method_31_code
theorem m_PW_isWord : ab_mt y_PW_isWord b_PW_isWord 1 (some (.boolean)) 1 := ⟨by decide, ab_t2 (List.mem_of_getElem? (i := 2) rfl), ab_t1 (List.mem_of_getElem? (i := 1) rfl), ⟨by decide +kernel, by decide +kernel⟩, by decide +kernel⟩
theorem st_PW_isWord : Cond.static y_PW_isWord ∈ lw_tbl := ab_t2 (List.mem_of_getElem? (i := 1) rfl)
def y_PW_keep : MethodName := ⟨"PatternWorks", "keep", "(I)V"⟩
abbrev b_PW_keep : ByteArray := prog_1_method_19_code
theorem m_PW_keep : ab_mt y_PW_keep b_PW_keep 2 none 1 := ⟨by decide, ab_t8 (List.mem_of_getElem? (i := 5) rfl), ab_t1 (List.mem_of_getElem? (i := 1) rfl), ⟨by decide +kernel, by decide +kernel⟩, by decide +kernel⟩
theorem im_PW_keep : Cond.instanceMethod y_PW_keep ∈ lw_tbl := ab_t8 (List.mem_of_getElem? (i := 3) rfl)
theorem se_PW_keep : Cond.selects "PatternWorks" y_PW_keep y_PW_keep ∈ lw_tbl := ab_t8 (List.mem_of_getElem? (i := 4) rfl)
def y_PW_makeReady : MethodName := ⟨"PatternWorks", "makeReady", "(II)V"⟩
abbrev b_PW_makeReady : ByteArray := prog_1_method_21_code
theorem m_PW_makeReady : ab_mt y_PW_makeReady b_PW_makeReady 4 none 2 := ⟨by decide, ab_t3 (List.mem_of_getElem? (i := 83) rfl), ab_t1 (List.mem_of_getElem? (i := 1) rfl), ⟨by decide +kernel, by decide +kernel⟩, by decide +kernel⟩
theorem im_PW_makeReady : Cond.instanceMethod y_PW_makeReady ∈ lw_tbl := ab_t3 (List.mem_of_getElem? (i := 82) rfl)
theorem se_PW_makeReady : Cond.selects "PatternWorks" y_PW_makeReady y_PW_makeReady ∈ lw_tbl := ab_t0 (List.mem_of_getElem? (i := 1) rfl)
def y_PW_match : MethodName := ⟨"PatternWorks", "match", "(IIII)I"⟩
abbrev b_PW_match : ByteArray := prog_1_method_9_code
theorem m_PW_match : ab_mt y_PW_match b_PW_match 7 (some (.int)) 4 := ⟨by decide, ab_t7 (List.mem_of_getElem? (i := 185) rfl), ab_t1 (List.mem_of_getElem? (i := 1) rfl), ⟨by decide +kernel, by decide +kernel⟩, by decide +kernel⟩
theorem im_PW_match : Cond.instanceMethod y_PW_match ∈ lw_tbl := ab_t7 (List.mem_of_getElem? (i := 183) rfl)
theorem se_PW_match : Cond.selects "PatternWorks" y_PW_match y_PW_match ∈ lw_tbl := ab_t7 (List.mem_of_getElem? (i := 184) rfl)
def y_PW_name : MethodName := ⟨"PatternWorks", "name", "(III)I"⟩
abbrev b_PW_name : ByteArray := prog_1_method_7_code
theorem m_PW_name : ab_mt y_PW_name b_PW_name 5 (some (.int)) 3 := ⟨by decide, ab_t3 (List.mem_of_getElem? (i := 132) rfl), ab_t1 (List.mem_of_getElem? (i := 1) rfl), ⟨by decide +kernel, by decide +kernel⟩, by decide +kernel⟩
theorem im_PW_name : Cond.instanceMethod y_PW_name ∈ lw_tbl := ab_t3 (List.mem_of_getElem? (i := 130) rfl)
theorem se_PW_name : Cond.selects "PatternWorks" y_PW_name y_PW_name ∈ lw_tbl := ab_t3 (List.mem_of_getElem? (i := 131) rfl)
def y_PW_output : MethodName := ⟨"PatternWorks", "output", "(I)I"⟩
abbrev b_PW_output : ByteArray := prog_1_method_18_code
theorem m_PW_output : ab_mt y_PW_output b_PW_output 2 (some (.int)) 1 := ⟨by decide, ab_t6 (List.mem_of_getElem? (i := 17) rfl), ab_t1 (List.mem_of_getElem? (i := 1) rfl), ⟨by decide +kernel, by decide +kernel⟩, by decide +kernel⟩
theorem im_PW_output : Cond.instanceMethod y_PW_output ∈ lw_tbl := ab_t6 (List.mem_of_getElem? (i := 15) rfl)
theorem se_PW_output : Cond.selects "PatternWorks" y_PW_output y_PW_output ∈ lw_tbl := ab_t6 (List.mem_of_getElem? (i := 16) rfl)
def y_PW_over : MethodName := ⟨"PatternWorks", "over", "()I"⟩
abbrev b_PW_over : ByteArray := prog_1_method_20_code
theorem m_PW_over : ab_mt y_PW_over b_PW_over 1 (some (.int)) 0 := ⟨by decide, ab_t6 (List.mem_of_getElem? (i := 21) rfl), ab_t1 (List.mem_of_getElem? (i := 1) rfl), ⟨by decide +kernel, by decide +kernel⟩, by decide +kernel⟩
theorem im_PW_over : Cond.instanceMethod y_PW_over ∈ lw_tbl := ab_t6 (List.mem_of_getElem? (i := 19) rfl)
theorem se_PW_over : Cond.selects "PatternWorks" y_PW_over y_PW_over ∈ lw_tbl := ab_t6 (List.mem_of_getElem? (i := 20) rfl)
def y_PW_pairAt : MethodName := ⟨"PatternWorks", "pairAt", "(LPatternWorks$Row;II)I"⟩
abbrev b_PW_pairAt : ByteArray := prog_1_method_23_code
theorem m_PW_pairAt : ab_mt y_PW_pairAt b_PW_pairAt 4 (some (.int)) 3 := ⟨by decide, ab_t3 (List.mem_of_getElem? (i := 176) rfl), ab_t1 (List.mem_of_getElem? (i := 1) rfl), ⟨by decide +kernel, by decide +kernel⟩, by decide +kernel⟩
theorem st_PW_pairAt : Cond.static y_PW_pairAt ∈ lw_tbl := ab_t3 (List.mem_of_getElem? (i := 175) rfl)
def y_PW_piece : MethodName := ⟨"PatternWorks", "piece", "(II)I"⟩
abbrev b_PW_piece : ByteArray := prog_1_method_15_code
theorem m_PW_piece : ab_mt y_PW_piece b_PW_piece 3 (some (.int)) 2 := ⟨by decide, ab_t3 (List.mem_of_getElem? (i := 184) rfl), ab_t1 (List.mem_of_getElem? (i := 1) rfl), ⟨by decide +kernel, by decide +kernel⟩, by decide +kernel⟩
theorem im_PW_piece : Cond.instanceMethod y_PW_piece ∈ lw_tbl := ab_t3 (List.mem_of_getElem? (i := 182) rfl)
theorem se_PW_piece : Cond.selects "PatternWorks" y_PW_piece y_PW_piece ∈ lw_tbl := ab_t3 (List.mem_of_getElem? (i := 183) rfl)
def y_PW_programAt : MethodName := ⟨"PatternWorks", "programAt", "(I)LPatternWorks$Program;"⟩
abbrev b_PW_programAt : ByteArray := prog_1_method_22_code
theorem m_PW_programAt : ab_mt y_PW_programAt b_PW_programAt 2 (some (.object "PatternWorks$Program")) 1 := ⟨by decide, ab_t3 (List.mem_of_getElem? (i := 128) rfl), ab_t1 (List.mem_of_getElem? (i := 1) rfl), ⟨by decide +kernel, by decide +kernel⟩, by decide +kernel⟩
theorem im_PW_programAt : Cond.instanceMethod y_PW_programAt ∈ lw_tbl := ab_t3 (List.mem_of_getElem? (i := 127) rfl)
theorem se_PW_programAt : Cond.selects "PatternWorks" y_PW_programAt y_PW_programAt ∈ lw_tbl := ab_t0 (List.mem_of_getElem? (i := 3) rfl)
def y_PW_quote : MethodName := ⟨"PatternWorks", "quote", "()I"⟩
abbrev b_PW_quote : ByteArray := prog_1_method_17_code
theorem m_PW_quote : ab_mt y_PW_quote b_PW_quote 3 (some (.int)) 0 := ⟨by decide, ab_t6 (List.mem_of_getElem? (i := 8) rfl), ab_t1 (List.mem_of_getElem? (i := 1) rfl), ⟨by decide +kernel, by decide +kernel⟩, by decide +kernel⟩
theorem im_PW_quote : Cond.instanceMethod y_PW_quote ∈ lw_tbl := ab_t6 (List.mem_of_getElem? (i := 6) rfl)
theorem se_PW_quote : Cond.selects "PatternWorks" y_PW_quote y_PW_quote ∈ lw_tbl := ab_t6 (List.mem_of_getElem? (i := 7) rfl)
def y_PW_readTemplate : MethodName := ⟨"PatternWorks", "readTemplate", "(LPatternWorks$Program;)Z"⟩
abbrev b_PW_readTemplate : ByteArray := prog_1_method_27_code
theorem m_PW_readTemplate : ab_mt y_PW_readTemplate b_PW_readTemplate 6 (some (.boolean)) 1 := ⟨by decide, ab_t7 (List.mem_of_getElem? (i := 212) rfl), ab_t1 (List.mem_of_getElem? (i := 1) rfl), ⟨by decide +kernel, by decide +kernel⟩, by decide +kernel⟩
theorem im_PW_readTemplate : Cond.instanceMethod y_PW_readTemplate ∈ lw_tbl := ab_t7 (List.mem_of_getElem? (i := 211) rfl)
theorem se_PW_readTemplate : Cond.selects "PatternWorks" y_PW_readTemplate y_PW_readTemplate ∈ lw_tbl := ab_t0 (List.mem_of_getElem? (i := 74) rfl)
def y_PW_replace : MethodName := ⟨"PatternWorks", "replace", "(I)I"⟩
abbrev b_PW_replace : ByteArray := prog_1_method_13_code
theorem m_PW_replace : ab_mt y_PW_replace b_PW_replace 8 (some (.int)) 1 := ⟨by decide, ab_t7 (List.mem_of_getElem? (i := 208) rfl), ab_t1 (List.mem_of_getElem? (i := 1) rfl), ⟨by decide +kernel, by decide +kernel⟩, by decide +kernel⟩
theorem im_PW_replace : Cond.instanceMethod y_PW_replace ∈ lw_tbl := ab_t7 (List.mem_of_getElem? (i := 206) rfl)
theorem se_PW_replace : Cond.selects "PatternWorks" y_PW_replace y_PW_replace ∈ lw_tbl := ab_t7 (List.mem_of_getElem? (i := 207) rfl)
def y_PW_run : MethodName := ⟨"PatternWorks", "run", "(LPatternWorks$Program;III)I"⟩
abbrev b_PW_run : ByteArray := prog_1_method_24_code
theorem m_PW_run : ab_mt y_PW_run b_PW_run 5 (some (.int)) 4 := ⟨by decide, ab_t5 (List.mem_of_getElem? (i := 83) rfl), ab_t1 (List.mem_of_getElem? (i := 1) rfl), ⟨by decide +kernel, by decide +kernel⟩, by decide +kernel⟩
theorem im_PW_run : Cond.instanceMethod y_PW_run ∈ lw_tbl := ab_t5 (List.mem_of_getElem? (i := 82) rfl)
theorem se_PW_run : Cond.selects "PatternWorks" y_PW_run y_PW_run ∈ lw_tbl := ab_t0 (List.mem_of_getElem? (i := 19) rfl)
def y_PW_settle : MethodName := ⟨"PatternWorks", "settle", "(II)V"⟩
abbrev b_PW_settle : ByteArray := prog_1_method_26_code
theorem m_PW_settle : ab_mt y_PW_settle b_PW_settle 7 none 2 := ⟨by decide, ab_t6 (List.mem_of_getElem? (i := 3) rfl), ab_t1 (List.mem_of_getElem? (i := 1) rfl), ⟨by decide +kernel, by decide +kernel⟩, by decide +kernel⟩
theorem im_PW_settle : Cond.instanceMethod y_PW_settle ∈ lw_tbl := ab_t6 (List.mem_of_getElem? (i := 2) rfl)
theorem se_PW_settle : Cond.selects "PatternWorks" y_PW_settle y_PW_settle ∈ lw_tbl := ab_t0 (List.mem_of_getElem? (i := 38) rfl)
def y_PW_split : MethodName := ⟨"PatternWorks", "split", "(I)I"⟩
abbrev b_PW_split : ByteArray := prog_1_method_14_code
theorem m_PW_split : ab_mt y_PW_split b_PW_split 7 (some (.int)) 1 := ⟨by decide, ab_t7 (List.mem_of_getElem? (i := 238) rfl), ab_t1 (List.mem_of_getElem? (i := 1) rfl), ⟨by decide +kernel, by decide +kernel⟩, by decide +kernel⟩
theorem im_PW_split : Cond.instanceMethod y_PW_split ∈ lw_tbl := ab_t7 (List.mem_of_getElem? (i := 236) rfl)
theorem se_PW_split : Cond.selects "PatternWorks" y_PW_split y_PW_split ∈ lw_tbl := ab_t7 (List.mem_of_getElem? (i := 237) rfl)
def y_PW_subject : MethodName := ⟨"PatternWorks", "subject", "()I"⟩
abbrev b_PW_subject : ByteArray := prog_1_method_8_code
theorem m_PW_subject : ab_mt y_PW_subject b_PW_subject 1 (some (.int)) 0 := ⟨by decide, ab_t3 (List.mem_of_getElem? (i := 140) rfl), ab_t1 (List.mem_of_getElem? (i := 1) rfl), ⟨by decide +kernel, by decide +kernel⟩, by decide +kernel⟩
theorem im_PW_subject : Cond.instanceMethod y_PW_subject ∈ lw_tbl := ab_t3 (List.mem_of_getElem? (i := 138) rfl)
theorem se_PW_subject : Cond.selects "PatternWorks" y_PW_subject y_PW_subject ∈ lw_tbl := ab_t3 (List.mem_of_getElem? (i := 139) rfl)
def y_PW_undo : MethodName := ⟨"PatternWorks", "undo", "([II)V"⟩
abbrev b_PW_undo : ByteArray := prog_1_method_36_code
theorem m_PW_undo : ab_mt y_PW_undo b_PW_undo 3 none 2 := ⟨by decide, ab_t5 (List.mem_of_getElem? (i := 105) rfl), ab_t1 (List.mem_of_getElem? (i := 1) rfl), ⟨by decide +kernel, by decide +kernel⟩, by decide +kernel⟩
theorem st_PW_undo : Cond.static y_PW_undo ∈ lw_tbl := ab_t5 (List.mem_of_getElem? (i := 104) rfl)
def y_PW_undoOf : MethodName := ⟨"PatternWorks", "undoOf", "([II)I"⟩
abbrev b_PW_undoOf : ByteArray := prog_1_method_35_code
theorem m_PW_undoOf : ab_mt y_PW_undoOf b_PW_undoOf 2 (some (.int)) 2 := ⟨by decide, ab_t5 (List.mem_of_getElem? (i := 121) rfl), ab_t1 (List.mem_of_getElem? (i := 1) rfl), ⟨by decide +kernel, by decide +kernel⟩, by decide +kernel⟩
theorem st_PW_undoOf : Cond.static y_PW_undoOf ∈ lw_tbl := ab_t5 (List.mem_of_getElem? (i := 120) rfl)
def y_PW_which : MethodName := ⟨"PatternWorks", "which", "(IZ)I"⟩
abbrev b_PW_which : ByteArray := prog_1_method_16_code
theorem m_PW_which : ab_mt y_PW_which b_PW_which 11 (some (.int)) 2 := ⟨by decide, ab_t3 (List.mem_of_getElem? (i := 188) rfl), ab_t1 (List.mem_of_getElem? (i := 1) rfl), ⟨by decide +kernel, by decide +kernel⟩, by decide +kernel⟩
theorem im_PW_which : Cond.instanceMethod y_PW_which ∈ lw_tbl := ab_t3 (List.mem_of_getElem? (i := 186) rfl)
theorem se_PW_which : Cond.selects "PatternWorks" y_PW_which y_PW_which ∈ lw_tbl := ab_t3 (List.mem_of_getElem? (i := 187) rfl)
def y_PW_widthOf : MethodName := ⟨"PatternWorks", "widthOf", "(I)I"⟩
abbrev b_PW_widthOf : ByteArray := prog_1_method_33_code
theorem m_PW_widthOf : ab_mt y_PW_widthOf b_PW_widthOf 1 (some (.int)) 1 := ⟨by decide, ab_t3 (List.mem_of_getElem? (i := 153) rfl), ab_t1 (List.mem_of_getElem? (i := 1) rfl), ⟨by decide +kernel, by decide +kernel⟩, by decide +kernel⟩
theorem st_PW_widthOf : Cond.static y_PW_widthOf ∈ lw_tbl := ab_t3 (List.mem_of_getElem? (i := 152) rfl)
def y_RD_append : MethodName := ⟨"PatternWorks$Reader", "append", "(LPatternWorks$Part;)V"⟩
abbrev b_RD_append : ByteArray := prog_7_method_15_code
theorem m_RD_append : ab_mt y_RD_append b_RD_append 6 none 1 := ⟨by decide, ab_t7 (List.mem_of_getElem? (i := 30) rfl), ab_t1 (List.mem_of_getElem? (i := 3) rfl), ⟨by decide +kernel, by decide +kernel⟩, by decide +kernel⟩
theorem im_RD_append : Cond.instanceMethod y_RD_append ∈ lw_tbl := ab_t7 (List.mem_of_getElem? (i := 29) rfl)
theorem se_RD_append : Cond.selects "PatternWorks$Reader" y_RD_append y_RD_append ∈ lw_tbl := ab_t0 (List.mem_of_getElem? (i := 63) rfl)
def y_RD_byteAt : MethodName := ⟨"PatternWorks$Reader", "byteAt", "(I)I"⟩
abbrev b_RD_byteAt : ByteArray := prog_7_method_17_code
theorem m_RD_byteAt : ab_mt y_RD_byteAt b_RD_byteAt 2 (some (.int)) 1 := ⟨by decide, ab_t7 (List.mem_of_getElem? (i := 24) rfl), ab_t1 (List.mem_of_getElem? (i := 3) rfl), ⟨by decide +kernel, by decide +kernel⟩, by decide +kernel⟩
theorem im_RD_byteAt : Cond.instanceMethod y_RD_byteAt ∈ lw_tbl := ab_t7 (List.mem_of_getElem? (i := 23) rfl)
theorem se_RD_byteAt : Cond.selects "PatternWorks$Reader" y_RD_byteAt y_RD_byteAt ∈ lw_tbl := ab_t0 (List.mem_of_getElem? (i := 62) rfl)
def y_RD_classPart : MethodName := ⟨"PatternWorks$Reader", "classPart", "([I)LPatternWorks$Part;"⟩
abbrev b_RD_classPart : ByteArray := prog_7_method_6_code
theorem m_RD_classPart : ab_mt y_RD_classPart b_RD_classPart 3 (some (.object "PatternWorks$Part")) 1 := ⟨by decide, ab_t6 (List.mem_of_getElem? (i := 131) rfl), ab_t1 (List.mem_of_getElem? (i := 3) rfl), ⟨by decide +kernel, by decide +kernel⟩, by decide +kernel⟩
theorem im_RD_classPart : Cond.instanceMethod y_RD_classPart ∈ lw_tbl := ab_t6 (List.mem_of_getElem? (i := 130) rfl)
theorem se_RD_classPart : Cond.selects "PatternWorks$Reader" y_RD_classPart y_RD_classPart ∈ lw_tbl := ab_t0 (List.mem_of_getElem? (i := 47) rfl)
def y_RD_close : MethodName := ⟨"PatternWorks$Reader", "close", "()LPatternWorks$Part;"⟩
abbrev b_RD_close : ByteArray := prog_7_method_10_code
theorem m_RD_close : ab_mt y_RD_close b_RD_close 2 (some (.object "PatternWorks$Part")) 0 := ⟨by decide, ab_t7 (List.mem_of_getElem? (i := 2) rfl), ab_t1 (List.mem_of_getElem? (i := 3) rfl), ⟨by decide +kernel, by decide +kernel⟩, by decide +kernel⟩
theorem im_RD_close : Cond.instanceMethod y_RD_close ∈ lw_tbl := ab_t7 (List.mem_of_getElem? (i := 1) rfl)
theorem se_RD_close : Cond.selects "PatternWorks$Reader" y_RD_close y_RD_close ∈ lw_tbl := ab_t0 (List.mem_of_getElem? (i := 59) rfl)
def y_RD_enter : MethodName := ⟨"PatternWorks$Reader", "enter", "(IZII)V"⟩
abbrev b_RD_enter : ByteArray := prog_7_method_9_code
theorem m_RD_enter : ab_mt y_RD_enter b_RD_enter 6 none 4 := ⟨by decide, ab_t6 (List.mem_of_getElem? (i := 221) rfl), ab_t1 (List.mem_of_getElem? (i := 3) rfl), ⟨by decide +kernel, by decide +kernel⟩, by decide +kernel⟩
theorem im_RD_enter : Cond.instanceMethod y_RD_enter ∈ lw_tbl := ab_t6 (List.mem_of_getElem? (i := 220) rfl)
theorem se_RD_enter : Cond.selects "PatternWorks$Reader" y_RD_enter y_RD_enter ∈ lw_tbl := ab_t0 (List.mem_of_getElem? (i := 55) rfl)
def y_RD_escaped : MethodName := ⟨"PatternWorks$Reader", "escaped", "(I)LPatternWorks$Part;"⟩
abbrev b_RD_escaped : ByteArray := prog_7_method_5_code
theorem m_RD_escaped : ab_mt y_RD_escaped b_RD_escaped 2 (some (.object "PatternWorks$Part")) 1 := ⟨by decide, ab_t6 (List.mem_of_getElem? (i := 135) rfl), ab_t1 (List.mem_of_getElem? (i := 3) rfl), ⟨by decide +kernel, by decide +kernel⟩, by decide +kernel⟩
theorem im_RD_escaped : Cond.instanceMethod y_RD_escaped ∈ lw_tbl := ab_t6 (List.mem_of_getElem? (i := 134) rfl)
theorem se_RD_escaped : Cond.selects "PatternWorks$Reader" y_RD_escaped y_RD_escaped ∈ lw_tbl := ab_t0 (List.mem_of_getElem? (i := 48) rfl)
def y_RD_flagOf : MethodName := ⟨"PatternWorks$Reader", "flagOf", "(I)I"⟩
abbrev b_RD_flagOf : ByteArray := prog_7_method_14_code
theorem m_RD_flagOf : ab_mt y_RD_flagOf b_RD_flagOf 1 (some (.int)) 1 := ⟨by decide, ab_t6 (List.mem_of_getElem? (i := 238) rfl), ab_t1 (List.mem_of_getElem? (i := 3) rfl), ⟨by decide +kernel, by decide +kernel⟩, by decide +kernel⟩
theorem st_RD_flagOf : Cond.static y_RD_flagOf ∈ lw_tbl := ab_t6 (List.mem_of_getElem? (i := 237) rfl)
def y_RD_flagsTold : MethodName := ⟨"PatternWorks$Reader", "flagsTold", "(I)I"⟩
abbrev b_RD_flagsTold : ByteArray := prog_7_method_13_code
theorem m_RD_flagsTold : ab_mt y_RD_flagsTold b_RD_flagsTold 8 (some (.int)) 1 := ⟨by decide, ab_t6 (List.mem_of_getElem? (i := 235) rfl), ab_t1 (List.mem_of_getElem? (i := 3) rfl), ⟨by decide +kernel, by decide +kernel⟩, by decide +kernel⟩
theorem im_RD_flagsTold : Cond.instanceMethod y_RD_flagsTold ∈ lw_tbl := ab_t6 (List.mem_of_getElem? (i := 234) rfl)
theorem se_RD_flagsTold : Cond.selects "PatternWorks$Reader" y_RD_flagsTold y_RD_flagsTold ∈ lw_tbl := ab_t0 (List.mem_of_getElem? (i := 58) rfl)
def y_RD_init : MethodName := ⟨"PatternWorks$Reader", "<init>", "()V"⟩
abbrev b_RD_init : ByteArray := prog_7_method_1_code
theorem m_RD_init : ab_mt y_RD_init b_RD_init 1 none 0 := ⟨by decide, ab_t1 (List.mem_of_getElem? (i := 64) rfl), ab_t1 (List.mem_of_getElem? (i := 3) rfl), ⟨by decide +kernel, by decide +kernel⟩, by decide +kernel⟩
theorem im_RD_init : Cond.instanceMethod y_RD_init ∈ lw_tbl := ab_t1 (List.mem_of_getElem? (i := 63) rfl)
def y_RD_isOn : MethodName := ⟨"PatternWorks$Reader", "isOn", "(I)Z"⟩
abbrev b_RD_isOn : ByteArray := prog_7_method_3_code
theorem m_RD_isOn : ab_mt y_RD_isOn b_RD_isOn 2 (some (.boolean)) 1 := ⟨by decide, ab_t6 (List.mem_of_getElem? (i := 99) rfl), ab_t1 (List.mem_of_getElem? (i := 3) rfl), ⟨by decide +kernel, by decide +kernel⟩, by decide +kernel⟩
theorem im_RD_isOn : Cond.instanceMethod y_RD_isOn ∈ lw_tbl := ab_t6 (List.mem_of_getElem? (i := 98) rfl)
theorem se_RD_isOn : Cond.selects "PatternWorks$Reader" y_RD_isOn y_RD_isOn ∈ lw_tbl := ab_t0 (List.mem_of_getElem? (i := 45) rfl)
def y_RD_isRepeat : MethodName := ⟨"PatternWorks$Reader", "isRepeat", "()Z"⟩
abbrev b_RD_isRepeat : ByteArray := prog_7_method_16_code
theorem m_RD_isRepeat : ab_mt y_RD_isRepeat b_RD_isRepeat 2 (some (.boolean)) 0 := ⟨by decide, ab_t7 (List.mem_of_getElem? (i := 16) rfl), ab_t1 (List.mem_of_getElem? (i := 3) rfl), ⟨by decide +kernel, by decide +kernel⟩, by decide +kernel⟩
theorem im_RD_isRepeat : Cond.instanceMethod y_RD_isRepeat ∈ lw_tbl := ab_t7 (List.mem_of_getElem? (i := 15) rfl)
theorem se_RD_isRepeat : Cond.selects "PatternWorks$Reader" y_RD_isRepeat y_RD_isRepeat ∈ lw_tbl := ab_t0 (List.mem_of_getElem? (i := 60) rfl)
def y_RD_isTaken : MethodName := ⟨"PatternWorks$Reader", "isTaken", "(II)Z"⟩
abbrev b_RD_isTaken : ByteArray := prog_7_method_12_code
theorem m_RD_isTaken : ab_mt y_RD_isTaken b_RD_isTaken 6 (some (.boolean)) 2 := ⟨by decide, ab_t6 (List.mem_of_getElem? (i := 231) rfl), ab_t1 (List.mem_of_getElem? (i := 3) rfl), ⟨by decide +kernel, by decide +kernel⟩, by decide +kernel⟩
theorem im_RD_isTaken : Cond.instanceMethod y_RD_isTaken ∈ lw_tbl := ab_t6 (List.mem_of_getElem? (i := 230) rfl)
theorem se_RD_isTaken : Cond.selects "PatternWorks$Reader" y_RD_isTaken y_RD_isTaken ∈ lw_tbl := ab_t0 (List.mem_of_getElem? (i := 57) rfl)
def y_RD_literal : MethodName := ⟨"PatternWorks$Reader", "literal", "(I)LPatternWorks$Part;"⟩
abbrev b_RD_literal : ByteArray := prog_7_method_7_code
theorem m_RD_literal : ab_mt y_RD_literal b_RD_literal 3 (some (.object "PatternWorks$Part")) 1 := ⟨by decide, ab_t6 (List.mem_of_getElem? (i := 95) rfl), ab_t1 (List.mem_of_getElem? (i := 3) rfl), ⟨by decide +kernel, by decide +kernel⟩, by decide +kernel⟩
theorem im_RD_literal : Cond.instanceMethod y_RD_literal ∈ lw_tbl := ab_t6 (List.mem_of_getElem? (i := 94) rfl)
theorem se_RD_literal : Cond.selects "PatternWorks$Reader" y_RD_literal y_RD_literal ∈ lw_tbl := ab_t0 (List.mem_of_getElem? (i := 44) rfl)
def y_RD_nameLengthAt : MethodName := ⟨"PatternWorks$Reader", "nameLengthAt", "(I)I"⟩
abbrev b_RD_nameLengthAt : ByteArray := prog_7_method_11_code
theorem m_RD_nameLengthAt : ab_mt y_RD_nameLengthAt b_RD_nameLengthAt 4 (some (.int)) 1 := ⟨by decide, ab_t6 (List.mem_of_getElem? (i := 226) rfl), ab_t1 (List.mem_of_getElem? (i := 3) rfl), ⟨by decide +kernel, by decide +kernel⟩, by decide +kernel⟩
theorem im_RD_nameLengthAt : Cond.instanceMethod y_RD_nameLengthAt ∈ lw_tbl := ab_t6 (List.mem_of_getElem? (i := 225) rfl)
theorem se_RD_nameLengthAt : Cond.selects "PatternWorks$Reader" y_RD_nameLengthAt y_RD_nameLengthAt ∈ lw_tbl := ab_t0 (List.mem_of_getElem? (i := 56) rfl)
def y_RD_number : MethodName := ⟨"PatternWorks$Reader", "number", "()I"⟩
abbrev b_RD_number : ByteArray := prog_7_method_18_code
theorem m_RD_number : ab_mt y_RD_number b_RD_number 4 (some (.int)) 0 := ⟨by decide, ab_t7 (List.mem_of_getElem? (i := 20) rfl), ab_t1 (List.mem_of_getElem? (i := 3) rfl), ⟨by decide +kernel, by decide +kernel⟩, by decide +kernel⟩
theorem im_RD_number : Cond.instanceMethod y_RD_number ∈ lw_tbl := ab_t7 (List.mem_of_getElem? (i := 19) rfl)
theorem se_RD_number : Cond.selects "PatternWorks$Reader" y_RD_number y_RD_number ∈ lw_tbl := ab_t0 (List.mem_of_getElem? (i := 61) rfl)
def y_RD_open : MethodName := ⟨"PatternWorks$Reader", "open", "(I)V"⟩
abbrev b_RD_open : ByteArray := prog_7_method_8_code
theorem m_RD_open : ab_mt y_RD_open b_RD_open 4 none 1 := ⟨by decide, ab_t6 (List.mem_of_getElem? (i := 217) rfl), ab_t1 (List.mem_of_getElem? (i := 3) rfl), ⟨by decide +kernel, by decide +kernel⟩, by decide +kernel⟩
theorem im_RD_open : Cond.instanceMethod y_RD_open ∈ lw_tbl := ab_t6 (List.mem_of_getElem? (i := 216) rfl)
theorem se_RD_open : Cond.selects "PatternWorks$Reader" y_RD_open y_RD_open ∈ lw_tbl := ab_t0 (List.mem_of_getElem? (i := 54) rfl)
def y_RD_part : MethodName := ⟨"PatternWorks$Reader", "part", "()LPatternWorks$Part;"⟩
abbrev b_RD_part : ByteArray := prog_7_method_4_code
theorem m_RD_part : ab_mt y_RD_part b_RD_part 3 (some (.object "PatternWorks$Part")) 0 := ⟨by decide, ab_t6 (List.mem_of_getElem? (i := 48) rfl), ab_t1 (List.mem_of_getElem? (i := 3) rfl), ⟨by decide +kernel, by decide +kernel⟩, by decide +kernel⟩
theorem im_RD_part : Cond.instanceMethod y_RD_part ∈ lw_tbl := ab_t6 (List.mem_of_getElem? (i := 47) rfl)
theorem se_RD_part : Cond.selects "PatternWorks$Reader" y_RD_part y_RD_part ∈ lw_tbl := ab_t0 (List.mem_of_getElem? (i := 39) rfl)
def y_RD_read : MethodName := ⟨"PatternWorks$Reader", "read", "(LPatternWorks$Row;I)LPatternWorks$Part;"⟩
abbrev b_RD_read : ByteArray := prog_7_method_2_code
theorem m_RD_read : ab_mt y_RD_read b_RD_read 6 (some (.object "PatternWorks$Part")) 2 := ⟨by decide, ab_t6 (List.mem_of_getElem? (i := 36) rfl), ab_t1 (List.mem_of_getElem? (i := 3) rfl), ⟨by decide +kernel, by decide +kernel⟩, by decide +kernel⟩
theorem im_RD_read : Cond.instanceMethod y_RD_read ∈ lw_tbl := ab_t6 (List.mem_of_getElem? (i := 34) rfl)
theorem se_RD_read : Cond.selects "PatternWorks$Reader" y_RD_read y_RD_read ∈ lw_tbl := ab_t6 (List.mem_of_getElem? (i := 35) rfl)
def y_RW_add : MethodName := ⟨"PatternWorks$Row", "add", "(I)Z"⟩
abbrev b_RW_add : ByteArray := prog_8_method_4_code
theorem m_RW_add : ab_mt y_RW_add b_RW_add 2 (some (.boolean)) 1 := ⟨by decide, ab_t6 (List.mem_of_getElem? (i := 13) rfl), ab_t1 (List.mem_of_getElem? (i := 2) rfl), ⟨by decide +kernel, by decide +kernel⟩, by decide +kernel⟩
theorem im_RW_add : Cond.instanceMethod y_RW_add ∈ lw_tbl := ab_t6 (List.mem_of_getElem? (i := 11) rfl)
theorem se_RW_add : Cond.selects "PatternWorks$Row" y_RW_add y_RW_add ∈ lw_tbl := ab_t6 (List.mem_of_getElem? (i := 12) rfl)
def y_RW_addAll : MethodName := ⟨"PatternWorks$Row", "addAll", "([III)Z"⟩
abbrev b_RW_addAll : ByteArray := prog_8_method_5_code
theorem m_RW_addAll : ab_mt y_RW_addAll b_RW_addAll 4 (some (.boolean)) 3 := ⟨by decide, ab_t3 (List.mem_of_getElem? (i := 91) rfl), ab_t1 (List.mem_of_getElem? (i := 2) rfl), ⟨by decide +kernel, by decide +kernel⟩, by decide +kernel⟩
theorem im_RW_addAll : Cond.instanceMethod y_RW_addAll ∈ lw_tbl := ab_t3 (List.mem_of_getElem? (i := 89) rfl)
theorem se_RW_addAll : Cond.selects "PatternWorks$Row" y_RW_addAll y_RW_addAll ∈ lw_tbl := ab_t3 (List.mem_of_getElem? (i := 90) rfl)
def y_RW_at : MethodName := ⟨"PatternWorks$Row", "at", "(I)I"⟩
abbrev b_RW_at : ByteArray := prog_8_method_3_code
theorem m_RW_at : ab_mt y_RW_at b_RW_at 2 (some (.int)) 1 := ⟨by decide, ab_t3 (List.mem_of_getElem? (i := 180) rfl), ab_t1 (List.mem_of_getElem? (i := 2) rfl), ⟨by decide +kernel, by decide +kernel⟩, by decide +kernel⟩
theorem im_RW_at : Cond.instanceMethod y_RW_at ∈ lw_tbl := ab_t3 (List.mem_of_getElem? (i := 178) rfl)
theorem se_RW_at : Cond.selects "PatternWorks$Row" y_RW_at y_RW_at ∈ lw_tbl := ab_t3 (List.mem_of_getElem? (i := 179) rfl)
def y_RW_clear : MethodName := ⟨"PatternWorks$Row", "clear", "()V"⟩
abbrev b_RW_clear : ByteArray := prog_8_method_2_code
theorem m_RW_clear : ab_mt y_RW_clear b_RW_clear 1 none 0 := ⟨by decide, ab_t3 (List.mem_of_getElem? (i := 165) rfl), ab_t1 (List.mem_of_getElem? (i := 2) rfl), ⟨by decide +kernel, by decide +kernel⟩, by decide +kernel⟩
theorem im_RW_clear : Cond.instanceMethod y_RW_clear ∈ lw_tbl := ab_t3 (List.mem_of_getElem? (i := 163) rfl)
theorem se_RW_clear : Cond.selects "PatternWorks$Row" y_RW_clear y_RW_clear ∈ lw_tbl := ab_t3 (List.mem_of_getElem? (i := 164) rfl)
def y_RW_init : MethodName := ⟨"PatternWorks$Row", "<init>", "(I)V"⟩
abbrev b_RW_init : ByteArray := prog_8_method_1_code
theorem m_RW_init : ab_mt y_RW_init b_RW_init 2 none 1 := ⟨by decide, ab_t1 (List.mem_of_getElem? (i := 41) rfl), ab_t1 (List.mem_of_getElem? (i := 2) rfl), ⟨by decide +kernel, by decide +kernel⟩, by decide +kernel⟩
theorem im_RW_init : Cond.instanceMethod y_RW_init ∈ lw_tbl := ab_t1 (List.mem_of_getElem? (i := 40) rfl)
def y_RW_makeRoom : MethodName := ⟨"PatternWorks$Row", "makeRoom", "(I)Z"⟩
abbrev b_RW_makeRoom : ByteArray := prog_8_method_6_code
theorem m_RW_makeRoom : ab_mt y_RW_makeRoom b_RW_makeRoom 2 (some (.boolean)) 1 := ⟨by decide, ab_t3 (List.mem_of_getElem? (i := 95) rfl), ab_t1 (List.mem_of_getElem? (i := 2) rfl), ⟨by decide +kernel, by decide +kernel⟩, by decide +kernel⟩
theorem im_RW_makeRoom : Cond.instanceMethod y_RW_makeRoom ∈ lw_tbl := ab_t3 (List.mem_of_getElem? (i := 94) rfl)
theorem se_RW_makeRoom : Cond.selects "PatternWorks$Row" y_RW_makeRoom y_RW_makeRoom ∈ lw_tbl := ab_t0 (List.mem_of_getElem? (i := 2) rfl)
def y_ST_addCut : MethodName := ⟨"PatternWorks$States", "addCut", "(I)V"⟩
abbrev b_ST_addCut : ByteArray := prog_9_method_6_code
theorem m_ST_addCut : ab_mt y_ST_addCut b_ST_addCut 3 none 1 := ⟨by decide, ab_t3 (List.mem_of_getElem? (i := 206) rfl), ab_t1 (List.mem_of_getElem? (i := 11) rfl), ⟨by decide +kernel, by decide +kernel⟩, by decide +kernel⟩
theorem im_ST_addCut : Cond.instanceMethod y_ST_addCut ∈ lw_tbl := ab_t3 (List.mem_of_getElem? (i := 205) rfl)
theorem se_ST_addCut : Cond.selects "PatternWorks$States" y_ST_addCut y_ST_addCut ∈ lw_tbl := ab_t0 (List.mem_of_getElem? (i := 6) rfl)
def y_ST_addSeed : MethodName := ⟨"PatternWorks$States", "addSeed", "(I)V"⟩
abbrev b_ST_addSeed : ByteArray := prog_9_method_15_code
theorem m_ST_addSeed : ab_mt y_ST_addSeed b_ST_addSeed 2 none 1 := ⟨by decide, ab_t3 (List.mem_of_getElem? (i := 219) rfl), ab_t1 (List.mem_of_getElem? (i := 11) rfl), ⟨by decide +kernel, by decide +kernel⟩, by decide +kernel⟩
theorem im_ST_addSeed : Cond.instanceMethod y_ST_addSeed ∈ lw_tbl := ab_t3 (List.mem_of_getElem? (i := 218) rfl)
theorem se_ST_addSeed : Cond.selects "PatternWorks$States" y_ST_addSeed y_ST_addSeed ∈ lw_tbl := ab_t0 (List.mem_of_getElem? (i := 9) rfl)
def y_ST_aheadOf : MethodName := ⟨"PatternWorks$States", "aheadOf", "(I)I"⟩
abbrev b_ST_aheadOf : ByteArray := prog_9_method_11_code
theorem m_ST_aheadOf : ab_mt y_ST_aheadOf b_ST_aheadOf 3 (some (.int)) 1 := ⟨by decide, ab_t5 (List.mem_of_getElem? (i := 79) rfl), ab_t1 (List.mem_of_getElem? (i := 11) rfl), ⟨by decide +kernel, by decide +kernel⟩, by decide +kernel⟩
theorem im_ST_aheadOf : Cond.instanceMethod y_ST_aheadOf ∈ lw_tbl := ab_t5 (List.mem_of_getElem? (i := 78) rfl)
theorem se_ST_aheadOf : Cond.selects "PatternWorks$States" y_ST_aheadOf y_ST_aheadOf ∈ lw_tbl := ab_t0 (List.mem_of_getElem? (i := 18) rfl)
def y_ST_findCuts : MethodName := ⟨"PatternWorks$States", "findCuts", "()V"⟩
abbrev b_ST_findCuts : ByteArray := prog_9_method_5_code
theorem m_ST_findCuts : ab_mt y_ST_findCuts b_ST_findCuts 5 none 0 := ⟨by decide, ab_t3 (List.mem_of_getElem? (i := 200) rfl), ab_t1 (List.mem_of_getElem? (i := 11) rfl), ⟨by decide +kernel, by decide +kernel⟩, by decide +kernel⟩
theorem im_ST_findCuts : Cond.instanceMethod y_ST_findCuts ∈ lw_tbl := ab_t3 (List.mem_of_getElem? (i := 199) rfl)
theorem se_ST_findCuts : Cond.selects "PatternWorks$States" y_ST_findCuts y_ST_findCuts ∈ lw_tbl := ab_t0 (List.mem_of_getElem? (i := 5) rfl)
def y_ST_firstState : MethodName := ⟨"PatternWorks$States", "firstState", "(LPatternWorks$Subject;I)I"⟩
abbrev b_ST_firstState : ByteArray := prog_9_method_9_code
theorem m_ST_firstState : ab_mt y_ST_firstState b_ST_firstState 4 (some (.int)) 2 := ⟨by decide, ab_t3 (List.mem_of_getElem? (i := 215) rfl), ab_t1 (List.mem_of_getElem? (i := 11) rfl), ⟨by decide +kernel, by decide +kernel⟩, by decide +kernel⟩
theorem im_ST_firstState : Cond.instanceMethod y_ST_firstState ∈ lw_tbl := ab_t3 (List.mem_of_getElem? (i := 214) rfl)
theorem se_ST_firstState : Cond.selects "PatternWorks$States" y_ST_firstState y_ST_firstState ∈ lw_tbl := ab_t0 (List.mem_of_getElem? (i := 8) rfl)
def y_ST_follow : MethodName := ⟨"PatternWorks$States", "follow", "(III)V"⟩
abbrev b_ST_follow : ByteArray := prog_9_method_12_code
theorem m_ST_follow : ab_mt y_ST_follow b_ST_follow 8 none 3 := ⟨by decide, ab_t5 (List.mem_of_getElem? (i := 62) rfl), ab_t1 (List.mem_of_getElem? (i := 11) rfl), ⟨by decide +kernel, by decide +kernel⟩, by decide +kernel⟩
theorem im_ST_follow : Cond.instanceMethod y_ST_follow ∈ lw_tbl := ab_t5 (List.mem_of_getElem? (i := 61) rfl)
theorem se_ST_follow : Cond.selects "PatternWorks$States" y_ST_follow y_ST_follow ∈ lw_tbl := ab_t0 (List.mem_of_getElem? (i := 15) rfl)
def y_ST_hasSeeds : MethodName := ⟨"PatternWorks$States", "hasSeeds", "(I)Z"⟩
abbrev b_ST_hasSeeds : ByteArray := prog_9_method_17_code
theorem m_ST_hasSeeds : ab_mt y_ST_hasSeeds b_ST_hasSeeds 4 (some (.boolean)) 1 := ⟨by decide, ab_t3 (List.mem_of_getElem? (i := 229) rfl), ab_t1 (List.mem_of_getElem? (i := 11) rfl), ⟨by decide +kernel, by decide +kernel⟩, by decide +kernel⟩
theorem im_ST_hasSeeds : Cond.instanceMethod y_ST_hasSeeds ∈ lw_tbl := ab_t3 (List.mem_of_getElem? (i := 228) rfl)
theorem se_ST_hasSeeds : Cond.selects "PatternWorks$States" y_ST_hasSeeds y_ST_hasSeeds ∈ lw_tbl := ab_t0 (List.mem_of_getElem? (i := 11) rfl)
def y_ST_holdAtMost : MethodName := ⟨"PatternWorks$States", "holdAtMost", "(I)V"⟩
abbrev b_ST_holdAtMost : ByteArray := prog_9_method_2_code
theorem m_ST_holdAtMost : ab_mt y_ST_holdAtMost b_ST_holdAtMost 2 none 1 := ⟨by decide, ab_t8 (List.mem_of_getElem? (i := 10) rfl), ab_t1 (List.mem_of_getElem? (i := 11) rfl), ⟨by decide +kernel, by decide +kernel⟩, by decide +kernel⟩
theorem im_ST_holdAtMost : Cond.instanceMethod y_ST_holdAtMost ∈ lw_tbl := ab_t8 (List.mem_of_getElem? (i := 8) rfl)
theorem se_ST_holdAtMost : Cond.selects "PatternWorks$States" y_ST_holdAtMost y_ST_holdAtMost ∈ lw_tbl := ab_t8 (List.mem_of_getElem? (i := 9) rfl)
def y_ST_holds : MethodName := ⟨"PatternWorks$States", "holds", "(III)Z"⟩
abbrev b_ST_holds : ByteArray := prog_9_method_14_code
theorem m_ST_holds : ab_mt y_ST_holds b_ST_holds 7 (some (.boolean)) 3 := ⟨by decide, ab_t5 (List.mem_of_getElem? (i := 74) rfl), ab_t1 (List.mem_of_getElem? (i := 11) rfl), ⟨by decide +kernel, by decide +kernel⟩, by decide +kernel⟩
theorem im_ST_holds : Cond.instanceMethod y_ST_holds ∈ lw_tbl := ab_t5 (List.mem_of_getElem? (i := 73) rfl)
theorem se_ST_holds : Cond.selects "PatternWorks$States" y_ST_holds y_ST_holds ∈ lw_tbl := ab_t0 (List.mem_of_getElem? (i := 17) rfl)
def y_ST_init : MethodName := ⟨"PatternWorks$States", "<init>", "()V"⟩
abbrev b_ST_init : ByteArray := prog_9_method_1_code
theorem m_ST_init : ab_mt y_ST_init b_ST_init 1 none 0 := ⟨by decide, ab_t2 (List.mem_of_getElem? (i := 200) rfl), ab_t1 (List.mem_of_getElem? (i := 11) rfl), ⟨by decide +kernel, by decide +kernel⟩, by decide +kernel⟩
theorem im_ST_init : Cond.instanceMethod y_ST_init ∈ lw_tbl := ab_t2 (List.mem_of_getElem? (i := 199) rfl)
def y_ST_keptState : MethodName := ⟨"PatternWorks$States", "keptState", "(I)I"⟩
abbrev b_ST_keptState : ByteArray := prog_9_method_16_code
theorem m_ST_keptState : ab_mt y_ST_keptState b_ST_keptState 3 (some (.int)) 1 := ⟨by decide, ab_t3 (List.mem_of_getElem? (i := 225) rfl), ab_t1 (List.mem_of_getElem? (i := 11) rfl), ⟨by decide +kernel, by decide +kernel⟩, by decide +kernel⟩
theorem im_ST_keptState : Cond.instanceMethod y_ST_keptState ∈ lw_tbl := ab_t3 (List.mem_of_getElem? (i := 224) rfl)
theorem se_ST_keptState : Cond.selects "PatternWorks$States" y_ST_keptState y_ST_keptState ∈ lw_tbl := ab_t0 (List.mem_of_getElem? (i := 10) rfl)
def y_ST_lastCut : MethodName := ⟨"PatternWorks$States", "lastCut", "(I)I"⟩
abbrev b_ST_lastCut : ByteArray := prog_9_method_7_code
theorem m_ST_lastCut : ab_mt y_ST_lastCut b_ST_lastCut 6 (some (.int)) 1 := ⟨by decide, ab_t3 (List.mem_of_getElem? (i := 210) rfl), ab_t1 (List.mem_of_getElem? (i := 11) rfl), ⟨by decide +kernel, by decide +kernel⟩, by decide +kernel⟩
theorem im_ST_lastCut : Cond.instanceMethod y_ST_lastCut ∈ lw_tbl := ab_t3 (List.mem_of_getElem? (i := 209) rfl)
theorem se_ST_lastCut : Cond.selects "PatternWorks$States" y_ST_lastCut y_ST_lastCut ∈ lw_tbl := ab_t0 (List.mem_of_getElem? (i := 7) rfl)
def y_ST_makeEdge : MethodName := ⟨"PatternWorks$States", "makeEdge", "(II)I"⟩
abbrev b_ST_makeEdge : ByteArray := prog_9_method_10_code
theorem m_ST_makeEdge : ab_mt y_ST_makeEdge b_ST_makeEdge 6 (some (.int)) 2 := ⟨by decide, ab_t5 (List.mem_of_getElem? (i := 58) rfl), ab_t1 (List.mem_of_getElem? (i := 11) rfl), ⟨by decide +kernel, by decide +kernel⟩, by decide +kernel⟩
theorem im_ST_makeEdge : Cond.instanceMethod y_ST_makeEdge ∈ lw_tbl := ab_t5 (List.mem_of_getElem? (i := 57) rfl)
theorem se_ST_makeEdge : Cond.selects "PatternWorks$States" y_ST_makeEdge y_ST_makeEdge ∈ lw_tbl := ab_t0 (List.mem_of_getElem? (i := 14) rfl)
def y_ST_prepare : MethodName := ⟨"PatternWorks$States", "prepare", "(LPatternWorks$Program;Z)Z"⟩
abbrev b_ST_prepare : ByteArray := prog_9_method_4_code
theorem m_ST_prepare : ab_mt y_ST_prepare b_ST_prepare 3 (some (.boolean)) 2 := ⟨by decide, ab_t3 (List.mem_of_getElem? (i := 196) rfl), ab_t1 (List.mem_of_getElem? (i := 11) rfl), ⟨by decide +kernel, by decide +kernel⟩, by decide +kernel⟩
theorem im_ST_prepare : Cond.instanceMethod y_ST_prepare ∈ lw_tbl := ab_t3 (List.mem_of_getElem? (i := 195) rfl)
theorem se_ST_prepare : Cond.selects "PatternWorks$States" y_ST_prepare y_ST_prepare ∈ lw_tbl := ab_t0 (List.mem_of_getElem? (i := 4) rfl)
def y_ST_signAt : MethodName := ⟨"PatternWorks$States", "signAt", "(LPatternWorks$Subject;I)I"⟩
abbrev b_ST_signAt : ByteArray := prog_9_method_8_code
theorem m_ST_signAt : ab_mt y_ST_signAt b_ST_signAt 4 (some (.int)) 2 := ⟨by decide, ab_t5 (List.mem_of_getElem? (i := 54) rfl), ab_t1 (List.mem_of_getElem? (i := 11) rfl), ⟨by decide +kernel, by decide +kernel⟩, by decide +kernel⟩
theorem im_ST_signAt : Cond.instanceMethod y_ST_signAt ∈ lw_tbl := ab_t5 (List.mem_of_getElem? (i := 53) rfl)
theorem se_ST_signAt : Cond.selects "PatternWorks$States" y_ST_signAt y_ST_signAt ∈ lw_tbl := ab_t0 (List.mem_of_getElem? (i := 13) rfl)
def y_ST_takeSign : MethodName := ⟨"PatternWorks$States", "takeSign", "(II)V"⟩
abbrev b_ST_takeSign : ByteArray := prog_9_method_13_code
theorem m_ST_takeSign : ab_mt y_ST_takeSign b_ST_takeSign 4 none 2 := ⟨by decide, ab_t5 (List.mem_of_getElem? (i := 66) rfl), ab_t1 (List.mem_of_getElem? (i := 11) rfl), ⟨by decide +kernel, by decide +kernel⟩, by decide +kernel⟩
theorem im_ST_takeSign : Cond.instanceMethod y_ST_takeSign ∈ lw_tbl := ab_t5 (List.mem_of_getElem? (i := 65) rfl)
theorem se_ST_takeSign : Cond.selects "PatternWorks$States" y_ST_takeSign y_ST_takeSign ∈ lw_tbl := ab_t0 (List.mem_of_getElem? (i := 16) rfl)
def y_ST_tell : MethodName := ⟨"PatternWorks$States", "tell", "(LPatternWorks$Program;LPatternWorks$Subject;II)I"⟩
abbrev b_ST_tell : ByteArray := prog_9_method_3_code
theorem m_ST_tell : ab_mt y_ST_tell b_ST_tell 9 (some (.int)) 4 := ⟨by decide, ab_t3 (List.mem_of_getElem? (i := 192) rfl), ab_t1 (List.mem_of_getElem? (i := 11) rfl), ⟨by decide +kernel, by decide +kernel⟩, by decide +kernel⟩
theorem im_ST_tell : Cond.instanceMethod y_ST_tell ∈ lw_tbl := ab_t3 (List.mem_of_getElem? (i := 190) rfl)
theorem se_ST_tell : Cond.selects "PatternWorks$States" y_ST_tell y_ST_tell ∈ lw_tbl := ab_t3 (List.mem_of_getElem? (i := 191) rfl)
def y_SU_holdingAt : MethodName := ⟨"PatternWorks$Subject", "holdingAt", "(I)I"⟩
abbrev b_SU_holdingAt : ByteArray := prog_10_method_6_code
theorem m_SU_holdingAt : ab_mt y_SU_holdingAt b_SU_holdingAt 3 (some (.int)) 1 := ⟨by decide, ab_t1 (List.mem_of_getElem? (i := 235) rfl), ab_t1 (List.mem_of_getElem? (i := 7) rfl), ⟨by decide +kernel, by decide +kernel⟩, by decide +kernel⟩
theorem im_SU_holdingAt : Cond.instanceMethod y_SU_holdingAt ∈ lw_tbl := ab_t1 (List.mem_of_getElem? (i := 234) rfl)
theorem se_SU_holdingAt : Cond.selects "PatternWorks$Subject" y_SU_holdingAt y_SU_holdingAt ∈ lw_tbl := ab_t0 (List.mem_of_getElem? (i := 0) rfl)
def y_SU_holds : MethodName := ⟨"PatternWorks$Subject", "holds", "(II)Z"⟩
abbrev b_SU_holds : ByteArray := prog_10_method_3_code
theorem m_SU_holds : ab_mt y_SU_holds b_SU_holds 3 (some (.boolean)) 2 := ⟨by decide, ab_t5 (List.mem_of_getElem? (i := 118) rfl), ab_t1 (List.mem_of_getElem? (i := 7) rfl), ⟨by decide +kernel, by decide +kernel⟩, by decide +kernel⟩
theorem im_SU_holds : Cond.instanceMethod y_SU_holds ∈ lw_tbl := ab_t5 (List.mem_of_getElem? (i := 116) rfl)
theorem se_SU_holds : Cond.selects "PatternWorks$Subject" y_SU_holds y_SU_holds ∈ lw_tbl := ab_t5 (List.mem_of_getElem? (i := 117) rfl)
def y_SU_init : MethodName := ⟨"PatternWorks$Subject", "<init>", "()V"⟩
abbrev b_SU_init : ByteArray := prog_10_method_1_code
theorem m_SU_init : ab_mt y_SU_init b_SU_init 1 none 0 := ⟨by decide, ab_t1 (List.mem_of_getElem? (i := 230) rfl), ab_t1 (List.mem_of_getElem? (i := 7) rfl), ⟨by decide +kernel, by decide +kernel⟩, by decide +kernel⟩
theorem im_SU_init : Cond.instanceMethod y_SU_init ∈ lw_tbl := ab_t1 (List.mem_of_getElem? (i := 229) rfl)
def y_SU_isLineFeed : MethodName := ⟨"PatternWorks$Subject", "isLineFeed", "(I)Z"⟩
abbrev b_SU_isLineFeed : ByteArray := prog_10_method_4_code
theorem m_SU_isLineFeed : ab_mt y_SU_isLineFeed b_SU_isLineFeed 2 (some (.boolean)) 1 := ⟨by decide, ab_t2 (List.mem_of_getElem? (i := 6) rfl), ab_t1 (List.mem_of_getElem? (i := 7) rfl), ⟨by decide +kernel, by decide +kernel⟩, by decide +kernel⟩
theorem im_SU_isLineFeed : Cond.instanceMethod y_SU_isLineFeed ∈ lw_tbl := ab_t2 (List.mem_of_getElem? (i := 4) rfl)
theorem se_SU_isLineFeed : Cond.selects "PatternWorks$Subject" y_SU_isLineFeed y_SU_isLineFeed ∈ lw_tbl := ab_t2 (List.mem_of_getElem? (i := 5) rfl)
def y_SU_isWordByte : MethodName := ⟨"PatternWorks$Subject", "isWordByte", "(I)Z"⟩
abbrev b_SU_isWordByte : ByteArray := prog_10_method_5_code
theorem m_SU_isWordByte : ab_mt y_SU_isWordByte b_SU_isWordByte 2 (some (.boolean)) 1 := ⟨by decide, ab_t1 (List.mem_of_getElem? (i := 239) rfl), ab_t1 (List.mem_of_getElem? (i := 7) rfl), ⟨by decide +kernel, by decide +kernel⟩, by decide +kernel⟩
theorem im_SU_isWordByte : Cond.instanceMethod y_SU_isWordByte ∈ lw_tbl := ab_t1 (List.mem_of_getElem? (i := 237) rfl)
theorem se_SU_isWordByte : Cond.selects "PatternWorks$Subject" y_SU_isWordByte y_SU_isWordByte ∈ lw_tbl := ab_t1 (List.mem_of_getElem? (i := 238) rfl)
def y_SU_take : MethodName := ⟨"PatternWorks$Subject", "take", "(LPatternWorks$Row;)V"⟩
abbrev b_SU_take : ByteArray := prog_10_method_2_code
theorem m_SU_take : ab_mt y_SU_take b_SU_take 4 none 1 := ⟨by decide, ab_t3 (List.mem_of_getElem? (i := 144) rfl), ab_t1 (List.mem_of_getElem? (i := 7) rfl), ⟨by decide +kernel, by decide +kernel⟩, by decide +kernel⟩
theorem im_SU_take : Cond.instanceMethod y_SU_take ∈ lw_tbl := ab_t3 (List.mem_of_getElem? (i := 142) rfl)
theorem se_SU_take : Cond.selects "PatternWorks$Subject" y_SU_take y_SU_take ∈ lw_tbl := ab_t3 (List.mem_of_getElem? (i := 143) rfl)
def y_TH_find : MethodName := ⟨"PatternWorks$Threads", "find", "(LPatternWorks$Program;LPatternWorks$Subject;II[I)I"⟩
abbrev b_TH_find : ByteArray := prog_12_method_2_code
theorem m_TH_find : ab_mt y_TH_find b_TH_find 7 (some (.int)) 5 := ⟨by decide, ab_t5 (List.mem_of_getElem? (i := 87) rfl), ab_t1 (List.mem_of_getElem? (i := 8) rfl), ⟨by decide +kernel, by decide +kernel⟩, by decide +kernel⟩
theorem im_TH_find : Cond.instanceMethod y_TH_find ∈ lw_tbl := ab_t5 (List.mem_of_getElem? (i := 85) rfl)
theorem se_TH_find : Cond.selects "PatternWorks$Threads" y_TH_find y_TH_find ∈ lw_tbl := ab_t5 (List.mem_of_getElem? (i := 86) rfl)
def y_TH_follow : MethodName := ⟨"PatternWorks$Threads", "follow", "(II)V"⟩
abbrev b_TH_follow : ByteArray := prog_12_method_7_code
theorem m_TH_follow : ab_mt y_TH_follow b_TH_follow 6 none 2 := ⟨by decide, ab_t5 (List.mem_of_getElem? (i := 102) rfl), ab_t1 (List.mem_of_getElem? (i := 8) rfl), ⟨by decide +kernel, by decide +kernel⟩, by decide +kernel⟩
theorem im_TH_follow : Cond.instanceMethod y_TH_follow ∈ lw_tbl := ab_t5 (List.mem_of_getElem? (i := 101) rfl)
theorem se_TH_follow : Cond.selects "PatternWorks$Threads" y_TH_follow y_TH_follow ∈ lw_tbl := ab_t0 (List.mem_of_getElem? (i := 21) rfl)
def y_TH_init : MethodName := ⟨"PatternWorks$Threads", "<init>", "()V"⟩
abbrev b_TH_init : ByteArray := prog_12_method_1_code
theorem m_TH_init : ab_mt y_TH_init b_TH_init 1 none 0 := ⟨by decide, ab_t2 (List.mem_of_getElem? (i := 39) rfl), ab_t1 (List.mem_of_getElem? (i := 8) rfl), ⟨by decide +kernel, by decide +kernel⟩, by decide +kernel⟩
theorem im_TH_init : Cond.instanceMethod y_TH_init ∈ lw_tbl := ab_t2 (List.mem_of_getElem? (i := 38) rfl)
def y_TH_put : MethodName := ⟨"PatternWorks$Threads", "put", "(I)V"⟩
abbrev b_TH_put : ByteArray := prog_12_method_6_code
theorem m_TH_put : ab_mt y_TH_put b_TH_put 2 none 1 := ⟨by decide, ab_t5 (List.mem_of_getElem? (i := 113) rfl), ab_t1 (List.mem_of_getElem? (i := 8) rfl), ⟨by decide +kernel, by decide +kernel⟩, by decide +kernel⟩
theorem im_TH_put : Cond.instanceMethod y_TH_put ∈ lw_tbl := ab_t5 (List.mem_of_getElem? (i := 112) rfl)
theorem se_TH_put : Cond.selects "PatternWorks$Threads" y_TH_put y_TH_put ∈ lw_tbl := ab_t0 (List.mem_of_getElem? (i := 23) rfl)
def y_TH_renewStamp : MethodName := ⟨"PatternWorks$Threads", "renewStamp", "()V"⟩
abbrev b_TH_renewStamp : ByteArray := prog_12_method_3_code
theorem m_TH_renewStamp : ab_mt y_TH_renewStamp b_TH_renewStamp 1 none 0 := ⟨by decide, ab_t5 (List.mem_of_getElem? (i := 95) rfl), ab_t1 (List.mem_of_getElem? (i := 8) rfl), ⟨by decide +kernel, by decide +kernel⟩, by decide +kernel⟩
theorem im_TH_renewStamp : Cond.instanceMethod y_TH_renewStamp ∈ lw_tbl := ab_t5 (List.mem_of_getElem? (i := 94) rfl)
theorem se_TH_renewStamp : Cond.selects "PatternWorks$Threads" y_TH_renewStamp y_TH_renewStamp ∈ lw_tbl := ab_t0 (List.mem_of_getElem? (i := 20) rfl)
def y_TH_step : MethodName := ⟨"PatternWorks$Threads", "step", "(I)V"⟩
abbrev b_TH_step : ByteArray := prog_12_method_5_code
theorem m_TH_step : ab_mt y_TH_step b_TH_step 7 none 1 := ⟨by decide, ab_t5 (List.mem_of_getElem? (i := 129) rfl), ab_t1 (List.mem_of_getElem? (i := 8) rfl), ⟨by decide +kernel, by decide +kernel⟩, by decide +kernel⟩
theorem im_TH_step : Cond.instanceMethod y_TH_step ∈ lw_tbl := ab_t5 (List.mem_of_getElem? (i := 128) rfl)
theorem se_TH_step : Cond.selects "PatternWorks$Threads" y_TH_step y_TH_step ∈ lw_tbl := ab_t0 (List.mem_of_getElem? (i := 25) rfl)
def y_TH_turnRows : MethodName := ⟨"PatternWorks$Threads", "turnRows", "()V"⟩
abbrev b_TH_turnRows : ByteArray := prog_12_method_4_code
theorem m_TH_turnRows : ab_mt y_TH_turnRows b_TH_turnRows 3 none 0 := ⟨by decide, ab_t5 (List.mem_of_getElem? (i := 125) rfl), ab_t1 (List.mem_of_getElem? (i := 8) rfl), ⟨by decide +kernel, by decide +kernel⟩, by decide +kernel⟩
theorem im_TH_turnRows : Cond.instanceMethod y_TH_turnRows ∈ lw_tbl := ab_t5 (List.mem_of_getElem? (i := 124) rfl)
theorem se_TH_turnRows : Cond.selects "PatternWorks$Threads" y_TH_turnRows y_TH_turnRows ∈ lw_tbl := ab_t0 (List.mem_of_getElem? (i := 24) rfl)
def y_TH_walk : MethodName := ⟨"PatternWorks$Threads", "walk", "(III)I"⟩
abbrev b_TH_walk : ByteArray := prog_12_method_8_code
theorem m_TH_walk : ab_mt y_TH_walk b_TH_walk 9 (some (.int)) 3 := ⟨by decide, ab_t5 (List.mem_of_getElem? (i := 109) rfl), ab_t1 (List.mem_of_getElem? (i := 8) rfl), ⟨by decide +kernel, by decide +kernel⟩, by decide +kernel⟩
theorem im_TH_walk : Cond.instanceMethod y_TH_walk ∈ lw_tbl := ab_t5 (List.mem_of_getElem? (i := 108) rfl)
theorem se_TH_walk : Cond.selects "PatternWorks$Threads" y_TH_walk y_TH_walk ∈ lw_tbl := ab_t0 (List.mem_of_getElem? (i := 22) rfl)
def y_TX_aKind : MethodName := ⟨"PatternWorks$Text", "aKind", "([IZ)I"⟩
abbrev b_TX_aKind : ByteArray := prog_11_method_7_code
theorem m_TX_aKind : ab_mt y_TX_aKind b_TX_aKind 3 (some (.int)) 2 := ⟨by decide, ab_t6 (List.mem_of_getElem? (i := 74) rfl), ab_t1 (List.mem_of_getElem? (i := 4) rfl), ⟨by decide +kernel, by decide +kernel⟩, by decide +kernel⟩
theorem im_TX_aKind : Cond.instanceMethod y_TX_aKind ∈ lw_tbl := ab_t6 (List.mem_of_getElem? (i := 73) rfl)
theorem se_TX_aKind : Cond.selects "PatternWorks$Text" y_TX_aKind y_TX_aKind ∈ lw_tbl := ab_t0 (List.mem_of_getElem? (i := 42) rfl)
def y_TX_begin : MethodName := ⟨"PatternWorks$Text", "begin", "(LPatternWorks$Row;)V"⟩
abbrev b_TX_begin : ByteArray := prog_11_method_2_code
theorem m_TX_begin : ab_mt y_TX_begin b_TX_begin 2 none 1 := ⟨by decide, ab_t6 (List.mem_of_getElem? (i := 40) rfl), ab_t1 (List.mem_of_getElem? (i := 4) rfl), ⟨by decide +kernel, by decide +kernel⟩, by decide +kernel⟩
theorem im_TX_begin : Cond.instanceMethod y_TX_begin ∈ lw_tbl := ab_t6 (List.mem_of_getElem? (i := 38) rfl)
theorem se_TX_begin : Cond.selects "PatternWorks$Text" y_TX_begin y_TX_begin ∈ lw_tbl := ab_t6 (List.mem_of_getElem? (i := 39) rfl)
def y_TX_charClass : MethodName := ⟨"PatternWorks$Text", "charClass", "(Z)[I"⟩
abbrev b_TX_charClass : ByteArray := prog_11_method_11_code
theorem m_TX_charClass : ab_mt y_TX_charClass b_TX_charClass 9 (some (.array .int)) 1 := ⟨by decide, ab_t6 (List.mem_of_getElem? (i := 140) rfl), ab_t1 (List.mem_of_getElem? (i := 4) rfl), ⟨by decide +kernel, by decide +kernel⟩, by decide +kernel⟩
theorem im_TX_charClass : Cond.instanceMethod y_TX_charClass ∈ lw_tbl := ab_t6 (List.mem_of_getElem? (i := 138) rfl)
theorem se_TX_charClass : Cond.selects "PatternWorks$Text" y_TX_charClass y_TX_charClass ∈ lw_tbl := ab_t6 (List.mem_of_getElem? (i := 139) rfl)
def y_TX_character : MethodName := ⟨"PatternWorks$Text", "character", "()I"⟩
abbrev b_TX_character : ByteArray := prog_11_method_5_code
theorem m_TX_character : ab_mt y_TX_character b_TX_character 2 (some (.int)) 0 := ⟨by decide, ab_t6 (List.mem_of_getElem? (i := 207) rfl), ab_t1 (List.mem_of_getElem? (i := 4) rfl), ⟨by decide +kernel, by decide +kernel⟩, by decide +kernel⟩
theorem im_TX_character : Cond.instanceMethod y_TX_character ∈ lw_tbl := ab_t6 (List.mem_of_getElem? (i := 205) rfl)
theorem se_TX_character : Cond.selects "PatternWorks$Text" y_TX_character y_TX_character ∈ lw_tbl := ab_t6 (List.mem_of_getElem? (i := 206) rfl)
def y_TX_escape : MethodName := ⟨"PatternWorks$Text", "escape", "()I"⟩
abbrev b_TX_escape : ByteArray := prog_11_method_6_code
theorem m_TX_escape : ab_mt y_TX_escape b_TX_escape 3 (some (.int)) 0 := ⟨by decide, ab_t6 (List.mem_of_getElem? (i := 56) rfl), ab_t1 (List.mem_of_getElem? (i := 4) rfl), ⟨by decide +kernel, by decide +kernel⟩, by decide +kernel⟩
theorem im_TX_escape : Cond.instanceMethod y_TX_escape ∈ lw_tbl := ab_t6 (List.mem_of_getElem? (i := 54) rfl)
theorem se_TX_escape : Cond.selects "PatternWorks$Text" y_TX_escape y_TX_escape ∈ lw_tbl := ab_t6 (List.mem_of_getElem? (i := 55) rfl)
def y_TX_fail : MethodName := ⟨"PatternWorks$Text", "fail", "(II)I"⟩
abbrev b_TX_fail : ByteArray := prog_11_method_4_code
theorem m_TX_fail : ab_mt y_TX_fail b_TX_fail 3 (some (.int)) 2 := ⟨by decide, ab_t6 (List.mem_of_getElem? (i := 70) rfl), ab_t1 (List.mem_of_getElem? (i := 4) rfl), ⟨by decide +kernel, by decide +kernel⟩, by decide +kernel⟩
theorem im_TX_fail : Cond.instanceMethod y_TX_fail ∈ lw_tbl := ab_t6 (List.mem_of_getElem? (i := 68) rfl)
theorem se_TX_fail : Cond.selects "PatternWorks$Text" y_TX_fail y_TX_fail ∈ lw_tbl := ab_t6 (List.mem_of_getElem? (i := 69) rfl)
def y_TX_hexDigit : MethodName := ⟨"PatternWorks$Text", "hexDigit", "(I)I"⟩
abbrev b_TX_hexDigit : ByteArray := prog_11_method_10_code
theorem m_TX_hexDigit : ab_mt y_TX_hexDigit b_TX_hexDigit 4 (some (.int)) 1 := ⟨by decide, ab_t6 (List.mem_of_getElem? (i := 65) rfl), ab_t1 (List.mem_of_getElem? (i := 4) rfl), ⟨by decide +kernel, by decide +kernel⟩, by decide +kernel⟩
theorem im_TX_hexDigit : Cond.instanceMethod y_TX_hexDigit ∈ lw_tbl := ab_t6 (List.mem_of_getElem? (i := 64) rfl)
theorem se_TX_hexDigit : Cond.selects "PatternWorks$Text" y_TX_hexDigit y_TX_hexDigit ∈ lw_tbl := ab_t0 (List.mem_of_getElem? (i := 41) rfl)
def y_TX_hexadecimal : MethodName := ⟨"PatternWorks$Text", "hexadecimal", "(I)I"⟩
abbrev b_TX_hexadecimal : ByteArray := prog_11_method_9_code
theorem m_TX_hexadecimal : ab_mt y_TX_hexadecimal b_TX_hexadecimal 7 (some (.int)) 1 := ⟨by decide, ab_t6 (List.mem_of_getElem? (i := 61) rfl), ab_t1 (List.mem_of_getElem? (i := 4) rfl), ⟨by decide +kernel, by decide +kernel⟩, by decide +kernel⟩
theorem im_TX_hexadecimal : Cond.instanceMethod y_TX_hexadecimal ∈ lw_tbl := ab_t6 (List.mem_of_getElem? (i := 60) rfl)
theorem se_TX_hexadecimal : Cond.selects "PatternWorks$Text" y_TX_hexadecimal y_TX_hexadecimal ∈ lw_tbl := ab_t0 (List.mem_of_getElem? (i := 40) rfl)
def y_TX_init : MethodName := ⟨"PatternWorks$Text", "<init>", "()V"⟩
abbrev b_TX_init : ByteArray := prog_11_method_1_code
theorem m_TX_init : ab_mt y_TX_init b_TX_init 1 none 0 := ⟨by decide, ab_t1 (List.mem_of_getElem? (i := 70) rfl), ab_t1 (List.mem_of_getElem? (i := 4) rfl), ⟨by decide +kernel, by decide +kernel⟩, by decide +kernel⟩
theorem im_TX_init : Cond.instanceMethod y_TX_init ∈ lw_tbl := ab_t1 (List.mem_of_getElem? (i := 69) rfl)
def y_TX_isAt : MethodName := ⟨"PatternWorks$Text", "isAt", "(ILjava/lang/String;)Z"⟩
abbrev b_TX_isAt : ByteArray := prog_11_method_16_code
theorem m_TX_isAt : ab_mt y_TX_isAt b_TX_isAt 5 (some (.boolean)) 2 := ⟨by decide, ab_t6 (List.mem_of_getElem? (i := 159) rfl), ab_t1 (List.mem_of_getElem? (i := 4) rfl), ⟨by decide +kernel, by decide +kernel⟩, by decide +kernel⟩
theorem im_TX_isAt : Cond.instanceMethod y_TX_isAt ∈ lw_tbl := ab_t6 (List.mem_of_getElem? (i := 158) rfl)
theorem se_TX_isAt : Cond.selects "PatternWorks$Text" y_TX_isAt y_TX_isAt ∈ lw_tbl := ab_t0 (List.mem_of_getElem? (i := 52) rfl)
def y_TX_isNamedKind : MethodName := ⟨"PatternWorks$Text", "isNamedKind", "()Z"⟩
abbrev b_TX_isNamedKind : ByteArray := prog_11_method_13_code
theorem m_TX_isNamedKind : ab_mt y_TX_isNamedKind b_TX_isNamedKind 1 (some (.boolean)) 0 := ⟨by decide, ab_t6 (List.mem_of_getElem? (i := 146) rfl), ab_t1 (List.mem_of_getElem? (i := 4) rfl), ⟨by decide +kernel, by decide +kernel⟩, by decide +kernel⟩
theorem im_TX_isNamedKind : Cond.instanceMethod y_TX_isNamedKind ∈ lw_tbl := ab_t6 (List.mem_of_getElem? (i := 145) rfl)
theorem se_TX_isNamedKind : Cond.selects "PatternWorks$Text" y_TX_isNamedKind y_TX_isNamedKind ∈ lw_tbl := ab_t0 (List.mem_of_getElem? (i := 49) rfl)
def y_TX_member : MethodName := ⟨"PatternWorks$Text", "member", "(I)I"⟩
abbrev b_TX_member : ByteArray := prog_11_method_12_code
theorem m_TX_member : ab_mt y_TX_member b_TX_member 4 (some (.int)) 1 := ⟨by decide, ab_t6 (List.mem_of_getElem? (i := 203) rfl), ab_t1 (List.mem_of_getElem? (i := 4) rfl), ⟨by decide +kernel, by decide +kernel⟩, by decide +kernel⟩
theorem im_TX_member : Cond.instanceMethod y_TX_member ∈ lw_tbl := ab_t6 (List.mem_of_getElem? (i := 202) rfl)
theorem se_TX_member : Cond.selects "PatternWorks$Text" y_TX_member y_TX_member ∈ lw_tbl := ab_t0 (List.mem_of_getElem? (i := 53) rfl)
def y_TX_namedKind : MethodName := ⟨"PatternWorks$Text", "namedKind", "()I"⟩
abbrev b_TX_namedKind : ByteArray := prog_11_method_14_code
theorem m_TX_namedKind : ab_mt y_TX_namedKind b_TX_namedKind 5 (some (.int)) 0 := ⟨by decide, ab_t6 (List.mem_of_getElem? (i := 150) rfl), ab_t1 (List.mem_of_getElem? (i := 4) rfl), ⟨by decide +kernel, by decide +kernel⟩, by decide +kernel⟩
theorem im_TX_namedKind : Cond.instanceMethod y_TX_namedKind ∈ lw_tbl := ab_t6 (List.mem_of_getElem? (i := 149) rfl)
theorem se_TX_namedKind : Cond.selects "PatternWorks$Text" y_TX_namedKind y_TX_namedKind ∈ lw_tbl := ab_t0 (List.mem_of_getElem? (i := 50) rfl)
def y_TX_peek : MethodName := ⟨"PatternWorks$Text", "peek", "(I)I"⟩
abbrev b_TX_peek : ByteArray := prog_11_method_3_code
theorem m_TX_peek : ab_mt y_TX_peek b_TX_peek 3 (some (.int)) 1 := ⟨by decide, ab_t6 (List.mem_of_getElem? (i := 52) rfl), ab_t1 (List.mem_of_getElem? (i := 4) rfl), ⟨by decide +kernel, by decide +kernel⟩, by decide +kernel⟩
theorem im_TX_peek : Cond.instanceMethod y_TX_peek ∈ lw_tbl := ab_t6 (List.mem_of_getElem? (i := 50) rfl)
theorem se_TX_peek : Cond.selects "PatternWorks$Text" y_TX_peek y_TX_peek ∈ lw_tbl := ab_t6 (List.mem_of_getElem? (i := 51) rfl)
def y_TX_property : MethodName := ⟨"PatternWorks$Text", "property", "(IZ)I"⟩
abbrev b_TX_property : ByteArray := prog_11_method_8_code
theorem m_TX_property : ab_mt y_TX_property b_TX_property 4 (some (.int)) 2 := ⟨by decide, ab_t6 (List.mem_of_getElem? (i := 82) rfl), ab_t1 (List.mem_of_getElem? (i := 4) rfl), ⟨by decide +kernel, by decide +kernel⟩, by decide +kernel⟩
theorem im_TX_property : Cond.instanceMethod y_TX_property ∈ lw_tbl := ab_t6 (List.mem_of_getElem? (i := 81) rfl)
theorem se_TX_property : Cond.selects "PatternWorks$Text" y_TX_property y_TX_property ∈ lw_tbl := ab_t0 (List.mem_of_getElem? (i := 43) rfl)
def y_TX_rangesNamed : MethodName := ⟨"PatternWorks$Text", "rangesNamed", "(I)[I"⟩
abbrev b_TX_rangesNamed : ByteArray := prog_11_method_15_code
theorem m_TX_rangesNamed : ab_mt y_TX_rangesNamed b_TX_rangesNamed 2 (some (.array .int)) 1 := ⟨by decide, ab_t6 (List.mem_of_getElem? (i := 154) rfl), ab_t1 (List.mem_of_getElem? (i := 4) rfl), ⟨by decide +kernel, by decide +kernel⟩, by decide +kernel⟩
theorem im_TX_rangesNamed : Cond.instanceMethod y_TX_rangesNamed ∈ lw_tbl := ab_t6 (List.mem_of_getElem? (i := 153) rfl)
theorem se_TX_rangesNamed : Cond.selects "PatternWorks$Text" y_TX_rangesNamed y_TX_rangesNamed ∈ lw_tbl := ab_t0 (List.mem_of_getElem? (i := 51) rfl)
theorem ml_LA_33 : ab_ml R_LA 33 y_PW_init := Or.inl (ab_t1 (List.mem_of_getElem? (i := 31) rfl))
theorem mj_PW_3 : Cond.methodLink R_PW 3 Lib.objectInit ∈ lw_tbl := ab_t1 (List.mem_of_getElem? (i := 34) rfl)
theorem ml_PW_15 : ab_ml R_PW 15 y_RW_init := Or.inl (ab_t1 (List.mem_of_getElem? (i := 39) rfl))
theorem mj_RW_3 : Cond.methodLink R_RW 3 Lib.objectInit ∈ lw_tbl := ab_t1 (List.mem_of_getElem? (i := 42) rfl)
theorem ml_PW_24 : ab_ml R_PW 24 y_RD_init := Or.inr ⟨"PatternWorks", ab_t1 (List.mem_of_getElem? (i := 62) rfl)⟩
theorem mj_RD_3 : Cond.methodLink R_RD 3 Lib.objectInit ∈ lw_tbl := ab_t1 (List.mem_of_getElem? (i := 65) rfl)
theorem ml_RD_11 : ab_ml R_RD 11 y_TX_init := Or.inr ⟨"PatternWorks", ab_t1 (List.mem_of_getElem? (i := 68) rfl)⟩
theorem mj_TX_3 : Cond.methodLink R_TX 3 Lib.objectInit ∈ lw_tbl := ab_t1 (List.mem_of_getElem? (i := 71) rfl)
theorem ml_TX_11 : ab_ml R_TX 11 y_CS_init := Or.inr ⟨"PatternWorks", ab_t1 (List.mem_of_getElem? (i := 74) rfl)⟩
theorem mj_CS_3 : Cond.methodLink R_CS 3 Lib.objectInit ∈ lw_tbl := ab_t1 (List.mem_of_getElem? (i := 77) rfl)
theorem ml_RD_20 : ab_ml R_RD 20 y_PA_init := Or.inl (ab_t1 (List.mem_of_getElem? (i := 125) rfl))
theorem mj_PA_3 : Cond.methodLink R_PA 3 Lib.objectInit ∈ lw_tbl := ab_t1 (List.mem_of_getElem? (i := 128) rfl)
theorem ml_PW_37 : ab_ml R_PW 37 y_SU_init := Or.inl (ab_t1 (List.mem_of_getElem? (i := 228) rfl))
theorem mj_SU_3 : Cond.methodLink R_SU 3 Lib.objectInit ∈ lw_tbl := ab_t1 (List.mem_of_getElem? (i := 231) rfl)
theorem ml_SU_24 : ab_ml R_SU 24 y_SU_holdingAt := Or.inl (ab_t1 (List.mem_of_getElem? (i := 232) rfl))
theorem ml_SU_66 : ab_ml R_SU 66 y_SU_isWordByte := Or.inl (ab_t1 (List.mem_of_getElem? (i := 236) rfl))
theorem ml_SU_62 : ab_ml R_SU 62 y_PW_isWord := Or.inr ⟨"PatternWorks", ab_t2 (List.mem_of_getElem? (i := 0) rfl)⟩
theorem ml_SU_69 : ab_ml R_SU 69 y_SU_isLineFeed := Or.inl (ab_t2 (List.mem_of_getElem? (i := 3) rfl))
theorem ml_PW_47 : ab_ml R_PW 47 y_TH_init := Or.inr ⟨"PatternWorks", ab_t2 (List.mem_of_getElem? (i := 37) rfl)⟩
theorem mj_TH_3 : Cond.methodLink R_TH 3 Lib.objectInit ∈ lw_tbl := ab_t2 (List.mem_of_getElem? (i := 40) rfl)
theorem ml_PW_54 : ab_ml R_PW 54 y_MK_init := Or.inr ⟨"PatternWorks", ab_t2 (List.mem_of_getElem? (i := 96) rfl)⟩
theorem mj_MK_3 : Cond.methodLink R_MK 3 Lib.objectInit ∈ lw_tbl := ab_t2 (List.mem_of_getElem? (i := 99) rfl)
theorem ml_PW_61 : ab_ml R_PW 61 y_OM_init := Or.inr ⟨"PatternWorks", ab_t2 (List.mem_of_getElem? (i := 143) rfl)⟩
theorem mj_OM_3 : Cond.methodLink R_OM 3 Lib.objectInit ∈ lw_tbl := ab_t2 (List.mem_of_getElem? (i := 146) rfl)
theorem ml_OM_23 : ab_ml R_OM 23 y_CS_init := Or.inr ⟨"PatternWorks", ab_t2 (List.mem_of_getElem? (i := 148) rfl)⟩
theorem ml_PW_68 : ab_ml R_PW 68 y_ST_init := Or.inr ⟨"PatternWorks", ab_t2 (List.mem_of_getElem? (i := 198) rfl)⟩
theorem mj_ST_3 : Cond.methodLink R_ST 3 Lib.objectInit ∈ lw_tbl := ab_t2 (List.mem_of_getElem? (i := 201) rfl)
theorem ml_PW_91 : ab_ml R_PW 91 y_AR_fill := Or.inl (ab_t3 (List.mem_of_getElem? (i := 18) rfl))
theorem ml_LA_37 : ab_ml R_LA 37 y_PW_feed := Or.inl (ab_t3 (List.mem_of_getElem? (i := 76) rfl))
theorem ml_PW_97 : ab_ml R_PW 97 y_PW_makeReady := Or.inl (ab_t3 (List.mem_of_getElem? (i := 80) rfl))
theorem ml_LA_42 : ab_ml R_LA 42 y_PW_end := Or.inl (ab_t3 (List.mem_of_getElem? (i := 84) rfl))
theorem ml_PW_105 : ab_ml R_PW 105 y_RW_addAll := Or.inl (ab_t3 (List.mem_of_getElem? (i := 88) rfl))
theorem ml_RW_22 : ab_ml R_RW 22 y_RW_makeRoom := Or.inl (ab_t3 (List.mem_of_getElem? (i := 92) rfl))
theorem mj_RW_32 : Cond.methodLink R_RW 32 Lib.Math.max.name ∈ lw_tbl := ab_t3 (List.mem_of_getElem? (i := 96) rfl)
theorem mj_RW_38 : Cond.methodLink R_RW 38 Lib.Math.min.name ∈ lw_tbl := ab_t3 (List.mem_of_getElem? (i := 99) rfl)
theorem ml_RW_41 : ab_ml R_RW 41 y_AR_copyOf := Or.inl (ab_t3 (List.mem_of_getElem? (i := 102) rfl))
theorem mj_AR_304 : Cond.methodLink R_AR 304 Lib.Math.min.name ∈ lw_tbl := ab_t3 (List.mem_of_getElem? (i := 112) rfl)
theorem mj_AR_150 : Cond.methodLink R_AR 150 arraycopyName ∈ lw_tbl := ab_t3 (List.mem_of_getElem? (i := 113) rfl)
theorem mj_RW_26 : Cond.methodLink R_RW 26 arraycopyName ∈ lw_tbl := ab_t3 (List.mem_of_getElem? (i := 116) rfl)
theorem ml_LA_52 : ab_ml R_LA 52 y_PW_fault := Or.inl (ab_t3 (List.mem_of_getElem? (i := 117) rfl))
theorem ml_LA_56 : ab_ml R_LA 56 y_PW_about := Or.inl (ab_t3 (List.mem_of_getElem? (i := 121) rfl))
theorem ml_PW_148 : ab_ml R_PW 148 y_PW_programAt := Or.inl (ab_t3 (List.mem_of_getElem? (i := 125) rfl))
theorem ml_LA_60 : ab_ml R_LA 60 y_PW_name := Or.inl (ab_t3 (List.mem_of_getElem? (i := 129) rfl))
theorem ml_PW_156 : ab_ml R_PW 156 y_PR_nameByte := Or.inl (ab_t3 (List.mem_of_getElem? (i := 133) rfl))
theorem ml_LA_65 : ab_ml R_LA 65 y_PW_subject := Or.inl (ab_t3 (List.mem_of_getElem? (i := 137) rfl))
theorem ml_PW_160 : ab_ml R_PW 160 y_SU_take := Or.inl (ab_t3 (List.mem_of_getElem? (i := 141) rfl))
theorem mj_SU_37 : Cond.methodLink R_SU 37 Lib.Math.min.name ∈ lw_tbl := ab_t3 (List.mem_of_getElem? (i := 145) rfl)
theorem mj_SU_43 : Cond.methodLink R_SU 43 Lib.Math.max.name ∈ lw_tbl := ab_t3 (List.mem_of_getElem? (i := 146) rfl)
theorem mj_SU_49 : Cond.methodLink R_SU 49 arraycopyName ∈ lw_tbl := ab_t3 (List.mem_of_getElem? (i := 147) rfl)
theorem ml_SU_55 : ab_ml R_SU 55 y_PW_codeAt := Or.inr ⟨"PatternWorks", ab_t3 (List.mem_of_getElem? (i := 148) rfl)⟩
theorem ml_PW_279 : ab_ml R_PW 279 y_PW_widthOf := Or.inl (ab_t3 (List.mem_of_getElem? (i := 151) rfl))
theorem ml_PW_282 : ab_ml R_PW 282 y_PW_isCharacter := Or.inl (ab_t3 (List.mem_of_getElem? (i := 155) rfl))
theorem ml_SU_59 : ab_ml R_SU 59 y_PW_widthOf := Or.inr ⟨"PatternWorks", ab_t3 (List.mem_of_getElem? (i := 161) rfl)⟩
theorem ml_PW_120 : ab_ml R_PW 120 y_RW_clear := Or.inl (ab_t3 (List.mem_of_getElem? (i := 162) rfl))
theorem ml_LA_74 : ab_ml R_LA 74 y_PW_group := Or.inl (ab_t3 (List.mem_of_getElem? (i := 166) rfl))
theorem ml_LA_82 : ab_ml R_LA 82 y_PW_found := Or.inl (ab_t3 (List.mem_of_getElem? (i := 170) rfl))
theorem ml_PW_200 : ab_ml R_PW 200 y_PW_pairAt := Or.inl (ab_t3 (List.mem_of_getElem? (i := 174) rfl))
theorem ml_PW_228 : ab_ml R_PW 228 y_RW_at := Or.inl (ab_t3 (List.mem_of_getElem? (i := 177) rfl))
theorem ml_LA_92 : ab_ml R_LA 92 y_PW_piece := Or.inl (ab_t3 (List.mem_of_getElem? (i := 181) rfl))
theorem ml_LA_96 : ab_ml R_LA 96 y_PW_which := Or.inl (ab_t3 (List.mem_of_getElem? (i := 185) rfl))
theorem ml_PW_224 : ab_ml R_PW 224 y_ST_tell := Or.inl (ab_t3 (List.mem_of_getElem? (i := 189) rfl))
theorem ml_ST_43 : ab_ml R_ST 43 y_ST_prepare := Or.inl (ab_t3 (List.mem_of_getElem? (i := 193) rfl))
theorem ml_ST_84 : ab_ml R_ST 84 y_ST_findCuts := Or.inl (ab_t3 (List.mem_of_getElem? (i := 197) rfl))
theorem ml_ST_90 : ab_ml R_ST 90 y_ST_addCut := Or.inl (ab_t3 (List.mem_of_getElem? (i := 203) rfl))
theorem ml_ST_107 : ab_ml R_ST 107 y_ST_lastCut := Or.inl (ab_t3 (List.mem_of_getElem? (i := 207) rfl))
theorem mj_ST_111 : Cond.methodLink R_ST 111 arraycopyName ∈ lw_tbl := ab_t3 (List.mem_of_getElem? (i := 211) rfl)
theorem ml_ST_47 : ab_ml R_ST 47 y_ST_firstState := Or.inl (ab_t3 (List.mem_of_getElem? (i := 212) rfl))
theorem ml_ST_132 : ab_ml R_ST 132 y_ST_addSeed := Or.inl (ab_t3 (List.mem_of_getElem? (i := 216) rfl))
theorem ml_ST_135 : ab_ml R_ST 135 y_SU_isLineFeed := Or.inl (ab_t3 (List.mem_of_getElem? (i := 220) rfl))
theorem ml_ST_139 : ab_ml R_ST 139 y_SU_isWordByte := Or.inl (ab_t3 (List.mem_of_getElem? (i := 221) rfl))
theorem ml_ST_145 : ab_ml R_ST 145 y_ST_keptState := Or.inl (ab_t3 (List.mem_of_getElem? (i := 222) rfl))
theorem ml_ST_176 : ab_ml R_ST 176 y_ST_hasSeeds := Or.inl (ab_t3 (List.mem_of_getElem? (i := 226) rfl))
theorem ml_ST_179 : ab_ml R_ST 179 y_AR_fillr := Or.inl (ab_t3 (List.mem_of_getElem? (i := 230) rfl))
theorem ml_AR_13 : ab_ml R_AR 13 y_AR_rangeCheck := Or.inl (ab_t3 (List.mem_of_getElem? (i := 233) rfl))
theorem ml_ST_60 : ab_ml R_ST 60 y_ST_signAt := Or.inl (ab_t5 (List.mem_of_getElem? (i := 51) rfl))
theorem ml_ST_66 : ab_ml R_ST 66 y_ST_makeEdge := Or.inl (ab_t5 (List.mem_of_getElem? (i := 55) rfl))
theorem ml_ST_151 : ab_ml R_ST 151 y_ST_follow := Or.inl (ab_t5 (List.mem_of_getElem? (i := 59) rfl))
theorem ml_ST_164 : ab_ml R_ST 164 y_ST_takeSign := Or.inl (ab_t5 (List.mem_of_getElem? (i := 63) rfl))
theorem ml_ST_172 : ab_ml R_ST 172 y_PR_has := Or.inl (ab_t5 (List.mem_of_getElem? (i := 67) rfl))
theorem ml_ST_168 : ab_ml R_ST 168 y_ST_holds := Or.inl (ab_t5 (List.mem_of_getElem? (i := 71) rfl))
theorem ml_ST_161 : ab_ml R_ST 161 y_PW_isWord := Or.inr ⟨"PatternWorks", ab_t5 (List.mem_of_getElem? (i := 75) rfl)⟩
theorem ml_ST_158 : ab_ml R_ST 158 y_ST_aheadOf := Or.inl (ab_t5 (List.mem_of_getElem? (i := 76) rfl))
theorem ml_PW_171 : ab_ml R_PW 171 y_PW_run := Or.inl (ab_t5 (List.mem_of_getElem? (i := 80) rfl))
theorem ml_PW_243 : ab_ml R_PW 243 y_TH_find := Or.inl (ab_t5 (List.mem_of_getElem? (i := 84) rfl))
theorem ml_TH_48 : ab_ml R_TH 48 y_PR_isOn := Or.inl (ab_t5 (List.mem_of_getElem? (i := 88) rfl))
theorem ml_TH_58 : ab_ml R_TH 58 y_TH_renewStamp := Or.inl (ab_t5 (List.mem_of_getElem? (i := 92) rfl))
theorem ml_TH_102 : ab_ml R_TH 102 y_AR_fill := Or.inl (ab_t5 (List.mem_of_getElem? (i := 97) rfl))
theorem ml_TH_75 : ab_ml R_TH 75 y_AR_fillr := Or.inl (ab_t5 (List.mem_of_getElem? (i := 98) rfl))
theorem ml_TH_84 : ab_ml R_TH 84 y_TH_follow := Or.inl (ab_t5 (List.mem_of_getElem? (i := 99) rfl))
theorem ml_TH_131 : ab_ml R_TH 131 y_PW_undo := Or.inr ⟨"PatternWorks", ab_t5 (List.mem_of_getElem? (i := 103) rfl)⟩
theorem ml_TH_134 : ab_ml R_TH 134 y_TH_walk := Or.inl (ab_t5 (List.mem_of_getElem? (i := 106) rfl))
theorem ml_TH_128 : ab_ml R_TH 128 y_TH_put := Or.inl (ab_t5 (List.mem_of_getElem? (i := 110) rfl))
theorem mj_TH_109 : Cond.methodLink R_TH 109 arraycopyName ∈ lw_tbl := ab_t5 (List.mem_of_getElem? (i := 114) rfl)
theorem ml_TH_141 : ab_ml R_TH 141 y_SU_holds := Or.inl (ab_t5 (List.mem_of_getElem? (i := 115) rfl))
theorem ml_TH_145 : ab_ml R_TH 145 y_PW_undoOf := Or.inr ⟨"PatternWorks", ab_t5 (List.mem_of_getElem? (i := 119) rfl)⟩
theorem ml_TH_88 : ab_ml R_TH 88 y_TH_turnRows := Or.inl (ab_t5 (List.mem_of_getElem? (i := 122) rfl))
theorem ml_TH_94 : ab_ml R_TH 94 y_TH_step := Or.inl (ab_t5 (List.mem_of_getElem? (i := 126) rfl))
theorem ml_TH_121 : ab_ml R_TH 121 y_PR_bytesTaken := Or.inl (ab_t5 (List.mem_of_getElem? (i := 130) rfl))
theorem ml_PR_117 : ab_ml R_PR 117 y_PR_has := Or.inl (ab_t5 (List.mem_of_getElem? (i := 134) rfl))
theorem ml_PW_247 : ab_ml R_PW 247 y_OM_suits := Or.inl (ab_t5 (List.mem_of_getElem? (i := 135) rfl))
theorem ml_OM_43 : ab_ml R_OM 43 y_OM_isOfOneMind := Or.inl (ab_t5 (List.mem_of_getElem? (i := 139) rfl))
theorem ml_OM_51 : ab_ml R_OM 51 y_AR_fill := Or.inl (ab_t5 (List.mem_of_getElem? (i := 143) rfl))
theorem ml_OM_60 : ab_ml R_OM 60 y_OM_isClearFrom := Or.inl (ab_t5 (List.mem_of_getElem? (i := 144) rfl))
theorem ml_OM_73 : ab_ml R_OM 73 y_CS_clear := Or.inl (ab_t5 (List.mem_of_getElem? (i := 148) rfl))
theorem ml_OM_70 : ab_ml R_OM 70 y_PR_takes := Or.inl (ab_t5 (List.mem_of_getElem? (i := 152) rfl))
theorem ml_OM_86 : ab_ml R_OM 86 y_OM_isNewTaker := Or.inl (ab_t5 (List.mem_of_getElem? (i := 156) rfl))
theorem ml_OM_93 : ab_ml R_OM 93 y_CS_meets := Or.inl (ab_t5 (List.mem_of_getElem? (i := 160) rfl))
theorem ml_CS_19 : ab_ml R_CS 19 y_CS_rangeFrom := Or.inl (ab_t5 (List.mem_of_getElem? (i := 164) rfl))
theorem ml_OM_97 : ab_ml R_OM 97 y_CS_add := Or.inl (ab_t5 (List.mem_of_getElem? (i := 168) rfl))
theorem mj_CS_23 : Cond.methodLink R_CS 23 Lib.Math.min.name ∈ lw_tbl := ab_t5 (List.mem_of_getElem? (i := 172) rfl)
theorem mj_CS_29 : Cond.methodLink R_CS 29 Lib.Math.max.name ∈ lw_tbl := ab_t5 (List.mem_of_getElem? (i := 173) rfl)
theorem ml_CS_32 : ab_ml R_CS 32 y_AR_copyOf := Or.inl (ab_t5 (List.mem_of_getElem? (i := 174) rfl))
theorem mj_CS_38 : Cond.methodLink R_CS 38 arraycopyName ∈ lw_tbl := ab_t5 (List.mem_of_getElem? (i := 175) rfl)
theorem ml_PW_250 : ab_ml R_PW 250 y_OM_find := Or.inl (ab_t5 (List.mem_of_getElem? (i := 176) rfl))
theorem ml_OM_111 : ab_ml R_OM 111 y_PR_isOn := Or.inl (ab_t5 (List.mem_of_getElem? (i := 180) rfl))
theorem ml_OM_124 : ab_ml R_OM 124 y_AR_fillr := Or.inl (ab_t5 (List.mem_of_getElem? (i := 181) rfl))
theorem ml_OM_135 : ab_ml R_OM 135 y_OM_choose := Or.inl (ab_t5 (List.mem_of_getElem? (i := 182) rfl))
theorem ml_OM_148 : ab_ml R_OM 148 y_PW_undo := Or.inr ⟨"PatternWorks", ab_t5 (List.mem_of_getElem? (i := 186) rfl)⟩
theorem ml_OM_151 : ab_ml R_OM 151 y_OM_arrive := Or.inl (ab_t5 (List.mem_of_getElem? (i := 187) rfl))
theorem mj_OM_142 : Cond.methodLink R_OM 142 arraycopyName ∈ lw_tbl := ab_t5 (List.mem_of_getElem? (i := 191) rfl)
theorem ml_OM_138 : ab_ml R_OM 138 y_PR_bytesTaken := Or.inl (ab_t5 (List.mem_of_getElem? (i := 192) rfl))
theorem ml_OM_154 : ab_ml R_OM 154 y_OM_spread := Or.inl (ab_t5 (List.mem_of_getElem? (i := 193) rfl))
theorem ml_OM_157 : ab_ml R_OM 157 y_SU_holds := Or.inl (ab_t5 (List.mem_of_getElem? (i := 197) rfl))
theorem ml_OM_160 : ab_ml R_OM 160 y_PW_undoOf := Or.inr ⟨"PatternWorks", ab_t5 (List.mem_of_getElem? (i := 198) rfl)⟩
theorem ml_PW_189 : ab_ml R_PW 189 y_MK_begin := Or.inl (ab_t5 (List.mem_of_getElem? (i := 199) rfl))
theorem ml_MK_36 : ab_ml R_MK 36 y_PR_isOn := Or.inl (ab_t5 (List.mem_of_getElem? (i := 203) rfl))
theorem mj_MK_61 : Cond.methodLink R_MK 61 Lib.Math.min.name ∈ lw_tbl := ab_t5 (List.mem_of_getElem? (i := 205) rfl)
theorem mj_MK_67 : Cond.methodLink R_MK 67 Lib.Math.max.name ∈ lw_tbl := ab_t5 (List.mem_of_getElem? (i := 206) rfl)
theorem ml_PW_251 : ab_ml R_PW 251 y_MK_find := Or.inl (ab_t5 (List.mem_of_getElem? (i := 207) rfl))
theorem ml_MK_73 : ab_ml R_MK 73 y_MK_tryFrom := Or.inl (ab_t5 (List.mem_of_getElem? (i := 211) rfl))
theorem ml_MK_77 : ab_ml R_MK 77 y_AR_fillr := Or.inl (ab_t5 (List.mem_of_getElem? (i := 215) rfl))
theorem ml_MK_92 : ab_ml R_MK 92 y_MK_push := Or.inl (ab_t5 (List.mem_of_getElem? (i := 216) rfl))
theorem ml_MK_139 : ab_ml R_MK 139 y_AR_copyOf := Or.inl (ab_t5 (List.mem_of_getElem? (i := 221) rfl))
theorem ml_MK_97 : ab_ml R_MK 97 y_PW_undo := Or.inr ⟨"PatternWorks", ab_t5 (List.mem_of_getElem? (i := 223) rfl)⟩
theorem ml_MK_101 : ab_ml R_MK 101 y_MK_walk := Or.inl (ab_t5 (List.mem_of_getElem? (i := 224) rfl))
theorem ml_MK_105 : ab_ml R_MK 105 y_MK_mark := Or.inl (ab_t5 (List.mem_of_getElem? (i := 228) rfl))
theorem ml_MK_115 : ab_ml R_MK 115 y_PR_bytesTaken := Or.inl (ab_t5 (List.mem_of_getElem? (i := 232) rfl))
theorem ml_MK_119 : ab_ml R_MK 119 y_PW_undoOf := Or.inr ⟨"PatternWorks", ab_t5 (List.mem_of_getElem? (i := 233) rfl)⟩
theorem ml_MK_123 : ab_ml R_MK 123 y_MK_arrive := Or.inl (ab_t5 (List.mem_of_getElem? (i := 234) rfl))
theorem mj_MK_132 : Cond.methodLink R_MK 132 arraycopyName ∈ lw_tbl := ab_t5 (List.mem_of_getElem? (i := 238) rfl)
theorem ml_MK_126 : ab_ml R_MK 126 y_SU_holds := Or.inl (ab_t5 (List.mem_of_getElem? (i := 239) rfl))
theorem ml_PW_175 : ab_ml R_PW 175 y_PW_settle := Or.inl (ab_t6 (List.mem_of_getElem? (i := 0) rfl))
theorem ml_LA_101 : ab_ml R_LA 101 y_PW_quote := Or.inl (ab_t6 (List.mem_of_getElem? (i := 5) rfl))
theorem ml_PW_232 : ab_ml R_PW 232 y_PW_isWord := Or.inl (ab_t6 (List.mem_of_getElem? (i := 9) rfl))
theorem ml_PW_197 : ab_ml R_PW 197 y_RW_add := Or.inl (ab_t6 (List.mem_of_getElem? (i := 10) rfl))
theorem ml_LA_105 : ab_ml R_LA 105 y_PW_output := Or.inl (ab_t6 (List.mem_of_getElem? (i := 14) rfl))
theorem ml_LA_113 : ab_ml R_LA 113 y_PW_over := Or.inl (ab_t6 (List.mem_of_getElem? (i := 18) rfl))
theorem ml_LA_46 : ab_ml R_LA 46 y_LA_compile := Or.inl (ab_t6 (List.mem_of_getElem? (i := 22) rfl))
theorem ml_LA_7 : ab_ml R_LA 7 y_PW_compile := Or.inl (ab_t6 (List.mem_of_getElem? (i := 26) rfl))
theorem ml_PW_116 : ab_ml R_PW 116 y_RD_read := Or.inl (ab_t6 (List.mem_of_getElem? (i := 33) rfl))
theorem ml_RD_34 : ab_ml R_RD 34 y_TX_begin := Or.inl (ab_t6 (List.mem_of_getElem? (i := 37) rfl))
theorem ml_RD_48 : ab_ml R_RD 48 y_PA_push := Or.inl (ab_t6 (List.mem_of_getElem? (i := 41) rfl))
theorem ml_RD_61 : ab_ml R_RD 61 y_RD_part := Or.inl (ab_t6 (List.mem_of_getElem? (i := 45) rfl))
theorem ml_RD_79 : ab_ml R_RD 79 y_TX_peek := Or.inl (ab_t6 (List.mem_of_getElem? (i := 49) rfl))
theorem ml_RD_83 : ab_ml R_RD 83 y_TX_escape := Or.inl (ab_t6 (List.mem_of_getElem? (i := 53) rfl))
theorem ml_TX_61 : ab_ml R_TX 61 y_TX_peek := Or.inl (ab_t6 (List.mem_of_getElem? (i := 57) rfl))
theorem ml_TX_64 : ab_ml R_TX 64 y_TX_hexadecimal := Or.inl (ab_t6 (List.mem_of_getElem? (i := 58) rfl))
theorem ml_TX_101 : ab_ml R_TX 101 y_TX_hexDigit := Or.inl (ab_t6 (List.mem_of_getElem? (i := 62) rfl))
theorem ml_TX_104 : ab_ml R_TX 104 y_PW_isCharacter := Or.inr ⟨"PatternWorks", ab_t6 (List.mem_of_getElem? (i := 66) rfl)⟩
theorem ml_TX_53 : ab_ml R_TX 53 y_TX_fail := Or.inl (ab_t6 (List.mem_of_getElem? (i := 67) rfl))
theorem ml_TX_67 : ab_ml R_TX 67 y_TX_aKind := Or.inl (ab_t6 (List.mem_of_getElem? (i := 71) rfl))
theorem ml_TX_77 : ab_ml R_TX 77 y_TX_property := Or.inl (ab_t6 (List.mem_of_getElem? (i := 79) rfl))
theorem ml_TX_81 : ab_ml R_TX 81 y_PW_isWord := Or.inr ⟨"PatternWorks", ab_t6 (List.mem_of_getElem? (i := 91) rfl)⟩
theorem ml_RD_87 : ab_ml R_RD 87 y_RD_literal := Or.inl (ab_t6 (List.mem_of_getElem? (i := 92) rfl))
theorem ml_RD_94 : ab_ml R_RD 94 y_RD_isOn := Or.inl (ab_t6 (List.mem_of_getElem? (i := 96) rfl))
theorem ml_RD_130 : ab_ml R_RD 130 y_CS_clear := Or.inl (ab_t6 (List.mem_of_getElem? (i := 100) rfl))
theorem ml_RD_151 : ab_ml R_RD 151 y_CS_addAlike := Or.inl (ab_t6 (List.mem_of_getElem? (i := 101) rfl))
theorem ml_CS_44 : ab_ml R_CS 44 y_CS_add := Or.inl (ab_t6 (List.mem_of_getElem? (i := 105) rfl))
theorem ml_CS_51 : ab_ml R_CS 51 y_CS_addMoved := Or.inl (ab_t6 (List.mem_of_getElem? (i := 108) rfl))
theorem ml_RD_146 : ab_ml R_RD 146 y_CS_ranges := Or.inl (ab_t6 (List.mem_of_getElem? (i := 114) rfl))
theorem ml_CS_59 : ab_ml R_CS 59 y_CS_clear := Or.inl (ab_t6 (List.mem_of_getElem? (i := 118) rfl))
theorem ml_CS_62 : ab_ml R_CS 62 y_CS_addAll := Or.inl (ab_t6 (List.mem_of_getElem? (i := 119) rfl))
theorem ml_RD_102 : ab_ml R_RD 102 y_RD_classPart := Or.inl (ab_t6 (List.mem_of_getElem? (i := 128) rfl))
theorem ml_RD_91 : ab_ml R_RD 91 y_RD_escaped := Or.inl (ab_t6 (List.mem_of_getElem? (i := 132) rfl))
theorem ml_RD_142 : ab_ml R_RD 142 y_CS_addAll := Or.inl (ab_t6 (List.mem_of_getElem? (i := 136) rfl))
theorem ml_RD_98 : ab_ml R_RD 98 y_TX_charClass := Or.inl (ab_t6 (List.mem_of_getElem? (i := 137) rfl))
theorem ml_TX_107 : ab_ml R_TX 107 y_CS_clear := Or.inl (ab_t6 (List.mem_of_getElem? (i := 141) rfl))
theorem ml_TX_110 : ab_ml R_TX 110 y_CS_ranges := Or.inl (ab_t6 (List.mem_of_getElem? (i := 142) rfl))
theorem ml_TX_114 : ab_ml R_TX 114 y_TX_isNamedKind := Or.inl (ab_t6 (List.mem_of_getElem? (i := 143) rfl))
theorem ml_TX_118 : ab_ml R_TX 118 y_TX_namedKind := Or.inl (ab_t6 (List.mem_of_getElem? (i := 147) rfl))
theorem ml_TX_142 : ab_ml R_TX 142 y_TX_rangesNamed := Or.inl (ab_t6 (List.mem_of_getElem? (i := 151) rfl))
theorem ml_TX_148 : ab_ml R_TX 148 y_TX_isAt := Or.inl (ab_t6 (List.mem_of_getElem? (i := 156) rfl))
theorem ml_TX_122 : ab_ml R_TX 122 y_TX_member := Or.inl (ab_t6 (List.mem_of_getElem? (i := 200) rfl))
theorem ml_TX_136 : ab_ml R_TX 136 y_TX_character := Or.inl (ab_t6 (List.mem_of_getElem? (i := 204) rfl))
theorem ml_TX_49 : ab_ml R_TX 49 y_PW_codeAt := Or.inr ⟨"PatternWorks", ab_t6 (List.mem_of_getElem? (i := 208) rfl)⟩
theorem ml_TX_57 : ab_ml R_TX 57 y_PW_widthOf := Or.inr ⟨"PatternWorks", ab_t6 (List.mem_of_getElem? (i := 209) rfl)⟩
theorem ml_TX_139 : ab_ml R_TX 139 y_TX_escape := Or.inl (ab_t6 (List.mem_of_getElem? (i := 210) rfl))
theorem ml_TX_125 : ab_ml R_TX 125 y_CS_addAll := Or.inl (ab_t6 (List.mem_of_getElem? (i := 211) rfl))
theorem ml_TX_129 : ab_ml R_TX 129 y_CS_addAlike := Or.inl (ab_t6 (List.mem_of_getElem? (i := 212) rfl))
theorem ml_TX_133 : ab_ml R_TX 133 y_CS_add := Or.inl (ab_t6 (List.mem_of_getElem? (i := 213) rfl))
theorem ml_RD_106 : ab_ml R_RD 106 y_RD_open := Or.inl (ab_t6 (List.mem_of_getElem? (i := 214) rfl))
theorem ml_RD_155 : ab_ml R_RD 155 y_RD_enter := Or.inl (ab_t6 (List.mem_of_getElem? (i := 218) rfl))
theorem ml_RD_69 : ab_ml R_RD 69 y_TX_fail := Or.inl (ab_t6 (List.mem_of_getElem? (i := 222) rfl))
theorem ml_RD_159 : ab_ml R_RD 159 y_RD_nameLengthAt := Or.inl (ab_t6 (List.mem_of_getElem? (i := 223) rfl))
theorem ml_RD_178 : ab_ml R_RD 178 y_PW_isWord := Or.inr ⟨"PatternWorks", ab_t6 (List.mem_of_getElem? (i := 227) rfl)⟩
theorem ml_RD_162 : ab_ml R_RD 162 y_RD_isTaken := Or.inl (ab_t6 (List.mem_of_getElem? (i := 228) rfl))
theorem ml_RD_166 : ab_ml R_RD 166 y_RD_flagsTold := Or.inl (ab_t6 (List.mem_of_getElem? (i := 232) rfl))
theorem ml_RD_181 : ab_ml R_RD 181 y_RD_flagOf := Or.inl (ab_t6 (List.mem_of_getElem? (i := 236) rfl))
theorem ml_RD_110 : ab_ml R_RD 110 y_RD_close := Or.inl (ab_t6 (List.mem_of_getElem? (i := 239) rfl))
theorem ml_RD_73 : ab_ml R_RD 73 y_PA_closeRows := Or.inl (ab_t7 (List.mem_of_getElem? (i := 3) rfl))
theorem mj_PA_43 : Cond.methodLink R_PA 43 Lib.Math.min.name ∈ lw_tbl := ab_t7 (List.mem_of_getElem? (i := 8) rfl)
theorem ml_RD_119 : ab_ml R_RD 119 y_RD_isRepeat := Or.inl (ab_t7 (List.mem_of_getElem? (i := 13) rfl))
theorem ml_RD_200 : ab_ml R_RD 200 y_RD_number := Or.inl (ab_t7 (List.mem_of_getElem? (i := 17) rfl))
theorem ml_RD_203 : ab_ml R_RD 203 y_RD_byteAt := Or.inl (ab_t7 (List.mem_of_getElem? (i := 21) rfl))
theorem mj_RD_206 : Cond.methodLink R_RD 206 Lib.Math.max.name ∈ lw_tbl := ab_t7 (List.mem_of_getElem? (i := 25) rfl)
theorem ml_RD_123 : ab_ml R_RD 123 y_TX_character := Or.inl (ab_t7 (List.mem_of_getElem? (i := 26) rfl))
theorem ml_RD_65 : ab_ml R_RD 65 y_RD_append := Or.inl (ab_t7 (List.mem_of_getElem? (i := 27) rfl))
theorem ml_RD_193 : ab_ml R_RD 193 y_PA_repeat := Or.inl (ab_t7 (List.mem_of_getElem? (i := 31) rfl))
theorem ml_RD_197 : ab_ml R_RD 197 y_PA_pushInLastRow := Or.inl (ab_t7 (List.mem_of_getElem? (i := 35) rfl))
theorem ml_PA_38 : ab_ml R_PA 38 y_PA_push := Or.inl (ab_t7 (List.mem_of_getElem? (i := 39) rfl))
theorem ml_PW_125 : ab_ml R_PW 125 y_PR_init := Or.inr ⟨"PatternWorks", ab_t7 (List.mem_of_getElem? (i := 42) rfl)⟩
theorem mj_PR_3 : Cond.methodLink R_PR 3 Lib.objectInit ∈ lw_tbl := ab_t7 (List.mem_of_getElem? (i := 45) rfl)
theorem ml_PW_129 : ab_ml R_PW 129 y_PR_build := Or.inl (ab_t7 (List.mem_of_getElem? (i := 127) rfl))
theorem mj_PR_68 : Cond.methodLink R_PR 68 arraycopyName ∈ lw_tbl := ab_t7 (List.mem_of_getElem? (i := 131) rfl)
theorem ml_PR_84 : ab_ml R_PR 84 y_PR_add := Or.inl (ab_t7 (List.mem_of_getElem? (i := 132) rfl))
theorem ml_PR_88 : ab_ml R_PR 88 y_PR_pair := Or.inl (ab_t7 (List.mem_of_getElem? (i := 136) rfl))
theorem ml_PR_92 : ab_ml R_PR 92 y_PR_rows := Or.inl (ab_t7 (List.mem_of_getElem? (i := 139) rfl))
theorem ml_PR_131 : ab_ml R_PR 131 y_PR_row := Or.inl (ab_t7 (List.mem_of_getElem? (i := 143) rfl))
theorem ml_PR_141 : ab_ml R_PR 141 y_PR_repeated := Or.inl (ab_t7 (List.mem_of_getElem? (i := 147) rfl))
theorem ml_PR_147 : ab_ml R_PR 147 y_PR_loop := Or.inl (ab_t7 (List.mem_of_getElem? (i := 151) rfl))
theorem ml_PR_153 : ab_ml R_PR 153 y_PR_once := Or.inl (ab_t7 (List.mem_of_getElem? (i := 155) rfl))
theorem ml_PR_168 : ab_ml R_PR 168 y_PR_addPair := Or.inl (ab_t7 (List.mem_of_getElem? (i := 159) rfl))
theorem ml_PR_96 : ab_ml R_PR 96 y_PR_fresh := Or.inl (ab_t7 (List.mem_of_getElem? (i := 163) rfl))
theorem ml_PR_124 : ab_ml R_PR 124 y_PR_used := Or.inl (ab_t7 (List.mem_of_getElem? (i := 166) rfl))
theorem ml_PR_172 : ab_ml R_PR 172 y_PR_recordOf := Or.inl (ab_t7 (List.mem_of_getElem? (i := 169) rfl))
theorem mj_PR_180 : Cond.methodLink R_PR 180 Lib.Math.max.name ∈ lw_tbl := ab_t7 (List.mem_of_getElem? (i := 173) rfl)
theorem ml_PR_186 : ab_ml R_PR 186 y_AR_copyOf := Or.inl (ab_t7 (List.mem_of_getElem? (i := 174) rfl))
theorem ml_PR_137 : ab_ml R_PR 137 y_PR_fork := Or.inl (ab_t7 (List.mem_of_getElem? (i := 175) rfl))
theorem ml_LA_70 : ab_ml R_LA 70 y_LA_match := Or.inl (ab_t7 (List.mem_of_getElem? (i := 179) rfl))
theorem ml_LA_15 : ab_ml R_LA 15 y_PW_match := Or.inl (ab_t7 (List.mem_of_getElem? (i := 182) rfl))
theorem mj_PW_181 : Cond.methodLink R_PW 181 arraycopyName ∈ lw_tbl := ab_t7 (List.mem_of_getElem? (i := 188) rfl)
theorem ml_LA_78 : ab_ml R_LA 78 y_LA_all := Or.inl (ab_t7 (List.mem_of_getElem? (i := 189) rfl))
theorem ml_LA_19 : ab_ml R_LA 19 y_PW_all := Or.inl (ab_t7 (List.mem_of_getElem? (i := 192) rfl))
theorem ml_PW_193 : ab_ml R_PW 193 y_PW_hunt := Or.inl (ab_t7 (List.mem_of_getElem? (i := 197) rfl))
theorem mj_PW_213 : Cond.methodLink R_PW 213 Lib.Math.max.name ∈ lw_tbl := ab_t7 (List.mem_of_getElem? (i := 201) rfl)
theorem ml_LA_86 : ab_ml R_LA 86 y_LA_replace := Or.inl (ab_t7 (List.mem_of_getElem? (i := 202) rfl))
theorem ml_LA_23 : ab_ml R_LA 23 y_PW_replace := Or.inl (ab_t7 (List.mem_of_getElem? (i := 205) rfl))
theorem ml_PW_204 : ab_ml R_PW 204 y_PW_readTemplate := Or.inl (ab_t7 (List.mem_of_getElem? (i := 209) rfl))
theorem ml_PW_262 : ab_ml R_PW 262 y_PW_dollarLength := Or.inl (ab_t7 (List.mem_of_getElem? (i := 213) rfl))
theorem ml_PW_265 : ab_ml R_PW 265 y_PW_dollarItem := Or.inl (ab_t7 (List.mem_of_getElem? (i := 217) rfl))
theorem ml_PW_269 : ab_ml R_PW 269 y_PR_groupNamed := Or.inl (ab_t7 (List.mem_of_getElem? (i := 221) rfl))
theorem ml_PR_103 : ab_ml R_PR 103 y_RW_at := Or.inl (ab_t7 (List.mem_of_getElem? (i := 225) rfl))
theorem ml_PW_218 : ab_ml R_PW 218 y_PW_addTemplate := Or.inl (ab_t7 (List.mem_of_getElem? (i := 227) rfl))
theorem ml_LA_89 : ab_ml R_LA 89 y_LA_split := Or.inl (ab_t7 (List.mem_of_getElem? (i := 232) rfl))
theorem ml_LA_26 : ab_ml R_LA 26 y_PW_split := Or.inl (ab_t7 (List.mem_of_getElem? (i := 235) rfl))
theorem ml_LA_109 : ab_ml R_LA 109 y_LA_keep := Or.inl (ab_t7 (List.mem_of_getElem? (i := 239) rfl))
theorem ml_LA_29 : ab_ml R_LA 29 y_PW_keep := Or.inl (ab_t8 (List.mem_of_getElem? (i := 2) rfl))
theorem ml_PW_237 : ab_ml R_PW 237 y_ST_holdAtMost := Or.inl (ab_t8 (List.mem_of_getElem? (i := 7) rfl))
theorem ml_LA_36 : ab_ml R_LA 36 y_MO_init := Or.inl (ab_t8 (List.mem_of_getElem? (i := 13) rfl))
theorem mj_MO_1 : Cond.methodLink R_MO 1 Lib.objectInit ∈ lw_tbl := ab_t8 (List.mem_of_getElem? (i := 16) rfl)
theorem ml_LA_41 : ab_ml R_LA 41 y_MO_feed := Or.inl (ab_t9 (List.mem_of_getElem? (i := 89) rfl))
theorem ml_LA_45 : ab_ml R_LA 45 y_MO_end := Or.inl (ab_t9 (List.mem_of_getElem? (i := 93) rfl))
theorem ml_LA_51 : ab_ml R_LA 51 y_MO_compile := Or.inl (ab_t9 (List.mem_of_getElem? (i := 97) rfl))
theorem ml_MO_501 : ab_ml R_MO 501 y_MO_read := Or.inl (ab_t9 (List.mem_of_getElem? (i := 101) rfl))
theorem ml_MO_392 : ab_ml R_MO 392 y_MO_openGroup := Or.inl (ab_t9 (List.mem_of_getElem? (i := 105) rfl))
theorem ml_MO_285 : ab_ml R_MO 285 y_MO_openRow := Or.inl (ab_t9 (List.mem_of_getElem? (i := 109) rfl))
theorem ml_MO_433 : ab_ml R_MO 433 y_MO_readPart := Or.inl (ab_t9 (List.mem_of_getElem? (i := 113) rfl))
theorem ml_MO_297 : ab_ml R_MO 297 y_MO_here := Or.inl (ab_t9 (List.mem_of_getElem? (i := 117) rfl))
theorem ml_MO_412 : ab_ml R_MO 412 y_MO_readEscape := Or.inl (ab_t9 (List.mem_of_getElem? (i := 121) rfl))
theorem ml_MO_344 : ab_ml R_MO 344 y_MO_escape := Or.inl (ab_t9 (List.mem_of_getElem? (i := 125) rfl))
theorem ml_MO_310 : ab_ml R_MO 310 y_MO_hexadecimal := Or.inl (ab_t9 (List.mem_of_getElem? (i := 129) rfl))
theorem ml_MO_300 : ab_ml R_MO 300 y_MO_hex := Or.inl (ab_t9 (List.mem_of_getElem? (i := 133) rfl))
theorem ml_MO_304 : ab_ml R_MO 304 y_MO_wrong := Or.inl (ab_t9 (List.mem_of_getElem? (i := 140) rfl))
theorem ml_MO_313 : ab_ml R_MO 313 y_MO_control := Or.inl (ab_t9 (List.mem_of_getElem? (i := 144) rfl))
theorem ml_MO_316 : ab_ml R_MO 316 y_MO_whichSet := Or.inl (ab_t9 (List.mem_of_getElem? (i := 147) rfl))
theorem ml_MO_323 : ab_ml R_MO 323 y_MO_whichLetter := Or.inl (ab_t9 (List.mem_of_getElem? (i := 150) rfl))
theorem ml_MO_326 : ab_ml R_MO 326 y_MO_isWord := Or.inl (ab_t9 (List.mem_of_getElem? (i := 153) rfl))
theorem ml_MO_378 : ab_ml R_MO 378 y_MO_readCharacter := Or.inl (ab_t9 (List.mem_of_getElem? (i := 156) rfl))
theorem ml_MO_362 : ab_ml R_MO 362 y_MO_begin := Or.inl (ab_t9 (List.mem_of_getElem? (i := 160) rfl))
theorem ml_MO_355 : ab_ml R_MO 355 y_MO_has := Or.inl (ab_t9 (List.mem_of_getElem? (i := 164) rfl))
theorem ml_MO_358 : ab_ml R_MO 358 y_MO_gatherLike := Or.inl (ab_t9 (List.mem_of_getElem? (i := 168) rfl))
theorem ml_MO_240 : ab_ml R_MO 240 y_MO_gather := Or.inl (ab_t9 (List.mem_of_getElem? (i := 172) rfl))
theorem ml_MO_244 : ab_ml R_MO 244 y_MO_image := Or.inl (ab_t9 (List.mem_of_getElem? (i := 176) rfl))
theorem ml_MO_368 : ab_ml R_MO 368 y_MO_close := Or.inl (ab_t9 (List.mem_of_getElem? (i := 179) rfl))
theorem ml_MO_255 : ab_ml R_MO 255 y_MO_gatherMarked := Or.inl (ab_t9 (List.mem_of_getElem? (i := 183) rfl))
theorem ml_MO_261 : ab_ml R_MO 261 y_MO_storeCut := Or.inl (ab_t9 (List.mem_of_getElem? (i := 187) rfl))
theorem ml_MO_252 : ab_ml R_MO 252 y_MO_store := Or.inl (ab_t9 (List.mem_of_getElem? (i := 192) rfl))
theorem ml_MO_371 : ab_ml R_MO 371 y_MO_setNode := Or.inl (ab_t9 (List.mem_of_getElem? (i := 196) rfl))
theorem ml_MO_269 : ab_ml R_MO 269 y_MO_node := Or.inl (ab_t9 (List.mem_of_getElem? (i := 200) rfl))
theorem ml_MO_375 : ab_ml R_MO 375 y_MO_part := Or.inl (ab_t9 (List.mem_of_getElem? (i := 204) rfl))
theorem ml_MO_337 : ab_ml R_MO 337 y_MO_gatherNamed := Or.inl (ab_t9 (List.mem_of_getElem? (i := 208) rfl))
theorem ml_MO_415 : ab_ml R_MO 415 y_MO_readClass := Or.inl (ab_t9 (List.mem_of_getElem? (i := 212) rfl))
theorem ml_MO_365 : ab_ml R_MO 365 y_MO_item := Or.inl (ab_t9 (List.mem_of_getElem? (i := 216) rfl))
theorem ml_MO_341 : ab_ml R_MO 341 y_MO_posix := Or.inl (ab_t9 (List.mem_of_getElem? (i := 220) rfl))
theorem ml_MO_333 : ab_ml R_MO 333 y_MO_spells := Or.inl (ab_t9 (List.mem_of_getElem? (i := 224) rfl))
theorem ml_MO_348 : ab_ml R_MO 348 y_MO_plain := Or.inl (ab_t9 (List.mem_of_getElem? (i := 227) rfl))
theorem ml_MO_330 : ab_ml R_MO 330 y_MO_character := Or.inl (ab_t9 (List.mem_of_getElem? (i := 231) rfl))
theorem ml_MO_229 : ab_ml R_MO 229 y_MO_byteOf := Or.inl (ab_t9 (List.mem_of_getElem? (i := 235) rfl))
theorem ml_MO_352 : ab_ml R_MO 352 y_MO_rangeEnd := Or.inl (ab_t9 (List.mem_of_getElem? (i := 239) rfl))
theorem ml_MO_418 : ab_ml R_MO 418 y_MO_readDot := Or.inl (ab_t10 (List.mem_of_getElem? (i := 3) rfl))
theorem ml_MO_421 : ab_ml R_MO 421 y_MO_readGroup := Or.inl (ab_t10 (List.mem_of_getElem? (i := 7) rfl))
theorem ml_MO_382 : ab_ml R_MO 382 y_MO_openNumbered := Or.inl (ab_t10 (List.mem_of_getElem? (i := 11) rfl))
theorem ml_MO_386 : ab_ml R_MO 386 y_MO_readName := Or.inl (ab_t10 (List.mem_of_getElem? (i := 15) rfl))
theorem ml_MO_389 : ab_ml R_MO 389 y_MO_flagOf := Or.inl (ab_t10 (List.mem_of_getElem? (i := 19) rfl))
theorem ml_MO_424 : ab_ml R_MO 424 y_MO_closeGroup := Or.inl (ab_t10 (List.mem_of_getElem? (i := 22) rfl))
theorem ml_MO_398 : ab_ml R_MO 398 y_MO_closeAll := Or.inl (ab_t10 (List.mem_of_getElem? (i := 26) rfl))
theorem ml_MO_292 : ab_ml R_MO 292 y_MO_closeRow := Or.inl (ab_t10 (List.mem_of_getElem? (i := 30) rfl))
theorem ml_MO_288 : ab_ml R_MO 288 y_MO_atMost := Or.inl (ab_t10 (List.mem_of_getElem? (i := 34) rfl))
theorem ml_MO_427 : ab_ml R_MO 427 y_MO_readRepeat := Or.inl (ab_t10 (List.mem_of_getElem? (i := 40) rfl))
theorem ml_MO_409 : ab_ml R_MO 409 y_MO_repeat := Or.inl (ab_t10 (List.mem_of_getElem? (i := 44) rfl))
theorem ml_MO_430 : ab_ml R_MO 430 y_MO_numbersEnd := Or.inl (ab_t10 (List.mem_of_getElem? (i := 48) rfl))
theorem ml_MO_454 : ab_ml R_MO 454 y_MO_row := Or.inl (ab_t10 (List.mem_of_getElem? (i := 53) rfl))
theorem ml_MO_441 : ab_ml R_MO 441 y_MO_addStep := Or.inl (ab_t10 (List.mem_of_getElem? (i := 57) rfl))
theorem ml_MO_464 : ab_ml R_MO 464 y_MO_open := Or.inl (ab_t10 (List.mem_of_getElem? (i := 61) rfl))
theorem ml_MO_504 : ab_ml R_MO 504 y_MO_go := Or.inl (ab_t10 (List.mem_of_getElem? (i := 65) rfl))
theorem ml_MO_461 : ab_ml R_MO 461 y_MO_done := Or.inl (ab_t10 (List.mem_of_getElem? (i := 69) rfl))
theorem ml_MO_483 : ab_ml R_MO 483 y_MO_takeStep := Or.inl (ab_t10 (List.mem_of_getElem? (i := 73) rfl))
theorem ml_MO_486 : ab_ml R_MO 486 y_MO_same := Or.inl (ab_t10 (List.mem_of_getElem? (i := 77) rfl))
theorem ml_MO_470 : ab_ml R_MO 470 y_MO_each := Or.inl (ab_t10 (List.mem_of_getElem? (i := 81) rfl))
theorem ml_MO_489 : ab_ml R_MO 489 y_MO_goRow := Or.inl (ab_t10 (List.mem_of_getElem? (i := 85) rfl))
theorem ml_MO_457 : ab_ml R_MO 457 y_MO_fromEnd := Or.inl (ab_t10 (List.mem_of_getElem? (i := 89) rfl))
theorem ml_MO_492 : ab_ml R_MO 492 y_MO_goEither := Or.inl (ab_t10 (List.mem_of_getElem? (i := 93) rfl))
theorem ml_MO_467 : ab_ml R_MO 467 y_MO_eachOf := Or.inl (ab_t10 (List.mem_of_getElem? (i := 97) rfl))
theorem ml_MO_495 : ab_ml R_MO 495 y_MO_goGroup := Or.inl (ab_t10 (List.mem_of_getElem? (i := 101) rfl))
theorem ml_MO_498 : ab_ml R_MO 498 y_MO_goRepeat := Or.inl (ab_t10 (List.mem_of_getElem? (i := 105) rfl))
theorem ml_MO_474 : ab_ml R_MO 474 y_MO_openRound := Or.inl (ab_t10 (List.mem_of_getElem? (i := 109) rfl))
theorem ml_MO_477 : ab_ml R_MO 477 y_MO_closeRound := Or.inl (ab_t10 (List.mem_of_getElem? (i := 113) rfl))
theorem ml_MO_480 : ab_ml R_MO 480 y_MO_split2 := Or.inl (ab_t10 (List.mem_of_getElem? (i := 117) rfl))
theorem ml_LA_55 : ab_ml R_LA 55 y_MO_fault := Or.inl (ab_t10 (List.mem_of_getElem? (i := 121) rfl))
theorem ml_LA_59 : ab_ml R_LA 59 y_MO_about := Or.inl (ab_t10 (List.mem_of_getElem? (i := 125) rfl))
theorem ml_MO_507 : ab_ml R_MO 507 y_MO_isThere := Or.inl (ab_t10 (List.mem_of_getElem? (i := 129) rfl))
theorem ml_LA_64 : ab_ml R_LA 64 y_MO_name := Or.inl (ab_t10 (List.mem_of_getElem? (i := 133) rfl))
theorem ml_LA_69 : ab_ml R_LA 69 y_MO_subject := Or.inl (ab_t10 (List.mem_of_getElem? (i := 137) rfl))
theorem ml_LA_73 : ab_ml R_LA 73 y_MO_match := Or.inl (ab_t10 (List.mem_of_getElem? (i := 141) rfl))
theorem ml_MO_559 : ab_ml R_MO 559 y_MO_note := Or.inl (ab_t10 (List.mem_of_getElem? (i := 145) rfl))
theorem ml_MO_522 : ab_ml R_MO 522 y_MO_look := Or.inl (ab_t10 (List.mem_of_getElem? (i := 149) rfl))
theorem ml_MO_525 : ab_ml R_MO 525 y_MO_taken := Or.inl (ab_t10 (List.mem_of_getElem? (i := 153) rfl))
theorem ml_MO_528 : ab_ml R_MO 528 y_MO_bit := Or.inl (ab_t10 (List.mem_of_getElem? (i := 157) rfl))
theorem ml_MO_532 : ab_ml R_MO 532 y_MO_holds := Or.inl (ab_t10 (List.mem_of_getElem? (i := 160) rfl))
theorem ml_MO_519 : ab_ml R_MO 519 y_MO_wordAt := Or.inl (ab_t10 (List.mem_of_getElem? (i := 164) rfl))
theorem ml_MO_536 : ab_ml R_MO 536 y_MO_mark := Or.inl (ab_t10 (List.mem_of_getElem? (i := 168) rfl))
theorem ml_MO_552 : ab_ml R_MO 552 y_MO_walk := Or.inl (ab_t10 (List.mem_of_getElem? (i := 171) rfl))
theorem ml_MO_543 : ab_ml R_MO 543 y_MO_undo := Or.inl (ab_t10 (List.mem_of_getElem? (i := 175) rfl))
theorem ml_MO_546 : ab_ml R_MO 546 y_MO_onward := Or.inl (ab_t10 (List.mem_of_getElem? (i := 179) rfl))
theorem ml_MO_549 : ab_ml R_MO 549 y_MO_lay := Or.inl (ab_t10 (List.mem_of_getElem? (i := 183) rfl))
theorem ml_MO_566 : ab_ml R_MO 566 y_MO_find := Or.inl (ab_t10 (List.mem_of_getElem? (i := 187) rfl))
theorem ml_MO_556 : ab_ml R_MO 556 y_MO_lastEnd := Or.inl (ab_t10 (List.mem_of_getElem? (i := 191) rfl))
theorem ml_LA_77 : ab_ml R_LA 77 y_MO_group := Or.inl (ab_t10 (List.mem_of_getElem? (i := 195) rfl))
theorem ml_LA_81 : ab_ml R_LA 81 y_MO_all := Or.inl (ab_t10 (List.mem_of_getElem? (i := 199) rfl))
theorem ml_MO_582 : ab_ml R_MO 582 y_MO_beginAll := Or.inl (ab_t10 (List.mem_of_getElem? (i := 203) rfl))
theorem ml_MO_585 : ab_ml R_MO 585 y_MO_nextMatch := Or.inl (ab_t10 (List.mem_of_getElem? (i := 207) rfl))
theorem ml_LA_85 : ab_ml R_LA 85 y_MO_found := Or.inl (ab_t10 (List.mem_of_getElem? (i := 211) rfl))
theorem ml_LA_91 : ab_ml R_LA 91 y_MO_split1 := Or.inl (ab_t10 (List.mem_of_getElem? (i := 215) rfl))
theorem ml_MO_591 : ab_ml R_MO 591 y_MO_addPiece := Or.inl (ab_t10 (List.mem_of_getElem? (i := 219) rfl))
theorem ml_LA_95 : ab_ml R_LA 95 y_MO_piece := Or.inl (ab_t10 (List.mem_of_getElem? (i := 223) rfl))
theorem ml_LA_88 : ab_ml R_LA 88 y_MO_replace := Or.inl (ab_t10 (List.mem_of_getElem? (i := 227) rfl))
theorem ml_MO_612 : ab_ml R_MO 612 y_MO_isTemplate := Or.inl (ab_t10 (List.mem_of_getElem? (i := 231) rfl))
theorem ml_MO_606 : ab_ml R_MO 606 y_MO_groupAt := Or.inl (ab_t10 (List.mem_of_getElem? (i := 235) rfl))
theorem ml_MO_609 : ab_ml R_MO 609 y_MO_writeSubject := Or.inl (ab_t10 (List.mem_of_getElem? (i := 239) rfl))
theorem ml_MO_600 : ab_ml R_MO 600 y_MO_write := Or.inl (ab_t11 (List.mem_of_getElem? (i := 3) rfl))
theorem ml_MO_615 : ab_ml R_MO 615 y_MO_writeTemplate := Or.inl (ab_t11 (List.mem_of_getElem? (i := 7) rfl))
theorem ml_LA_100 : ab_ml R_LA 100 y_MO_which := Or.inl (ab_t11 (List.mem_of_getElem? (i := 11) rfl))
theorem ml_LA_104 : ab_ml R_LA 104 y_MO_quote := Or.inl (ab_t11 (List.mem_of_getElem? (i := 15) rfl))
theorem ml_LA_108 : ab_ml R_LA 108 y_MO_output := Or.inl (ab_t11 (List.mem_of_getElem? (i := 19) rfl))
theorem ml_LA_112 : ab_ml R_LA 112 y_MO_keep := Or.inl (ab_t11 (List.mem_of_getElem? (i := 23) rfl))
theorem ml_LA_116 : ab_ml R_LA 116 y_MO_over := Or.inl (ab_t11 (List.mem_of_getElem? (i := 27) rfl))
theorem mm_max_st : Cond.static Lib.Math.max.name ∈ lw_tbl := ab_t3 (List.mem_of_getElem? (i := 97) rfl)
theorem mm_max_cd : Cond.code Lib.Math.max.name Lib.Math.max.code 2 (some .int) ∈ lw_tbl := ab_t3 (List.mem_of_getElem? (i := 98) rfl)
theorem mm_min_st : Cond.static Lib.Math.min.name ∈ lw_tbl := ab_t3 (List.mem_of_getElem? (i := 100) rfl)
theorem mm_min_cd : Cond.code Lib.Math.min.name Lib.Math.min.code 2 (some .int) ∈ lw_tbl := ab_t3 (List.mem_of_getElem? (i := 101) rfl)
theorem ini_MA : Cond.initialized "java/lang/Math" ∈ lw_tbl := ab_t1 (List.mem_of_getElem? (i := 14) rfl)
theorem ini_SY : Cond.initialized "java/lang/System" ∈ lw_tbl := ab_t1 (List.mem_of_getElem? (i := 15) rfl)
theorem cp_nat : Cond.native arraycopyName ∈ lw_tbl := ab_t3 (List.mem_of_getElem? (i := 115) rfl)
theorem cp_st : Cond.static arraycopyName ∈ lw_tbl := ab_t3 (List.mem_of_getElem? (i := 114) rfl)
