/-! STRING CONSTANTS that are read: length() and charAt(i) (by program: wip/prog/str.py) -/
def y_SR_length : MethodName := ⟨"java/lang/String", "length", "()I"⟩
abbrev b_SR_length : ByteArray := prog_22_method_54_code
theorem m_SR_length : ab_mt y_SR_length b_SR_length 1 (some (.int)) 0 := ⟨by decide, ab_t4 (List.mem_of_getElem? (i := 138) rfl), ab_t1 (List.mem_of_getElem? (i := 20) rfl), ⟨by decide +kernel, by decide +kernel⟩, by decide +kernel⟩
theorem im_SR_length : Cond.instanceMethod y_SR_length ∈ lw_tbl := ab_t4 (List.mem_of_getElem? (i := 136) rfl)
theorem se_SR_length : Cond.selects "java/lang/String" y_SR_length y_SR_length ∈ lw_tbl := ab_t4 (List.mem_of_getElem? (i := 137) rfl)
def y_SR_coder : MethodName := ⟨"java/lang/String", "coder", "()B"⟩
abbrev b_SR_coder : ByteArray := prog_22_method_152_code
theorem m_SR_coder : ab_mt y_SR_coder b_SR_coder 1 (some (.byte)) 0 := ⟨by decide, ab_t4 (List.mem_of_getElem? (i := 142) rfl), ab_t1 (List.mem_of_getElem? (i := 20) rfl), ⟨by decide +kernel, by decide +kernel⟩, by decide +kernel⟩
theorem im_SR_coder : Cond.instanceMethod y_SR_coder ∈ lw_tbl := ab_t4 (List.mem_of_getElem? (i := 140) rfl)
theorem se_SR_coder : Cond.selects "java/lang/String" y_SR_coder y_SR_coder ∈ lw_tbl := ab_t4 (List.mem_of_getElem? (i := 141) rfl)
def y_SR_charAt : MethodName := ⟨"java/lang/String", "charAt", "(I)C"⟩
abbrev b_SR_charAt : ByteArray := prog_22_method_56_code
theorem m_SR_charAt : ab_mt y_SR_charAt b_SR_charAt 2 (some (.char)) 1 := ⟨by decide, ab_t6 (List.mem_of_getElem? (i := 164) rfl), ab_t1 (List.mem_of_getElem? (i := 20) rfl), ⟨by decide +kernel, by decide +kernel⟩, by decide +kernel⟩
theorem im_SR_charAt : Cond.instanceMethod y_SR_charAt ∈ lw_tbl := ab_t6 (List.mem_of_getElem? (i := 162) rfl)
theorem se_SR_charAt : Cond.selects "java/lang/String" y_SR_charAt y_SR_charAt ∈ lw_tbl := ab_t6 (List.mem_of_getElem? (i := 163) rfl)
def y_SR_isLatin1 : MethodName := ⟨"java/lang/String", "isLatin1", "()Z"⟩
abbrev b_SR_isLatin1 : ByteArray := prog_22_method_154_code
theorem m_SR_isLatin1 : ab_mt y_SR_isLatin1 b_SR_isLatin1 1 (some (.boolean)) 0 := ⟨by decide, ab_t6 (List.mem_of_getElem? (i := 168) rfl), ab_t1 (List.mem_of_getElem? (i := 20) rfl), ⟨by decide +kernel, by decide +kernel⟩, by decide +kernel⟩
theorem im_SR_isLatin1 : Cond.instanceMethod y_SR_isLatin1 ∈ lw_tbl := ab_t6 (List.mem_of_getElem? (i := 166) rfl)
theorem se_SR_isLatin1 : Cond.selects "java/lang/String" y_SR_isLatin1 y_SR_isLatin1 ∈ lw_tbl := ab_t6 (List.mem_of_getElem? (i := 167) rfl)
def y_SL_charAt : MethodName := ⟨"java/lang/StringLatin1", "charAt", "([BI)C"⟩
abbrev b_SL_charAt : ByteArray := prog_24_method_2_code
theorem m_SL_charAt : ab_mt y_SL_charAt b_SL_charAt 2 (some (.char)) 2 := ⟨by decide, ab_t6 (List.mem_of_getElem? (i := 171) rfl), ab_t1 (List.mem_of_getElem? (i := 21) rfl), ⟨by decide +kernel, by decide +kernel⟩, by decide +kernel⟩
theorem st_SL_charAt : Cond.static y_SL_charAt ∈ lw_tbl := ab_t6 (List.mem_of_getElem? (i := 170) rfl)
def y_SR_checkIndex : MethodName := ⟨"java/lang/String", "checkIndex", "(II)V"⟩
abbrev b_SR_checkIndex : ByteArray := prog_22_method_155_code
theorem m_SR_checkIndex : ab_mt y_SR_checkIndex b_SR_checkIndex 2 none 2 := ⟨by decide, ab_t6 (List.mem_of_getElem? (i := 174) rfl), ab_t1 (List.mem_of_getElem? (i := 20) rfl), ⟨by decide +kernel, by decide +kernel⟩, by decide +kernel⟩
theorem st_SR_checkIndex : Cond.static y_SR_checkIndex ∈ lw_tbl := ab_t6 (List.mem_of_getElem? (i := 173) rfl)
def y_PC_checkIndex : MethodName := ⟨"jdk/internal/util/Preconditions", "checkIndex", "(IILjava/util/function/BiFunction;)I"⟩
abbrev b_PC_checkIndex : ByteArray := prog_30_method_11_code
theorem m_PC_checkIndex : ab_mt y_PC_checkIndex b_PC_checkIndex 3 (some (.int)) 3 := ⟨by decide, ab_t6 (List.mem_of_getElem? (i := 177) rfl), ab_t1 (List.mem_of_getElem? (i := 22) rfl), ⟨by decide +kernel, by decide +kernel⟩, by decide +kernel⟩
theorem st_PC_checkIndex : Cond.static y_PC_checkIndex ∈ lw_tbl := ab_t6 (List.mem_of_getElem? (i := 176) rfl)
theorem ml_TX_177 : Cond.methodLink "PatternWorks$Text" 177 y_SR_length ∈ lw_tbl := ab_t6 (List.mem_of_getElem? (i := 160) rfl)
theorem ml_TX_181 : Cond.methodLink "PatternWorks$Text" 181 y_SR_charAt ∈ lw_tbl := ab_t6 (List.mem_of_getElem? (i := 161) rfl)
theorem ml_SR_335 : Cond.methodLink "java/lang/String" 335 y_SR_coder ∈ lw_tbl := ab_t4 (List.mem_of_getElem? (i := 139) rfl)
theorem ml_SR_492 : Cond.methodLink "java/lang/String" 492 y_SR_isLatin1 ∈ lw_tbl := ab_t6 (List.mem_of_getElem? (i := 165) rfl)
theorem ml_SR_495 : ab_ml "java/lang/String" 495 y_SL_charAt := Or.inl (ab_t6 (List.mem_of_getElem? (i := 169) rfl))
theorem ml_SL_9 : ab_ml "java/lang/StringLatin1" 9 y_SR_checkIndex := Or.inl (ab_t6 (List.mem_of_getElem? (i := 172) rfl))
theorem ml_SR_1059 : ab_ml "java/lang/String" 1059 y_PC_checkIndex := Or.inl (ab_t6 (List.mem_of_getElem? (i := 175) rfl))
theorem f_SR_9 : Cond.fieldLink "java/lang/String" 9 "java/lang/String" "value" "[B" ∈ lw_tbl := ab_t5 (List.mem_of_getElem? (i := 40) rfl)
theorem f_SR_15 : Cond.fieldLink "java/lang/String" 15 "java/lang/String" "coder" "B" ∈ lw_tbl := ab_t5 (List.mem_of_getElem? (i := 41) rfl)
theorem s_SR_38 : Cond.fieldLink "java/lang/String" 38 "java/lang/String" "COMPACT_STRINGS" "Z" ∈ lw_tbl := ab_t4 (List.mem_of_getElem? (i := 143) rfl)
theorem s_SR_1053 : Cond.fieldLink "java/lang/String" 1053 "jdk/internal/util/Preconditions" "SIOOBE_FORMATTER" "Ljava/util/function/BiFunction;" ∈ lw_tbl := ab_t4 (List.mem_of_getElem? (i := 121) rfl)
theorem d_SR_length_0 : decode b_SR_length 0 = .ok (.aload_n 0, 1) := by decide +kernel
theorem d_SR_length_1 : decode b_SR_length 1 = .ok (.getfield 9, 3) := by decide +kernel
theorem d_SR_length_4 : decode b_SR_length 4 = .ok (.arraylength, 1) := by decide +kernel
theorem d_SR_length_5 : decode b_SR_length 5 = .ok (.aload_n 0, 1) := by decide +kernel
theorem d_SR_length_6 : decode b_SR_length 6 = .ok (.invokevirtual 335, 3) := by decide +kernel
theorem d_SR_length_9 : decode b_SR_length 9 = .ok (.ishr, 1) := by decide +kernel
theorem d_SR_length_10 : decode b_SR_length 10 = .ok (.ireturn, 1) := by decide +kernel
theorem d_SR_coder_0 : decode b_SR_coder 0 = .ok (.getstatic 38, 3) := by decide +kernel
theorem d_SR_coder_3 : decode b_SR_coder 3 = .ok (.ifCond .eq 10, 3) := by decide +kernel
theorem d_SR_coder_6 : decode b_SR_coder 6 = .ok (.aload_n 0, 1) := by decide +kernel
theorem d_SR_coder_7 : decode b_SR_coder 7 = .ok (.getfield 15, 3) := by decide +kernel
theorem d_SR_coder_10 : decode b_SR_coder 10 = .ok (.goto 4, 3) := by decide +kernel
theorem d_SR_coder_14 : decode b_SR_coder 14 = .ok (.ireturn, 1) := by decide +kernel
theorem d_SR_charAt_0 : decode b_SR_charAt 0 = .ok (.aload_n 0, 1) := by decide +kernel
theorem d_SR_charAt_1 : decode b_SR_charAt 1 = .ok (.invokevirtual 492, 3) := by decide +kernel
theorem d_SR_charAt_4 : decode b_SR_charAt 4 = .ok (.ifCond .eq 12, 3) := by decide +kernel
theorem d_SR_charAt_7 : decode b_SR_charAt 7 = .ok (.aload_n 0, 1) := by decide +kernel
theorem d_SR_charAt_8 : decode b_SR_charAt 8 = .ok (.getfield 9, 3) := by decide +kernel
theorem d_SR_charAt_11 : decode b_SR_charAt 11 = .ok (.iload_n 1, 1) := by decide +kernel
theorem d_SR_charAt_12 : decode b_SR_charAt 12 = .ok (.invokestatic 495, 3) := by decide +kernel
theorem d_SR_charAt_15 : decode b_SR_charAt 15 = .ok (.ireturn, 1) := by decide +kernel
theorem d_SR_isLatin1_0 : decode b_SR_isLatin1 0 = .ok (.getstatic 38, 3) := by decide +kernel
theorem d_SR_isLatin1_3 : decode b_SR_isLatin1 3 = .ok (.ifCond .eq 14, 3) := by decide +kernel
theorem d_SR_isLatin1_6 : decode b_SR_isLatin1 6 = .ok (.aload_n 0, 1) := by decide +kernel
theorem d_SR_isLatin1_7 : decode b_SR_isLatin1 7 = .ok (.getfield 15, 3) := by decide +kernel
theorem d_SR_isLatin1_10 : decode b_SR_isLatin1 10 = .ok (.ifCond .ne 7, 3) := by decide +kernel
theorem d_SR_isLatin1_13 : decode b_SR_isLatin1 13 = .ok (.iconst 1, 1) := by decide +kernel
theorem d_SR_isLatin1_14 : decode b_SR_isLatin1 14 = .ok (.goto 4, 3) := by decide +kernel
theorem d_SR_isLatin1_18 : decode b_SR_isLatin1 18 = .ok (.ireturn, 1) := by decide +kernel
theorem d_SL_charAt_0 : decode b_SL_charAt 0 = .ok (.iload_n 1, 1) := by decide +kernel
theorem d_SL_charAt_1 : decode b_SL_charAt 1 = .ok (.aload_n 0, 1) := by decide +kernel
theorem d_SL_charAt_2 : decode b_SL_charAt 2 = .ok (.arraylength, 1) := by decide +kernel
theorem d_SL_charAt_3 : decode b_SL_charAt 3 = .ok (.invokestatic 9, 3) := by decide +kernel
theorem d_SL_charAt_6 : decode b_SL_charAt 6 = .ok (.aload_n 0, 1) := by decide +kernel
theorem d_SL_charAt_7 : decode b_SL_charAt 7 = .ok (.iload_n 1, 1) := by decide +kernel
theorem d_SL_charAt_8 : decode b_SL_charAt 8 = .ok (.baload, 1) := by decide +kernel
theorem d_SL_charAt_9 : decode b_SL_charAt 9 = .ok (.sipush 255, 3) := by decide +kernel
theorem d_SL_charAt_12 : decode b_SL_charAt 12 = .ok (.iand, 1) := by decide +kernel
theorem d_SL_charAt_13 : decode b_SL_charAt 13 = .ok (.i2c, 1) := by decide +kernel
theorem d_SL_charAt_14 : decode b_SL_charAt 14 = .ok (.ireturn, 1) := by decide +kernel
theorem d_SR_checkIndex_0 : decode b_SR_checkIndex 0 = .ok (.iload_n 0, 1) := by decide +kernel
theorem d_SR_checkIndex_1 : decode b_SR_checkIndex 1 = .ok (.iload_n 1, 1) := by decide +kernel
theorem d_SR_checkIndex_2 : decode b_SR_checkIndex 2 = .ok (.getstatic 1053, 3) := by decide +kernel
theorem d_SR_checkIndex_5 : decode b_SR_checkIndex 5 = .ok (.invokestatic 1059, 3) := by decide +kernel
theorem d_SR_checkIndex_8 : decode b_SR_checkIndex 8 = .ok (.pop, 1) := by decide +kernel
theorem d_SR_checkIndex_9 : decode b_SR_checkIndex 9 = .ok (.return_, 1) := by decide +kernel
theorem d_PC_checkIndex_0 : decode b_PC_checkIndex 0 = .ok (.iload_n 0, 1) := by decide +kernel
theorem d_PC_checkIndex_1 : decode b_PC_checkIndex 1 = .ok (.ifCond .lt 8, 3) := by decide +kernel
theorem d_PC_checkIndex_4 : decode b_PC_checkIndex 4 = .ok (.iload_n 0, 1) := by decide +kernel
theorem d_PC_checkIndex_5 : decode b_PC_checkIndex 5 = .ok (.iload_n 1, 1) := by decide +kernel
theorem d_PC_checkIndex_6 : decode b_PC_checkIndex 6 = .ok (.if_icmp .lt 10, 3) := by decide +kernel
theorem d_PC_checkIndex_16 : decode b_PC_checkIndex 16 = .ok (.iload_n 0, 1) := by decide +kernel
theorem d_PC_checkIndex_17 : decode b_PC_checkIndex 17 = .ok (.ireturn, 1) := by decide +kernel
section AbStr
variable {X : ab_X} {M : ab_Y} {d d' : Nat} {G : ab_G} {pc : Nat} {L : List (Option Value)} {st : List Value} {Q Q' : Outcome → ab_G → Prop} {idx j : Nat} {y : MethodName} {bytes : ByteArray} {maxL : Nat} {ret : Option FieldType} {as stk : List Value}
theorem ab_ldcS {k : Nat} {tx : String} (hq : ab_str[j]? = some (M.1, k, tx)) (hd : decode M.2.2.1 pc = .ok (.ldc k, 2)) (kk : ab_W X M d G (pc + 2) L (.ref (ab_big + j) :: st) Q) : ab_W X M d G pc L st Q := by
  intro p e R s m args below meth c H ls locs cells slots c0 s0 Z hC hH hL hS h1 h2 hZ
  have hj : j < 6 := (List.getElem?_eq_some_iff.mp hq).1
  obtain ⟨⟨q, q1, q2⟩, -⟩ := hC.2.1.2.2.2.2.2.2.2.1 j hj
  rw [hq] at q1
  cases q1
  exact va_ldcS hC.1.1 hC.1.2.1 hC.1.2.2.2.1 q2 hd (kk p e R s m args below meth c H ls locs cells slots c0 s0 Z hC hH hL hS h1 h2 hZ)
theorem ab_sval (hj : j < 6) (hl : Cond.fieldLink M.1 idx "java/lang/String" "value" "[B" ∈ lw_tbl) (hd : decode M.2.2.1 pc = .ok (.getfield idx, 3)) (kk : ab_W X M d G (pc + 3) L (.ref (ab_big + 6 + j) :: st) Q) : ab_W X M d G pc L (.ref (ab_big + j) :: st) Q := by
  intro p e R s m args below meth c H ls locs cells slots c0 s0 Z hC hH hL hS h1 h2 hZ
  obtain ⟨-, -, -, h5, -⟩ := hC.2.1.2.2.2.2.2.2.2.1 j hj
  exact vk_getf hC.1.1 hC.1.2.1 h5 hS hC.1.2.2.2.1 (hC.2.1.1 _ hl rfl _) (fun _ h => h) hd (kk p e R s m args below meth c H ls locs cells slots c0 s0 Z hC hH hL hS h1 h2 hZ)
theorem ab_scod (hj : j < 6) (hl : Cond.fieldLink M.1 idx "java/lang/String" "coder" "B" ∈ lw_tbl) (hd : decode M.2.2.1 pc = .ok (.getfield idx, 3)) (kk : ab_W X M d G (pc + 3) L (.int 0 :: st) Q) : ab_W X M d G pc L (.ref (ab_big + j) :: st) Q := by
  intro p e R s m args below meth c H ls locs cells slots c0 s0 Z hC hH hL hS h1 h2 hZ
  obtain ⟨-, -, h4, -, -⟩ := hC.2.1.2.2.2.2.2.2.2.1 j hj
  exact vk_getf hC.1.1 hC.1.2.1 h4 hS hC.1.2.2.2.1 (hC.2.1.1 _ hl rfl _) (fun _ h => h) hd (kk p e R s m args below meth c H ls locs cells slots c0 s0 Z hC hH hL hS h1 h2 hZ)
theorem ab_salen (hj : j < 6) (hd : decode M.2.2.1 pc = .ok (.arraylength, 1)) (kk : ab_W X M d G (pc + 1) L (.int 7 :: st) Q) : ab_W X M d G pc L (.ref (ab_big + 6 + j) :: st) Q := by
  intro p e R s m args below meth c H ls locs cells slots c0 s0 Z hC hH hL hS h1 h2 hZ
  obtain ⟨-, -, -, -, h6⟩ := hC.2.1.2.2.2.2.2.2.2.1 j hj
  exact va_tlen hC.1.1 hC.1.2.1 h6 hS (v := 7) rfl hd (kk p e R s m args below meth c H ls locs cells slots c0 s0 Z hC hH hL hS h1 h2 hZ)
theorem ab_sbal {i : Int32} (hj : j < 6) (hi : vp_in i 7) (hd : decode M.2.2.1 pc = .ok (.baload, 1)) (kk : ab_W X M d G (pc + 1) L (.int ((ab_sby.getD j []).getD i.toNatClampNeg 0) :: st) Q) : ab_W X M d G pc L (.int i :: .ref (ab_big + 6 + j) :: st) Q := by
  intro p e R s m args below meth c H ls locs cells slots c0 s0 Z hC hH hL hS h1 h2 hZ
  obtain ⟨-, -, -, -, h6⟩ := hC.2.1.2.2.2.2.2.2.2.1 j hj
  exact va_tb hC.1.1 hC.1.2.1 h6 hS hi (v := .int ((ab_sby.getD j []).getD i.toNatClampNeg 0)) rfl hd (kk p e R s m args below meth c H ls locs cells slots c0 s0 Z hC hH hL hS h1 h2 hZ)
theorem ab_gcs (hl : Cond.fieldLink M.1 idx "java/lang/String" "COMPACT_STRINGS" "Z" ∈ lw_tbl) (hd : decode M.2.2.1 pc = .ok (.getstatic idx, 3)) (kk : ab_W X M d G (pc + 3) L (.int 1 :: st) Q) : ab_W X M d G pc L st Q := by
  intro p e R s m args below meth c H ls locs cells slots c0 s0 Z hC hH hL hS h1 h2 hZ
  exact va_gets hC.1.1 hC.1.2.1 hC.2.1.2.2.2.2.2.2.2.2.1 hS hC.1.2.2.2.1 (hC.2.1.1 _ hl rfl _) (fun _ h => h) hd (kk p e R s m args below meth c H ls locs cells slots c0 s0 Z hC hH hL hS h1 h2 hZ)
theorem ab_gfo (hl : Cond.fieldLink M.1 idx "jdk/internal/util/Preconditions" "SIOOBE_FORMATTER" "Ljava/util/function/BiFunction;" ∈ lw_tbl) (hd : decode M.2.2.1 pc = .ok (.getstatic idx, 3)) (kk : ∀ v : Value, v = .null ∨ v = .ref (ab_big + 12) → ab_W X M d G (pc + 3) L (v :: st) Q) : ab_W X M d G pc L st Q := by
  intro p e R s m args below meth c H ls locs cells slots c0 s0 Z hC hH hL hS h1 h2 hZ
  rcases hC.2.1.2.2.2.2.2.2.2.2.2 with h | h
  · exact va_gets hC.1.1 hC.1.2.1 h hS hC.1.2.2.2.1 (hC.2.1.1 _ hl rfl _) (fun _ h => h) hd (kk .null (Or.inl rfl) p e R s m args below meth c H ls locs cells slots c0 s0 Z hC hH hL hS h1 h2 hZ)
  · exact va_gets hC.1.1 hC.1.2.1 h hS hC.1.2.2.2.1 (hC.2.1.1 _ hl rfl _) (fun _ h => h) hd (kk (.ref (ab_big + 12)) (Or.inr rfl) p e R s m args below meth c H ls locs cells slots c0 s0 Z hC hH hL hS h1 h2 hZ)
theorem ab_i2c {x v : Int32} (hv : (x.toUInt32 % 65536).toInt32 = v) (hd : decode M.2.2.1 pc = .ok (.i2c, 1)) (kk : ab_W X M d G (pc + 1) L (.int v :: st) Q) : ab_W X M d G pc L (.int x :: st) Q :=
  fun p e R s m args below meth c H ls locs cells slots c0 s0 Z hC hH hL hS h1 h2 hZ => lv_i2c hC.1.1 hC.1.2.1 hd hv (kk p e R s m args below meth c H ls locs cells slots c0 s0 Z hC hH hL hS h1 h2 hZ)
theorem ab_callVS (hj : j < 6) (hF : ab_F X d' y (.code y bytes maxL ret) (.ref (ab_big + j) :: as) G Q') (hnt : ∀ o G', Q' o G' → ∃ v, o = .returned v) (hdd : d' + 1 ≤ d) (hm : ab_mt y bytes maxL ret as.length) (hl : Cond.methodLink M.1 idx y ∈ lw_tbl) (hin : Cond.instanceMethod y ∈ lw_tbl) (hse : Cond.selects "java/lang/String" y y ∈ lw_tbl) (hwt : (st.map fun v => v.category).sum ≤ 8) (hd : decode M.2.2.1 pc = .ok (.invokevirtual idx, 3)) (hstk : stk = as.reverse ++ .ref (ab_big + j) :: st)
    (kk : ∀ v G', Q' (.returned v) G' → ab_W X M d G' (pc + 3) L (v.toList ++ st) Q) : ab_W X M d G pc L stk Q := by
  intro p e R s m args below meth c H ls locs cells slots c0 s0 Z hC hH hL hS h1 h2 hZ
  have hK := ab_back (e := e) (args := args) (below := below) (n := as.length) hF hnt hC hdd hm hH.2.2.2.1 hH.2.2.2.2
  intro T hT Xs
  have hT0 := hC.2.1.1
  obtain ⟨-, ho, -, -, -⟩ := hC.2.1.2.2.2.2.2.2.2.1 j hj
  obtain ⟨cellB, hcB, hoB, hclB, -⟩ := ho.kept hS.2.1
  have hpre : ∀ vm₁, s.WarmedH vm₁ → ab_Pre X s (.ref (ab_big + j) :: as) G c0 s0 ⟨T.setVm vm₁, locs, cells, slots⟩ (Value.ref (X.2.2.2.1 (ab_big + j)) :: as.map (ab_v X.2.2.2.1)).toArray := fun vm₁ hW₁ => ⟨rfl, by show ab_H X s G T.heap; rw [hT]; exact hH, h1, h2, by show s.heap.size ≤ T.heap.size; rw [hT]; exact hS.1, fun q hq hA => by show T.heap[q]? = _; rw [hT]; exact hS.2.1 q hq hA⟩
  have hstack : (F0 m pc ls (stk.map (ab_v X.2.2.2.1))).stack = (as.map (ab_v X.2.2.2.1)).reverse ++ .ref (X.2.2.2.1 (ab_big + j)) :: st.map (ab_v X.2.2.2.1) := by show stk.map _ = _; rw [hstk, List.map_append, List.map_reverse]; rfl
  have hw8 : 2 * (F0 m pc ls (stk.map (ab_v X.2.2.2.1))).monitorRoom + ((st.map (ab_v X.2.2.2.1)).map fun v => v.category).sum ≤ 8 := lv_room (by rw [ab_cats]; exact hwt)
  have hsz : (F0 m pc ls (stk.map (ab_v X.2.2.2.1))).locals.size = c.maxLocals := hL.1.trans hC.1.2.2.1.symm
  have hdg : decode c.code (F0 m pc ls (stk.map (ab_v X.2.2.2.1))).pc = .ok (.invokevirtual idx, 3) := by rw [hC.1.2.1]; exact hd
  have hlen : ∀ sig, parseMethodDescriptor y.desc = some sig → (as.map (ab_v X.2.2.2.1)).length = sig.parameters.length := fun sig h => by rw [List.length_map]; exact hm.len sig h
  have hres : ∃ (v : Option Value) (vm₁ : Vm) (B : Pt), s.WarmedH vm₁ ∧ Stand p X.1 e R s m args below meth c B.U B.locs B.cells B.slots ∧ ab_Post X s Q' c0 s0 ⟨T.setVm vm₁, locs, cells, slots⟩ (Value.ref (X.2.2.2.1 (ab_big + j)) :: as.map (ab_v X.2.2.2.1)).toArray v B ∧
      ∀ target, Steps p.tables e below (B.U.setTop { F0 m pc ls (stk.map (ab_v X.2.2.2.1)) with pc := pc + 3, stack := v.toList ++ st.map (ab_v X.2.2.2.1) }) target → Steps p.tables e below (T.setTop (F0 m pc ls (stk.map (ab_v X.2.2.2.1)))) target :=
    callV Xs hC.1.1 (C := "java/lang/String") (bytes := bytes) (maxL := maxL) (ret := ret) hC.1.2.2.2.1 (hT0 _ hl rfl _) (hT0 _ hin rfl _) (hT0 _ hse rfl _) (hT0 _ hm.2.1 rfl _) hm.2.2.2.1 hK (by rw [hT]; exact hcB) hoB hclB rfl hsz hlen hstack hw8 hdg hpre
  obtain ⟨v, vm₁, ⟨U', l2, c2, s2⟩, hW₁, X', ⟨v', G', L', hq, hv, hH', hS', hl2, hc2, hs2⟩, stp⟩ := hres
  dsimp only [Pt.U, Pt.locs, Pt.cells, Pt.slots] at X' hH' hS' hl2 hc2 hs2 stp
  subst hl2
  have hS1 : va_S (fun q => X.2.2.2.2 ≤ q) s.heap U'.heap (locs ++ L') := ab_S_trans hS (by have h := hS'; rw [show (T.setVm vm₁).heap = H from hT] at h; exact h)
  obtain ⟨t, a1, b1⟩ := kk v' G' hq p e R s m args below meth c U'.heap ls (locs ++ L') c2 s2 c0 s0 Z hC hH' hL hS1 hc2 hs2 hZ U' rfl X'
  refine ⟨t, stp t ?_, b1⟩
  rw [hv, ab_stk]
  exact a1
end AbStr
section AbStrM
variable {X : ab_X} {G : ab_G} {d j : Nat}
theorem s_coder (hj : j < 6) : ab_F X d y_SR_coder (.code y_SR_coder b_SR_coder 1 (some (.byte))) [.ref (ab_big + j)] G (fun oc G2 => oc = .returned (some (.int 0)) ∧ G2 = G) := by
  refine ab_F_of (by decide +kernel) (Nat.le_refl _) ?_
  refine ab_gcs s_SR_38 d_SR_coder_0 ?_
  refine ab_if_eq d_SR_coder_3 rfl (fun h => absurd h (by decide)) (fun _ => ?_)
  refine ab_aload_n d_SR_coder_6 rfl ?_
  refine ab_scod hj f_SR_15 d_SR_coder_7 ?_
  refine ab_goto d_SR_coder_10 (tgt := 14) rfl ?_
  exact ab_iret rfl rfl d_SR_coder_14 ⟨rfl, rfl⟩
theorem s_isLatin1 (hj : j < 6) : ab_F X d y_SR_isLatin1 (.code y_SR_isLatin1 b_SR_isLatin1 1 (some (.boolean))) [.ref (ab_big + j)] G (fun oc G2 => oc = .returned (some (.int 1)) ∧ G2 = G) := by
  refine ab_F_of (by decide +kernel) (Nat.le_refl _) ?_
  refine ab_gcs s_SR_38 d_SR_isLatin1_0 ?_
  refine ab_if_eq d_SR_isLatin1_3 rfl (fun h => absurd h (by decide)) (fun _ => ?_)
  refine ab_aload_n d_SR_isLatin1_6 rfl ?_
  refine ab_scod hj f_SR_15 d_SR_isLatin1_7 ?_
  refine ab_if_ne d_SR_isLatin1_10 rfl (fun h => absurd rfl h) (fun _ => ?_)
  refine ab_iconst d_SR_isLatin1_13 rfl ?_
  refine ab_goto d_SR_isLatin1_14 (tgt := 18) rfl ?_
  exact ab_iret rfl rfl d_SR_isLatin1_18 ⟨rfl, rfl⟩
theorem s_length (hj : j < 6) (hd : 1 ≤ d) : ab_F X d y_SR_length (.code y_SR_length b_SR_length 1 (some (.int))) [.ref (ab_big + j)] G (fun oc G2 => oc = .returned (some (.int 7)) ∧ G2 = G) := by
  refine ab_F_of (by decide +kernel) (Nat.le_refl _) ?_
  refine ab_aload_n d_SR_length_0 rfl ?_
  refine ab_sval hj f_SR_9 d_SR_length_1 ?_
  refine ab_salen hj d_SR_length_4 ?_
  refine ab_aload_n d_SR_length_5 rfl ?_
  refine ab_callVS (d' := d - 1) (as := []) (st := [.int 7]) hj (s_coder hj) (fun oc G2 h => ⟨_, h.1⟩) (by omega) m_SR_coder ml_SR_335 im_SR_coder se_SR_coder (by decide) d_SR_length_6 rfl ?_
  intro v G2 h
  obtain ⟨h1, rfl⟩ := h
  cases h1
  refine ab_ishr d_SR_length_9 ?_
  exact ab_iret rfl rfl d_SR_length_10 ⟨rfl, rfl⟩
theorem s_pcheck {i n : Int32} {v : Value} (h0 : ¬ i < 0) (h1 : i < n) (hv : v = .null ∨ v = .ref (ab_big + 12)) : ab_F X d y_PC_checkIndex (.code y_PC_checkIndex b_PC_checkIndex 3 (some (.int))) [.int i, .int n, v] G (fun oc G2 => oc = .returned (some (.int i)) ∧ G2 = G) := by
  have key : ∀ z : Option Value, ab_W X (ab_pl y_PC_checkIndex b_PC_checkIndex 3 (some .int)) d G 0 [some (.int i), some (.int n), z] [] (fun oc G2 => oc = .returned (some (.int i)) ∧ G2 = G) := by
    intro z
    refine ab_iload_n d_PC_checkIndex_0 rfl ?_
    refine ab_if_lt d_PC_checkIndex_1 rfl (fun h => absurd h h0) (fun _ => ?_)
    refine ab_iload_n d_PC_checkIndex_4 rfl ?_
    refine ab_iload_n d_PC_checkIndex_5 rfl ?_
    refine ab_icmp_lt d_PC_checkIndex_6 (tgt := 16) rfl (fun _ => ?_) (fun h => absurd h1 h)
    refine ab_iload_n d_PC_checkIndex_16 rfl ?_
    exact ab_iret rfl rfl d_PC_checkIndex_17 ⟨rfl, rfl⟩
  rcases hv with rfl | rfl
  · exact ab_F_of (by decide +kernel) (Nat.le_refl _) (key _)
  · exact ab_F_of (by decide +kernel) (Nat.le_refl _) (key _)
theorem s_check {i n : Int32} (h0 : ¬ i < 0) (h1 : i < n) (hd : 1 ≤ d) : ab_F X d y_SR_checkIndex (.code y_SR_checkIndex b_SR_checkIndex 2 none) [.int i, .int n] G (fun oc G2 => oc = .returned none ∧ G2 = G) := by
  refine ab_F_of (by decide +kernel) (Nat.le_refl _) ?_
  refine ab_iload_n d_SR_checkIndex_0 rfl ?_
  refine ab_iload_n d_SR_checkIndex_1 rfl ?_
  refine ab_gfo s_SR_1053 d_SR_checkIndex_2 (fun v hv => ?_)
  refine ab_callS (d' := d - 1) (as := [.int i, .int n, v]) (st := []) (s_pcheck h0 h1 hv) (fun oc G2 h => ⟨_, h.1⟩) (by omega) m_PC_checkIndex ml_SR_1059 st_PC_checkIndex (by decide) d_SR_checkIndex_5 rfl ?_
  intro v2 G2 h
  obtain ⟨h1, rfl⟩ := h
  cases h1
  refine ab_pop d_SR_checkIndex_8 rfl ?_
  exact ab_vret rfl d_SR_checkIndex_9 ⟨rfl, rfl⟩
theorem s_by : ∀ j, j < 6 → ∀ i, i < 7 → (ab_sby.getD j []).getD i 0 &&& 255 = (ab_sby.getD j []).getD i 0 ∧ (((ab_sby.getD j []).getD i 0).toUInt32 % 65536).toInt32 = (ab_sby.getD j []).getD i 0 ∧ narrow .char (.int ((ab_sby.getD j []).getD i 0)) = .int ((ab_sby.getD j []).getD i 0) := by decide +kernel
theorem s_l1 {i : Int32} (hj : j < 6) (hi : vp_in i 7) (hd : 2 ≤ d) : ab_F X d y_SL_charAt (.code y_SL_charAt b_SL_charAt 2 (some (.char))) [.ref (ab_big + 6 + j), .int i] G (fun oc G2 => oc = .returned (some (.int ((ab_sby.getD j []).getD i.toNatClampNeg 0))) ∧ G2 = G) := by
  have h0 : ¬ i < 0 := fun h => hi (Or.inl h)
  have hlt : i.toNatClampNeg < 7 := Nat.not_le.mp fun q => hi (Or.inr q)
  have h1 : i < 7 := by
    have := vp_in_iff.mp hi
    rw [Int32.lt_iff_toInt_lt]
    exact this.2
  obtain ⟨b1, b2, b3⟩ := s_by j hj i.toNatClampNeg hlt
  refine ab_F_of (by decide +kernel) (Nat.le_refl _) ?_
  refine ab_iload_n d_SL_charAt_0 rfl ?_
  refine ab_aload_n d_SL_charAt_1 rfl ?_
  refine ab_salen hj d_SL_charAt_2 ?_
  refine ab_callS (d' := d - 1) (as := [.int i, .int 7]) (st := []) (s_check h0 h1 (by omega)) (fun oc G2 h => ⟨_, h.1⟩) (by omega) m_SR_checkIndex ml_SL_9 st_SR_checkIndex (by decide) d_SL_charAt_3 rfl ?_
  intro v2 G2 h
  obtain ⟨h1, rfl⟩ := h
  cases h1
  refine ab_aload_n d_SL_charAt_6 rfl ?_
  refine ab_iload_n d_SL_charAt_7 rfl ?_
  refine ab_sbal hj hi d_SL_charAt_8 ?_
  refine ab_sipush d_SL_charAt_9 rfl ?_
  refine ab_iand d_SL_charAt_12 ?_
  rw [show (Int16.ofInt 255).toInt32 = 255 from by decide, b1]
  refine ab_i2c b2 d_SL_charAt_13 ?_
  exact ab_iret rfl b3 d_SL_charAt_14 ⟨rfl, rfl⟩
theorem s_charAt {i : Int32} (hj : j < 6) (hi : vp_in i 7) (hd : 3 ≤ d) : ab_F X d y_SR_charAt (.code y_SR_charAt b_SR_charAt 2 (some (.char))) [.ref (ab_big + j), .int i] G (fun oc G2 => oc = .returned (some (.int ((ab_sby.getD j []).getD i.toNatClampNeg 0))) ∧ G2 = G) := by
  have hlt : i.toNatClampNeg < 7 := Nat.not_le.mp fun q => hi (Or.inr q)
  obtain ⟨b1, b2, b3⟩ := s_by j hj i.toNatClampNeg hlt
  refine ab_F_of (by decide +kernel) (Nat.le_refl _) ?_
  refine ab_aload_n d_SR_charAt_0 rfl ?_
  refine ab_callVS (d' := d - 1) (as := []) (st := []) hj (s_isLatin1 hj) (fun oc G2 h => ⟨_, h.1⟩) (by omega) m_SR_isLatin1 ml_SR_492 im_SR_isLatin1 se_SR_isLatin1 (by decide) d_SR_charAt_1 rfl ?_
  intro v G2 h
  obtain ⟨h1, rfl⟩ := h
  cases h1
  refine ab_if_eq d_SR_charAt_4 rfl (fun h => absurd h (by decide)) (fun _ => ?_)
  refine ab_aload_n d_SR_charAt_7 rfl ?_
  refine ab_sval hj f_SR_9 d_SR_charAt_8 ?_
  refine ab_iload_n d_SR_charAt_11 rfl ?_
  refine ab_callS (d' := d - 1) (as := [.ref (ab_big + 6 + j), .int i]) (st := []) (s_l1 hj hi (by omega)) (fun oc G2 h => ⟨_, h.1⟩) (by omega) m_SL_charAt ml_SR_495 st_SL_charAt (by decide) d_SR_charAt_12 rfl ?_
  intro v G2 h
  obtain ⟨h1, rfl⟩ := h
  cases h1
  exact ab_iret rfl b3 d_SR_charAt_15 ⟨rfl, rfl⟩
end AbStrM
