theorem d_PW_codeAt_134 : decode b_PW_codeAt 134 = .ok (.iload 7, 2) := by decide +kernel
theorem d_PW_codeAt_136 : decode b_PW_codeAt 136 = .ok (.bipush 63, 2) := by decide +kernel
theorem d_PW_codeAt_138 : decode b_PW_codeAt 138 = .ok (.iand, 1) := by decide +kernel
theorem d_PW_codeAt_139 : decode b_PW_codeAt 139 = .ok (.ior, 1) := by decide +kernel
theorem d_PW_codeAt_140 : decode b_PW_codeAt 140 = .ok (.istore 5, 2) := by decide +kernel
theorem d_PW_codeAt_142 : decode b_PW_codeAt 142 = .ok (.iinc 6 1, 3) := by decide +kernel
theorem d_PW_codeAt_145 : decode b_PW_codeAt 145 = .ok (.goto (-45), 3) := by decide +kernel
theorem d_PW_codeAt_148 : decode b_PW_codeAt 148 = .ok (.iload 5, 2) := by decide +kernel
theorem d_PW_codeAt_150 : decode b_PW_codeAt 150 = .ok (.invokestatic 279, 3) := by decide +kernel
theorem d_PW_codeAt_153 : decode b_PW_codeAt 153 = .ok (.iload 4, 2) := by decide +kernel
theorem d_PW_codeAt_155 : decode b_PW_codeAt 155 = .ok (.if_icmp .ne 16, 3) := by decide +kernel
theorem d_PW_codeAt_158 : decode b_PW_codeAt 158 = .ok (.iload 5, 2) := by decide +kernel
theorem d_PW_codeAt_160 : decode b_PW_codeAt 160 = .ok (.invokestatic 282, 3) := by decide +kernel
theorem d_PW_codeAt_163 : decode b_PW_codeAt 163 = .ok (.ifCond .eq 8, 3) := by decide +kernel
theorem d_PW_codeAt_166 : decode b_PW_codeAt 166 = .ok (.iload 5, 2) := by decide +kernel
theorem d_PW_codeAt_168 : decode b_PW_codeAt 168 = .ok (.goto 4, 3) := by decide +kernel
theorem d_PW_codeAt_171 : decode b_PW_codeAt 171 = .ok (.iconst (-1), 1) := by decide +kernel
theorem d_PW_codeAt_172 : decode b_PW_codeAt 172 = .ok (.ireturn, 1) := by decide +kernel
theorem d_PW_isCharacter_0 : decode b_PW_isCharacter 0 = .ok (.iload_n 0, 1) := by decide +kernel
theorem d_PW_isCharacter_1 : decode b_PW_isCharacter 1 = .ok (.ifCond .lt 28, 3) := by decide +kernel
theorem d_PW_isCharacter_4 : decode b_PW_isCharacter 4 = .ok (.iload_n 0, 1) := by decide +kernel
theorem d_PW_isCharacter_5 : decode b_PW_isCharacter 5 = .ok (.ldc_w 275, 3) := by decide +kernel
theorem d_PW_isCharacter_8 : decode b_PW_isCharacter 8 = .ok (.if_icmp .gt 21, 3) := by decide +kernel
theorem d_PW_isCharacter_11 : decode b_PW_isCharacter 11 = .ok (.iload_n 0, 1) := by decide +kernel
theorem d_PW_isCharacter_12 : decode b_PW_isCharacter 12 = .ok (.ldc_w 276, 3) := by decide +kernel
theorem d_PW_isCharacter_15 : decode b_PW_isCharacter 15 = .ok (.if_icmp .lt 10, 3) := by decide +kernel
theorem d_PW_isCharacter_18 : decode b_PW_isCharacter 18 = .ok (.iload_n 0, 1) := by decide +kernel
theorem d_PW_isCharacter_19 : decode b_PW_isCharacter 19 = .ok (.ldc_w 277, 3) := by decide +kernel
theorem d_PW_isCharacter_22 : decode b_PW_isCharacter 22 = .ok (.if_icmp .le 7, 3) := by decide +kernel
theorem d_PW_isCharacter_25 : decode b_PW_isCharacter 25 = .ok (.iconst 1, 1) := by decide +kernel
theorem d_PW_isCharacter_26 : decode b_PW_isCharacter 26 = .ok (.goto 4, 3) := by decide +kernel
theorem d_PW_isCharacter_29 : decode b_PW_isCharacter 29 = .ok (.iconst 0, 1) := by decide +kernel
theorem d_PW_isCharacter_30 : decode b_PW_isCharacter 30 = .ok (.ireturn, 1) := by decide +kernel
theorem d_PW_isWord_0 : decode b_PW_isWord 0 = .ok (.iload_n 0, 1) := by decide +kernel
theorem d_PW_isWord_1 : decode b_PW_isWord 1 = .ok (.bipush 48, 2) := by decide +kernel
theorem d_PW_isWord_3 : decode b_PW_isWord 3 = .ok (.if_icmp .lt 9, 3) := by decide +kernel
theorem d_PW_isWord_6 : decode b_PW_isWord 6 = .ok (.iload_n 0, 1) := by decide +kernel
theorem d_PW_isWord_7 : decode b_PW_isWord 7 = .ok (.bipush 57, 2) := by decide +kernel
theorem d_PW_isWord_9 : decode b_PW_isWord 9 = .ok (.if_icmp .le 33, 3) := by decide +kernel
theorem d_PW_isWord_12 : decode b_PW_isWord 12 = .ok (.iload_n 0, 1) := by decide +kernel
theorem d_PW_isWord_13 : decode b_PW_isWord 13 = .ok (.bipush 65, 2) := by decide +kernel
theorem d_PW_isWord_15 : decode b_PW_isWord 15 = .ok (.if_icmp .lt 9, 3) := by decide +kernel
theorem d_PW_isWord_18 : decode b_PW_isWord 18 = .ok (.iload_n 0, 1) := by decide +kernel
theorem d_PW_isWord_19 : decode b_PW_isWord 19 = .ok (.bipush 90, 2) := by decide +kernel
theorem d_PW_isWord_21 : decode b_PW_isWord 21 = .ok (.if_icmp .le 21, 3) := by decide +kernel
theorem d_PW_isWord_24 : decode b_PW_isWord 24 = .ok (.iload_n 0, 1) := by decide +kernel
theorem d_PW_isWord_25 : decode b_PW_isWord 25 = .ok (.bipush 97, 2) := by decide +kernel
theorem d_PW_isWord_27 : decode b_PW_isWord 27 = .ok (.if_icmp .lt 9, 3) := by decide +kernel
theorem d_PW_isWord_30 : decode b_PW_isWord 30 = .ok (.iload_n 0, 1) := by decide +kernel
theorem d_PW_isWord_31 : decode b_PW_isWord 31 = .ok (.bipush 122, 2) := by decide +kernel
theorem d_PW_isWord_33 : decode b_PW_isWord 33 = .ok (.if_icmp .le 9, 3) := by decide +kernel
theorem d_PW_isWord_36 : decode b_PW_isWord 36 = .ok (.iload_n 0, 1) := by decide +kernel
theorem d_PW_isWord_37 : decode b_PW_isWord 37 = .ok (.bipush 95, 2) := by decide +kernel
theorem d_PW_isWord_39 : decode b_PW_isWord 39 = .ok (.if_icmp .ne 7, 3) := by decide +kernel
theorem d_PW_isWord_42 : decode b_PW_isWord 42 = .ok (.iconst 1, 1) := by decide +kernel
theorem d_PW_isWord_43 : decode b_PW_isWord 43 = .ok (.goto 4, 3) := by decide +kernel
theorem d_PW_isWord_46 : decode b_PW_isWord 46 = .ok (.iconst 0, 1) := by decide +kernel
theorem d_PW_isWord_47 : decode b_PW_isWord 47 = .ok (.ireturn, 1) := by decide +kernel
theorem d_PW_undo_0 : decode b_PW_undo 0 = .ok (.iconst (-1), 1) := by decide +kernel
theorem d_PW_undo_1 : decode b_PW_undo 1 = .ok (.iload_n 1, 1) := by decide +kernel
theorem d_PW_undo_2 : decode b_PW_undo 2 = .ok (.isub, 1) := by decide +kernel
theorem d_PW_undo_3 : decode b_PW_undo 3 = .ok (.istore_n 2, 1) := by decide +kernel
theorem d_PW_undo_4 : decode b_PW_undo 4 = .ok (.aload_n 0, 1) := by decide +kernel
theorem d_PW_undo_5 : decode b_PW_undo 5 = .ok (.iload_n 2, 1) := by decide +kernel
theorem d_PW_undo_6 : decode b_PW_undo 6 = .ok (.bipush 12, 2) := by decide +kernel
theorem d_PW_undo_8 : decode b_PW_undo 8 = .ok (.ishr, 1) := by decide +kernel
theorem d_PW_undo_9 : decode b_PW_undo 9 = .ok (.iload_n 2, 1) := by decide +kernel
theorem d_PW_undo_10 : decode b_PW_undo 10 = .ok (.sipush 4095, 3) := by decide +kernel
theorem d_PW_undo_13 : decode b_PW_undo 13 = .ok (.iand, 1) := by decide +kernel
theorem d_PW_undo_14 : decode b_PW_undo 14 = .ok (.iconst 1, 1) := by decide +kernel
theorem d_PW_undo_15 : decode b_PW_undo 15 = .ok (.isub, 1) := by decide +kernel
theorem d_PW_undo_16 : decode b_PW_undo 16 = .ok (.iastore, 1) := by decide +kernel
theorem d_PW_undo_17 : decode b_PW_undo 17 = .ok (.return_, 1) := by decide +kernel
theorem d_PW_undoOf_0 : decode b_PW_undoOf 0 = .ok (.iconst (-1), 1) := by decide +kernel
theorem d_PW_undoOf_1 : decode b_PW_undoOf 1 = .ok (.iload_n 1, 1) := by decide +kernel
theorem d_PW_undoOf_2 : decode b_PW_undoOf 2 = .ok (.bipush 12, 2) := by decide +kernel
theorem d_PW_undoOf_4 : decode b_PW_undoOf 4 = .ok (.ishl, 1) := by decide +kernel
theorem d_PW_undoOf_5 : decode b_PW_undoOf 5 = .ok (.aload_n 0, 1) := by decide +kernel
theorem d_PW_undoOf_6 : decode b_PW_undoOf 6 = .ok (.iload_n 1, 1) := by decide +kernel
theorem d_PW_undoOf_7 : decode b_PW_undoOf 7 = .ok (.iaload, 1) := by decide +kernel
theorem d_PW_undoOf_8 : decode b_PW_undoOf 8 = .ok (.iconst 1, 1) := by decide +kernel
theorem d_PW_undoOf_9 : decode b_PW_undoOf 9 = .ok (.iadd, 1) := by decide +kernel
theorem d_PW_undoOf_10 : decode b_PW_undoOf 10 = .ok (.ior, 1) := by decide +kernel
theorem d_PW_undoOf_11 : decode b_PW_undoOf 11 = .ok (.isub, 1) := by decide +kernel
theorem d_PW_undoOf_12 : decode b_PW_undoOf 12 = .ok (.ireturn, 1) := by decide +kernel
theorem d_PW_widthOf_0 : decode b_PW_widthOf 0 = .ok (.iload_n 0, 1) := by decide +kernel
theorem d_PW_widthOf_1 : decode b_PW_widthOf 1 = .ok (.sipush 128, 3) := by decide +kernel
theorem d_PW_widthOf_4 : decode b_PW_widthOf 4 = .ok (.if_icmp .ge 5, 3) := by decide +kernel
theorem d_PW_widthOf_7 : decode b_PW_widthOf 7 = .ok (.iconst 1, 1) := by decide +kernel
theorem d_PW_widthOf_8 : decode b_PW_widthOf 8 = .ok (.ireturn, 1) := by decide +kernel
theorem d_PW_widthOf_9 : decode b_PW_widthOf 9 = .ok (.iload_n 0, 1) := by decide +kernel
theorem d_PW_widthOf_10 : decode b_PW_widthOf 10 = .ok (.sipush 2048, 3) := by decide +kernel
theorem d_PW_widthOf_13 : decode b_PW_widthOf 13 = .ok (.if_icmp .ge 5, 3) := by decide +kernel
theorem d_PW_widthOf_16 : decode b_PW_widthOf 16 = .ok (.iconst 2, 1) := by decide +kernel
theorem d_PW_widthOf_17 : decode b_PW_widthOf 17 = .ok (.ireturn, 1) := by decide +kernel
theorem d_PW_widthOf_18 : decode b_PW_widthOf 18 = .ok (.iload_n 0, 1) := by decide +kernel
theorem d_PW_widthOf_19 : decode b_PW_widthOf 19 = .ok (.ldc_w 278, 3) := by decide +kernel
theorem d_PW_widthOf_22 : decode b_PW_widthOf 22 = .ok (.if_icmp .ge 7, 3) := by decide +kernel
theorem d_PW_widthOf_25 : decode b_PW_widthOf 25 = .ok (.iconst 3, 1) := by decide +kernel
theorem d_PW_widthOf_26 : decode b_PW_widthOf 26 = .ok (.goto 4, 3) := by decide +kernel
theorem d_PW_widthOf_29 : decode b_PW_widthOf 29 = .ok (.iconst 4, 1) := by decide +kernel
theorem d_PW_widthOf_30 : decode b_PW_widthOf 30 = .ok (.ireturn, 1) := by decide +kernel
theorem d_RW_add_0 : decode b_RW_add 0 = .ok (.aload_n 0, 1) := by decide +kernel
theorem d_RW_add_1 : decode b_RW_add 1 = .ok (.iconst 1, 1) := by decide +kernel
theorem d_RW_add_2 : decode b_RW_add 2 = .ok (.invokevirtual 22, 3) := by decide +kernel
theorem d_RW_add_5 : decode b_RW_add 5 = .ok (.ifCond .ne 5, 3) := by decide +kernel
theorem d_RW_add_8 : decode b_RW_add 8 = .ok (.iconst 0, 1) := by decide +kernel
theorem d_RW_add_9 : decode b_RW_add 9 = .ok (.ireturn, 1) := by decide +kernel
theorem d_RW_add_10 : decode b_RW_add 10 = .ok (.aload_n 0, 1) := by decide +kernel
theorem d_RW_add_11 : decode b_RW_add 11 = .ok (.getfield 9, 3) := by decide +kernel
theorem d_RW_add_14 : decode b_RW_add 14 = .ok (.aload_n 0, 1) := by decide +kernel
theorem d_RW_add_15 : decode b_RW_add 15 = .ok (.getfield 19, 3) := by decide +kernel
theorem d_RW_add_18 : decode b_RW_add 18 = .ok (.iload_n 1, 1) := by decide +kernel
theorem d_RW_add_19 : decode b_RW_add 19 = .ok (.iastore, 1) := by decide +kernel
theorem d_RW_add_20 : decode b_RW_add 20 = .ok (.aload_n 0, 1) := by decide +kernel
theorem d_RW_add_21 : decode b_RW_add 21 = .ok (.dup, 1) := by decide +kernel
theorem d_RW_add_22 : decode b_RW_add 22 = .ok (.getfield 19, 3) := by decide +kernel
theorem d_RW_add_25 : decode b_RW_add 25 = .ok (.iconst 1, 1) := by decide +kernel
theorem d_RW_add_26 : decode b_RW_add 26 = .ok (.iadd, 1) := by decide +kernel
theorem d_RW_add_27 : decode b_RW_add 27 = .ok (.putfield 19, 3) := by decide +kernel
theorem d_RW_add_30 : decode b_RW_add 30 = .ok (.iconst 1, 1) := by decide +kernel
theorem d_RW_add_31 : decode b_RW_add 31 = .ok (.ireturn, 1) := by decide +kernel
theorem d_SU_isLineFeed_0 : decode b_SU_isLineFeed 0 = .ok (.iload_n 1, 1) := by decide +kernel
theorem d_SU_isLineFeed_1 : decode b_SU_isLineFeed 1 = .ok (.ifCond .lt 26, 3) := by decide +kernel
theorem d_SU_isLineFeed_4 : decode b_SU_isLineFeed 4 = .ok (.iload_n 1, 1) := by decide +kernel
theorem d_SU_isLineFeed_5 : decode b_SU_isLineFeed 5 = .ok (.aload_n 0, 1) := by decide +kernel
theorem d_SU_isLineFeed_6 : decode b_SU_isLineFeed 6 = .ok (.getfield 34, 3) := by decide +kernel
theorem d_SU_isLineFeed_9 : decode b_SU_isLineFeed 9 = .ok (.if_icmp .ge 18, 3) := by decide +kernel
theorem d_SU_isLineFeed_12 : decode b_SU_isLineFeed 12 = .ok (.aload_n 0, 1) := by decide +kernel
theorem d_SU_isLineFeed_13 : decode b_SU_isLineFeed 13 = .ok (.getfield 9, 3) := by decide +kernel
theorem d_SU_isLineFeed_16 : decode b_SU_isLineFeed 16 = .ok (.iload_n 1, 1) := by decide +kernel
theorem d_SU_isLineFeed_17 : decode b_SU_isLineFeed 17 = .ok (.iaload, 1) := by decide +kernel
theorem d_SU_isLineFeed_18 : decode b_SU_isLineFeed 18 = .ok (.bipush 10, 2) := by decide +kernel
theorem d_SU_isLineFeed_20 : decode b_SU_isLineFeed 20 = .ok (.if_icmp .ne 7, 3) := by decide +kernel
theorem d_SU_isLineFeed_23 : decode b_SU_isLineFeed 23 = .ok (.iconst 1, 1) := by decide +kernel
theorem d_SU_isLineFeed_24 : decode b_SU_isLineFeed 24 = .ok (.goto 4, 3) := by decide +kernel
theorem d_SU_isLineFeed_27 : decode b_SU_isLineFeed 27 = .ok (.iconst 0, 1) := by decide +kernel
theorem d_SU_isLineFeed_28 : decode b_SU_isLineFeed 28 = .ok (.ireturn, 1) := by decide +kernel
theorem d_TX_aKind_0 : decode b_TX_aKind 0 = .ok (.aload_n 0, 1) := by decide +kernel
theorem d_TX_aKind_1 : decode b_TX_aKind 1 = .ok (.aload_n 1, 1) := by decide +kernel
theorem d_TX_aKind_2 : decode b_TX_aKind 2 = .ok (.putfield 29, 3) := by decide +kernel
theorem d_TX_aKind_5 : decode b_TX_aKind 5 = .ok (.aload_n 0, 1) := by decide +kernel
theorem d_TX_aKind_6 : decode b_TX_aKind 6 = .ok (.iload_n 2, 1) := by decide +kernel
theorem d_TX_aKind_7 : decode b_TX_aKind 7 = .ok (.putfield 85, 3) := by decide +kernel
theorem d_TX_aKind_10 : decode b_TX_aKind 10 = .ok (.bipush (-2), 2) := by decide +kernel
theorem d_TX_aKind_12 : decode b_TX_aKind 12 = .ok (.ireturn, 1) := by decide +kernel
theorem d_TX_begin_0 : decode b_TX_begin 0 = .ok (.aload_n 0, 1) := by decide +kernel
theorem d_TX_begin_1 : decode b_TX_begin 1 = .ok (.aload_n 1, 1) := by decide +kernel
theorem d_TX_begin_2 : decode b_TX_begin 2 = .ok (.getfield 32, 3) := by decide +kernel
theorem d_TX_begin_5 : decode b_TX_begin 5 = .ok (.putfield 18, 3) := by decide +kernel
theorem d_TX_begin_8 : decode b_TX_begin 8 = .ok (.aload_n 0, 1) := by decide +kernel
theorem d_TX_begin_9 : decode b_TX_begin 9 = .ok (.aload_n 1, 1) := by decide +kernel
theorem d_TX_begin_10 : decode b_TX_begin 10 = .ok (.getfield 37, 3) := by decide +kernel
theorem d_TX_begin_13 : decode b_TX_begin 13 = .ok (.putfield 40, 3) := by decide +kernel
theorem d_TX_begin_16 : decode b_TX_begin 16 = .ok (.aload_n 0, 1) := by decide +kernel
theorem d_TX_begin_17 : decode b_TX_begin 17 = .ok (.iconst 0, 1) := by decide +kernel
theorem d_TX_begin_18 : decode b_TX_begin 18 = .ok (.putfield 43, 3) := by decide +kernel
theorem d_TX_begin_21 : decode b_TX_begin 21 = .ok (.aload_n 0, 1) := by decide +kernel
theorem d_TX_begin_22 : decode b_TX_begin 22 = .ok (.iconst 0, 1) := by decide +kernel
theorem d_TX_begin_23 : decode b_TX_begin 23 = .ok (.putfield 46, 3) := by decide +kernel
theorem d_TX_begin_26 : decode b_TX_begin 26 = .ok (.aload_n 0, 1) := by decide +kernel
theorem d_TX_begin_27 : decode b_TX_begin 27 = .ok (.iconst (-1), 1) := by decide +kernel
theorem d_TX_begin_28 : decode b_TX_begin 28 = .ok (.putfield 22, 3) := by decide +kernel
theorem d_TX_begin_31 : decode b_TX_begin 31 = .ok (.return_, 1) := by decide +kernel
theorem d_TX_character_0 : decode b_TX_character 0 = .ok (.aload_n 0, 1) := by decide +kernel
theorem d_TX_character_1 : decode b_TX_character 1 = .ok (.getfield 18, 3) := by decide +kernel
theorem d_TX_character_4 : decode b_TX_character 4 = .ok (.aload_n 0, 1) := by decide +kernel
theorem d_TX_character_5 : decode b_TX_character 5 = .ok (.getfield 43, 3) := by decide +kernel
theorem d_TX_character_8 : decode b_TX_character 8 = .ok (.aload_n 0, 1) := by decide +kernel
theorem d_TX_character_9 : decode b_TX_character 9 = .ok (.getfield 40, 3) := by decide +kernel
theorem d_TX_character_12 : decode b_TX_character 12 = .ok (.invokestatic 49, 3) := by decide +kernel
theorem d_TX_character_15 : decode b_TX_character 15 = .ok (.istore_n 1, 1) := by decide +kernel
theorem d_TX_character_16 : decode b_TX_character 16 = .ok (.iload_n 1, 1) := by decide +kernel
theorem d_TX_character_17 : decode b_TX_character 17 = .ok (.iconst (-1), 1) := by decide +kernel
theorem d_TX_character_18 : decode b_TX_character 18 = .ok (.if_icmp .ne 13, 3) := by decide +kernel
theorem d_TX_character_21 : decode b_TX_character 21 = .ok (.aload_n 0, 1) := by decide +kernel
theorem d_TX_character_22 : decode b_TX_character 22 = .ok (.iconst 1, 1) := by decide +kernel
theorem d_TX_character_23 : decode b_TX_character 23 = .ok (.aload_n 0, 1) := by decide +kernel
theorem d_TX_character_24 : decode b_TX_character 24 = .ok (.getfield 43, 3) := by decide +kernel
theorem d_TX_character_27 : decode b_TX_character 27 = .ok (.invokevirtual 53, 3) := by decide +kernel
theorem d_TX_character_30 : decode b_TX_character 30 = .ok (.ireturn, 1) := by decide +kernel
theorem d_TX_character_31 : decode b_TX_character 31 = .ok (.aload_n 0, 1) := by decide +kernel
theorem d_TX_character_32 : decode b_TX_character 32 = .ok (.dup, 1) := by decide +kernel
theorem d_TX_character_33 : decode b_TX_character 33 = .ok (.getfield 43, 3) := by decide +kernel
theorem d_TX_character_36 : decode b_TX_character 36 = .ok (.iload_n 1, 1) := by decide +kernel
theorem d_TX_character_37 : decode b_TX_character 37 = .ok (.invokestatic 57, 3) := by decide +kernel
theorem d_TX_character_40 : decode b_TX_character 40 = .ok (.iadd, 1) := by decide +kernel
theorem d_TX_character_41 : decode b_TX_character 41 = .ok (.putfield 43, 3) := by decide +kernel
theorem d_TX_character_44 : decode b_TX_character 44 = .ok (.iload_n 1, 1) := by decide +kernel
theorem d_TX_character_45 : decode b_TX_character 45 = .ok (.ireturn, 1) := by decide +kernel
theorem d_TX_escape_0 : decode b_TX_escape 0 = .ok (.aload_n 0, 1) := by decide +kernel
theorem d_TX_escape_1 : decode b_TX_escape 1 = .ok (.getfield 43, 3) := by decide +kernel
theorem d_TX_escape_4 : decode b_TX_escape 4 = .ok (.istore_n 1, 1) := by decide +kernel
theorem d_TX_escape_5 : decode b_TX_escape 5 = .ok (.aload_n 0, 1) := by decide +kernel
theorem d_TX_escape_6 : decode b_TX_escape 6 = .ok (.iconst 1, 1) := by decide +kernel
theorem d_TX_escape_7 : decode b_TX_escape 7 = .ok (.invokevirtual 61, 3) := by decide +kernel
theorem d_TX_escape_10 : decode b_TX_escape 10 = .ok (.istore_n 2, 1) := by decide +kernel
theorem d_TX_escape_11 : decode b_TX_escape 11 = .ok (.aload_n 0, 1) := by decide +kernel
theorem d_TX_escape_12 : decode b_TX_escape 12 = .ok (.iload_n 1, 1) := by decide +kernel
theorem d_TX_escape_13 : decode b_TX_escape 13 = .ok (.iconst 2, 1) := by decide +kernel
theorem d_TX_escape_14 : decode b_TX_escape 14 = .ok (.iadd, 1) := by decide +kernel
theorem d_TX_escape_15 : decode b_TX_escape 15 = .ok (.putfield 43, 3) := by decide +kernel
theorem d_TX_escape_18 : decode b_TX_escape 18 = .ok (.iload_n 2, 1) := by decide +kernel
theorem d_TX_escape_19 : decode b_TX_escape 19 = .ok (.tableswitch 358 65 122 #[269, 278, 281, 284, 358, 358, 358, 358, 358, 358, 358, 358, 358, 358, 358, 341, 358, 358, 303, 358, 358, 358, 322, 358, 358, 358, 358, 358, 358, 358, 358, 358, 245, 275, 358, 284, 358, 248, 358, 358, 358, 358, 358, 358, 358, 251, 358, 341, 358, 254, 303, 257, 358, 260, 322, 263, 358, 272], 245) := by decide +kernel
theorem d_TX_escape_264 : decode b_TX_escape 264 = .ok (.bipush 7, 2) := by decide +kernel
theorem d_TX_escape_266 : decode b_TX_escape 266 = .ok (.ireturn, 1) := by decide +kernel
theorem d_TX_escape_267 : decode b_TX_escape 267 = .ok (.bipush 12, 2) := by decide +kernel
theorem d_TX_escape_269 : decode b_TX_escape 269 = .ok (.ireturn, 1) := by decide +kernel
theorem d_TX_escape_270 : decode b_TX_escape 270 = .ok (.bipush 10, 2) := by decide +kernel
theorem d_TX_escape_272 : decode b_TX_escape 272 = .ok (.ireturn, 1) := by decide +kernel
theorem d_TX_escape_273 : decode b_TX_escape 273 = .ok (.bipush 13, 2) := by decide +kernel
theorem d_TX_escape_275 : decode b_TX_escape 275 = .ok (.ireturn, 1) := by decide +kernel
theorem d_TX_escape_276 : decode b_TX_escape 276 = .ok (.bipush 9, 2) := by decide +kernel
theorem d_TX_escape_278 : decode b_TX_escape 278 = .ok (.ireturn, 1) := by decide +kernel
theorem d_TX_escape_279 : decode b_TX_escape 279 = .ok (.bipush 11, 2) := by decide +kernel
theorem d_TX_escape_281 : decode b_TX_escape 281 = .ok (.ireturn, 1) := by decide +kernel
theorem d_TX_escape_282 : decode b_TX_escape 282 = .ok (.aload_n 0, 1) := by decide +kernel
theorem d_TX_escape_283 : decode b_TX_escape 283 = .ok (.iload_n 1, 1) := by decide +kernel
theorem d_TX_escape_284 : decode b_TX_escape 284 = .ok (.invokevirtual 64, 3) := by decide +kernel
theorem d_TX_escape_287 : decode b_TX_escape 287 = .ok (.ireturn, 1) := by decide +kernel
theorem d_TX_escape_288 : decode b_TX_escape 288 = .ok (.bipush (-4), 2) := by decide +kernel
theorem d_TX_escape_290 : decode b_TX_escape 290 = .ok (.ireturn, 1) := by decide +kernel
theorem d_TX_escape_291 : decode b_TX_escape 291 = .ok (.bipush (-5), 2) := by decide +kernel
theorem d_TX_escape_293 : decode b_TX_escape 293 = .ok (.ireturn, 1) := by decide +kernel
theorem d_TX_escape_294 : decode b_TX_escape 294 = .ok (.bipush (-8), 2) := by decide +kernel
theorem d_TX_escape_296 : decode b_TX_escape 296 = .ok (.ireturn, 1) := by decide +kernel
theorem d_TX_escape_297 : decode b_TX_escape 297 = .ok (.bipush (-9), 2) := by decide +kernel
theorem d_TX_escape_299 : decode b_TX_escape 299 = .ok (.ireturn, 1) := by decide +kernel
theorem d_TX_escape_300 : decode b_TX_escape 300 = .ok (.bipush (-3), 2) := by decide +kernel
theorem d_TX_escape_302 : decode b_TX_escape 302 = .ok (.ireturn, 1) := by decide +kernel
theorem d_TX_escape_303 : decode b_TX_escape 303 = .ok (.aload_n 0, 1) := by decide +kernel
theorem d_TX_escape_304 : decode b_TX_escape 304 = .ok (.getstatic 26, 3) := by decide +kernel
theorem d_TX_escape_307 : decode b_TX_escape 307 = .ok (.iload_n 2, 1) := by decide +kernel
theorem d_TX_escape_308 : decode b_TX_escape 308 = .ok (.bipush 68, 2) := by decide +kernel
theorem d_TX_escape_310 : decode b_TX_escape 310 = .ok (.if_icmp .ne 7, 3) := by decide +kernel
theorem d_TX_escape_313 : decode b_TX_escape 313 = .ok (.iconst 1, 1) := by decide +kernel
theorem d_TX_escape_314 : decode b_TX_escape 314 = .ok (.goto 4, 3) := by decide +kernel
theorem d_TX_escape_317 : decode b_TX_escape 317 = .ok (.iconst 0, 1) := by decide +kernel
theorem d_TX_escape_318 : decode b_TX_escape 318 = .ok (.invokevirtual 67, 3) := by decide +kernel
theorem d_TX_escape_321 : decode b_TX_escape 321 = .ok (.ireturn, 1) := by decide +kernel
theorem d_TX_escape_322 : decode b_TX_escape 322 = .ok (.aload_n 0, 1) := by decide +kernel
theorem d_TX_escape_323 : decode b_TX_escape 323 = .ok (.getstatic 71, 3) := by decide +kernel
theorem d_TX_escape_326 : decode b_TX_escape 326 = .ok (.iload_n 2, 1) := by decide +kernel
theorem d_TX_escape_327 : decode b_TX_escape 327 = .ok (.bipush 83, 2) := by decide +kernel
theorem d_TX_escape_329 : decode b_TX_escape 329 = .ok (.if_icmp .ne 7, 3) := by decide +kernel
theorem d_TX_escape_332 : decode b_TX_escape 332 = .ok (.iconst 1, 1) := by decide +kernel
theorem d_TX_escape_333 : decode b_TX_escape 333 = .ok (.goto 4, 3) := by decide +kernel
theorem d_TX_escape_336 : decode b_TX_escape 336 = .ok (.iconst 0, 1) := by decide +kernel
theorem d_TX_escape_337 : decode b_TX_escape 337 = .ok (.invokevirtual 67, 3) := by decide +kernel
theorem d_TX_escape_340 : decode b_TX_escape 340 = .ok (.ireturn, 1) := by decide +kernel
theorem d_TX_escape_341 : decode b_TX_escape 341 = .ok (.aload_n 0, 1) := by decide +kernel
theorem d_TX_escape_342 : decode b_TX_escape 342 = .ok (.getstatic 74, 3) := by decide +kernel
theorem d_TX_escape_345 : decode b_TX_escape 345 = .ok (.iload_n 2, 1) := by decide +kernel
theorem d_TX_escape_346 : decode b_TX_escape 346 = .ok (.bipush 87, 2) := by decide +kernel
theorem d_TX_escape_348 : decode b_TX_escape 348 = .ok (.if_icmp .ne 7, 3) := by decide +kernel
theorem d_TX_escape_351 : decode b_TX_escape 351 = .ok (.iconst 1, 1) := by decide +kernel
theorem d_TX_escape_352 : decode b_TX_escape 352 = .ok (.goto 4, 3) := by decide +kernel
theorem d_TX_escape_355 : decode b_TX_escape 355 = .ok (.iconst 0, 1) := by decide +kernel
theorem d_TX_escape_356 : decode b_TX_escape 356 = .ok (.invokevirtual 67, 3) := by decide +kernel
theorem d_TX_escape_359 : decode b_TX_escape 359 = .ok (.ireturn, 1) := by decide +kernel
theorem d_TX_escape_360 : decode b_TX_escape 360 = .ok (.aload_n 0, 1) := by decide +kernel
theorem d_TX_escape_361 : decode b_TX_escape 361 = .ok (.iload_n 1, 1) := by decide +kernel
theorem d_TX_escape_362 : decode b_TX_escape 362 = .ok (.iload_n 2, 1) := by decide +kernel
theorem d_TX_escape_363 : decode b_TX_escape 363 = .ok (.bipush 80, 2) := by decide +kernel
theorem d_TX_escape_365 : decode b_TX_escape 365 = .ok (.if_icmp .ne 7, 3) := by decide +kernel
theorem d_TX_escape_368 : decode b_TX_escape 368 = .ok (.iconst 1, 1) := by decide +kernel
theorem d_TX_escape_369 : decode b_TX_escape 369 = .ok (.goto 4, 3) := by decide +kernel
theorem d_TX_escape_372 : decode b_TX_escape 372 = .ok (.iconst 0, 1) := by decide +kernel
theorem d_TX_escape_373 : decode b_TX_escape 373 = .ok (.invokevirtual 77, 3) := by decide +kernel
theorem d_TX_escape_376 : decode b_TX_escape 376 = .ok (.ireturn, 1) := by decide +kernel
theorem d_TX_escape_377 : decode b_TX_escape 377 = .ok (.iload_n 2, 1) := by decide +kernel
theorem d_TX_escape_378 : decode b_TX_escape 378 = .ok (.ifCond .lt 21, 3) := by decide +kernel
theorem d_TX_escape_381 : decode b_TX_escape 381 = .ok (.iload_n 2, 1) := by decide +kernel
theorem d_TX_escape_382 : decode b_TX_escape 382 = .ok (.sipush 128, 3) := by decide +kernel
theorem d_TX_escape_385 : decode b_TX_escape 385 = .ok (.if_icmp .ge 14, 3) := by decide +kernel
theorem d_TX_escape_388 : decode b_TX_escape 388 = .ok (.iload_n 2, 1) := by decide +kernel
theorem d_TX_escape_389 : decode b_TX_escape 389 = .ok (.invokestatic 81, 3) := by decide +kernel
theorem d_TX_escape_392 : decode b_TX_escape 392 = .ok (.ifCond .ne 7, 3) := by decide +kernel
theorem d_TX_escape_395 : decode b_TX_escape 395 = .ok (.iload_n 2, 1) := by decide +kernel
theorem d_TX_escape_396 : decode b_TX_escape 396 = .ok (.goto 9, 3) := by decide +kernel
theorem d_TX_escape_399 : decode b_TX_escape 399 = .ok (.aload_n 0, 1) := by decide +kernel
theorem d_TX_escape_400 : decode b_TX_escape 400 = .ok (.iconst 5, 1) := by decide +kernel
theorem d_TX_escape_401 : decode b_TX_escape 401 = .ok (.iload_n 1, 1) := by decide +kernel
theorem d_TX_escape_402 : decode b_TX_escape 402 = .ok (.invokevirtual 53, 3) := by decide +kernel
theorem d_TX_escape_405 : decode b_TX_escape 405 = .ok (.ireturn, 1) := by decide +kernel
theorem d_TX_fail_0 : decode b_TX_fail 0 = .ok (.aload_n 0, 1) := by decide +kernel
theorem d_TX_fail_1 : decode b_TX_fail 1 = .ok (.getfield 46, 3) := by decide +kernel
theorem d_TX_fail_4 : decode b_TX_fail 4 = .ok (.ifCond .ne 13, 3) := by decide +kernel
theorem d_TX_fail_7 : decode b_TX_fail 7 = .ok (.aload_n 0, 1) := by decide +kernel
theorem d_TX_fail_8 : decode b_TX_fail 8 = .ok (.iload_n 1, 1) := by decide +kernel
theorem d_TX_fail_9 : decode b_TX_fail 9 = .ok (.putfield 46, 3) := by decide +kernel
theorem d_TX_fail_12 : decode b_TX_fail 12 = .ok (.aload_n 0, 1) := by decide +kernel
theorem d_TX_fail_13 : decode b_TX_fail 13 = .ok (.iload_n 2, 1) := by decide +kernel
theorem d_TX_fail_14 : decode b_TX_fail 14 = .ok (.putfield 22, 3) := by decide +kernel
theorem d_TX_fail_17 : decode b_TX_fail 17 = .ok (.iconst (-1), 1) := by decide +kernel
theorem d_TX_fail_18 : decode b_TX_fail 18 = .ok (.ireturn, 1) := by decide +kernel
theorem d_TX_hexDigit_0 : decode b_TX_hexDigit 0 = .ok (.iload_n 1, 1) := by decide +kernel
theorem d_TX_hexDigit_1 : decode b_TX_hexDigit 1 = .ok (.aload_n 0, 1) := by decide +kernel
theorem d_TX_hexDigit_2 : decode b_TX_hexDigit 2 = .ok (.getfield 40, 3) := by decide +kernel
theorem d_TX_hexDigit_5 : decode b_TX_hexDigit 5 = .ok (.if_icmp .ge 12, 3) := by decide +kernel
theorem d_TX_hexDigit_8 : decode b_TX_hexDigit 8 = .ok (.aload_n 0, 1) := by decide +kernel
theorem d_TX_hexDigit_9 : decode b_TX_hexDigit 9 = .ok (.getfield 18, 3) := by decide +kernel
theorem d_TX_hexDigit_12 : decode b_TX_hexDigit 12 = .ok (.iload_n 1, 1) := by decide +kernel
theorem d_TX_hexDigit_13 : decode b_TX_hexDigit 13 = .ok (.iaload, 1) := by decide +kernel
theorem d_TX_hexDigit_14 : decode b_TX_hexDigit 14 = .ok (.goto 4, 3) := by decide +kernel
theorem d_TX_hexDigit_17 : decode b_TX_hexDigit 17 = .ok (.iconst (-1), 1) := by decide +kernel
theorem d_TX_hexDigit_18 : decode b_TX_hexDigit 18 = .ok (.istore_n 2, 1) := by decide +kernel
theorem d_TX_hexDigit_19 : decode b_TX_hexDigit 19 = .ok (.iload_n 2, 1) := by decide +kernel
theorem d_TX_hexDigit_20 : decode b_TX_hexDigit 20 = .ok (.bipush 48, 2) := by decide +kernel
theorem d_TX_hexDigit_22 : decode b_TX_hexDigit 22 = .ok (.if_icmp .lt 14, 3) := by decide +kernel
theorem d_TX_hexDigit_25 : decode b_TX_hexDigit 25 = .ok (.iload_n 2, 1) := by decide +kernel
theorem d_TX_hexDigit_26 : decode b_TX_hexDigit 26 = .ok (.bipush 57, 2) := by decide +kernel
theorem d_TX_hexDigit_28 : decode b_TX_hexDigit 28 = .ok (.if_icmp .gt 8, 3) := by decide +kernel
theorem d_TX_hexDigit_31 : decode b_TX_hexDigit 31 = .ok (.iload_n 2, 1) := by decide +kernel
theorem d_TX_hexDigit_32 : decode b_TX_hexDigit 32 = .ok (.bipush 48, 2) := by decide +kernel
theorem d_TX_hexDigit_34 : decode b_TX_hexDigit 34 = .ok (.isub, 1) := by decide +kernel
theorem d_TX_hexDigit_35 : decode b_TX_hexDigit 35 = .ok (.ireturn, 1) := by decide +kernel
theorem d_TX_hexDigit_36 : decode b_TX_hexDigit 36 = .ok (.iload_n 2, 1) := by decide +kernel
theorem d_TX_hexDigit_37 : decode b_TX_hexDigit 37 = .ok (.bipush 32, 2) := by decide +kernel
theorem d_TX_hexDigit_39 : decode b_TX_hexDigit 39 = .ok (.ior, 1) := by decide +kernel
theorem d_TX_hexDigit_40 : decode b_TX_hexDigit 40 = .ok (.istore_n 3, 1) := by decide +kernel
theorem d_TX_hexDigit_41 : decode b_TX_hexDigit 41 = .ok (.iload_n 2, 1) := by decide +kernel
theorem d_TX_hexDigit_42 : decode b_TX_hexDigit 42 = .ok (.ifCond .lt 25, 3) := by decide +kernel
theorem d_TX_hexDigit_45 : decode b_TX_hexDigit 45 = .ok (.iload_n 3, 1) := by decide +kernel
theorem d_TX_hexDigit_46 : decode b_TX_hexDigit 46 = .ok (.bipush 97, 2) := by decide +kernel
theorem d_TX_hexDigit_48 : decode b_TX_hexDigit 48 = .ok (.if_icmp .lt 19, 3) := by decide +kernel
theorem d_TX_hexDigit_51 : decode b_TX_hexDigit 51 = .ok (.iload_n 3, 1) := by decide +kernel
theorem d_TX_hexDigit_52 : decode b_TX_hexDigit 52 = .ok (.bipush 102, 2) := by decide +kernel
theorem d_TX_hexDigit_54 : decode b_TX_hexDigit 54 = .ok (.if_icmp .gt 13, 3) := by decide +kernel
theorem d_TX_hexDigit_57 : decode b_TX_hexDigit 57 = .ok (.iload_n 3, 1) := by decide +kernel
theorem d_TX_hexDigit_58 : decode b_TX_hexDigit 58 = .ok (.bipush 97, 2) := by decide +kernel
theorem d_TX_hexDigit_60 : decode b_TX_hexDigit 60 = .ok (.isub, 1) := by decide +kernel
theorem d_TX_hexDigit_61 : decode b_TX_hexDigit 61 = .ok (.bipush 10, 2) := by decide +kernel
theorem d_TX_hexDigit_63 : decode b_TX_hexDigit 63 = .ok (.iadd, 1) := by decide +kernel
theorem d_TX_hexDigit_64 : decode b_TX_hexDigit 64 = .ok (.goto 4, 3) := by decide +kernel
theorem d_TX_hexDigit_67 : decode b_TX_hexDigit 67 = .ok (.iconst (-1), 1) := by decide +kernel
theorem d_TX_hexDigit_68 : decode b_TX_hexDigit 68 = .ok (.ireturn, 1) := by decide +kernel
theorem d_TX_hexadecimal_0 : decode b_TX_hexadecimal 0 = .ok (.aload_n 0, 1) := by decide +kernel
theorem d_TX_hexadecimal_1 : decode b_TX_hexadecimal 1 = .ok (.iconst 0, 1) := by decide +kernel
theorem d_TX_hexadecimal_2 : decode b_TX_hexadecimal 2 = .ok (.invokevirtual 61, 3) := by decide +kernel
theorem d_TX_hexadecimal_5 : decode b_TX_hexadecimal 5 = .ok (.bipush 123, 2) := by decide +kernel
theorem d_TX_hexadecimal_7 : decode b_TX_hexadecimal 7 = .ok (.if_icmp .ne 7, 3) := by decide +kernel
theorem d_TX_hexadecimal_10 : decode b_TX_hexadecimal 10 = .ok (.iconst 1, 1) := by decide +kernel
theorem d_TX_hexadecimal_11 : decode b_TX_hexadecimal 11 = .ok (.goto 4, 3) := by decide +kernel
theorem d_TX_hexadecimal_14 : decode b_TX_hexadecimal 14 = .ok (.iconst 0, 1) := by decide +kernel
theorem d_TX_hexadecimal_15 : decode b_TX_hexadecimal 15 = .ok (.istore_n 2, 1) := by decide +kernel
theorem d_TX_hexadecimal_16 : decode b_TX_hexadecimal 16 = .ok (.aload_n 0, 1) := by decide +kernel
theorem d_TX_hexadecimal_17 : decode b_TX_hexadecimal 17 = .ok (.dup, 1) := by decide +kernel
theorem d_TX_hexadecimal_18 : decode b_TX_hexadecimal 18 = .ok (.getfield 43, 3) := by decide +kernel
theorem d_TX_hexadecimal_21 : decode b_TX_hexadecimal 21 = .ok (.iload_n 2, 1) := by decide +kernel
theorem d_TX_hexadecimal_22 : decode b_TX_hexadecimal 22 = .ok (.ifCond .eq 7, 3) := by decide +kernel
theorem d_TX_hexadecimal_25 : decode b_TX_hexadecimal 25 = .ok (.iconst 1, 1) := by decide +kernel
theorem d_TX_hexadecimal_26 : decode b_TX_hexadecimal 26 = .ok (.goto 4, 3) := by decide +kernel
theorem d_TX_hexadecimal_29 : decode b_TX_hexadecimal 29 = .ok (.iconst 0, 1) := by decide +kernel
theorem d_TX_hexadecimal_30 : decode b_TX_hexadecimal 30 = .ok (.iadd, 1) := by decide +kernel
theorem d_TX_hexadecimal_31 : decode b_TX_hexadecimal 31 = .ok (.putfield 43, 3) := by decide +kernel
theorem d_TX_hexadecimal_34 : decode b_TX_hexadecimal 34 = .ok (.iload_n 2, 1) := by decide +kernel
theorem d_TX_hexadecimal_35 : decode b_TX_hexadecimal 35 = .ok (.ifCond .eq 8, 3) := by decide +kernel
theorem d_TX_hexadecimal_38 : decode b_TX_hexadecimal 38 = .ok (.bipush 6, 2) := by decide +kernel
theorem d_TX_hexadecimal_40 : decode b_TX_hexadecimal 40 = .ok (.goto 4, 3) := by decide +kernel
theorem d_TX_hexadecimal_43 : decode b_TX_hexadecimal 43 = .ok (.iconst 2, 1) := by decide +kernel
theorem d_TX_hexadecimal_44 : decode b_TX_hexadecimal 44 = .ok (.istore_n 3, 1) := by decide +kernel
theorem d_TX_hexadecimal_45 : decode b_TX_hexadecimal 45 = .ok (.iconst 0, 1) := by decide +kernel
theorem d_TX_hexadecimal_46 : decode b_TX_hexadecimal 46 = .ok (.istore 4, 2) := by decide +kernel
theorem d_TX_hexadecimal_48 : decode b_TX_hexadecimal 48 = .ok (.iconst 0, 1) := by decide +kernel
theorem d_TX_hexadecimal_49 : decode b_TX_hexadecimal 49 = .ok (.istore 5, 2) := by decide +kernel
theorem d_TX_hexadecimal_51 : decode b_TX_hexadecimal 51 = .ok (.aload_n 0, 1) := by decide +kernel
theorem d_TX_hexadecimal_52 : decode b_TX_hexadecimal 52 = .ok (.aload_n 0, 1) := by decide +kernel
theorem d_TX_hexadecimal_53 : decode b_TX_hexadecimal 53 = .ok (.getfield 43, 3) := by decide +kernel
theorem d_TX_hexadecimal_56 : decode b_TX_hexadecimal 56 = .ok (.invokevirtual 101, 3) := by decide +kernel
theorem d_TX_hexadecimal_59 : decode b_TX_hexadecimal 59 = .ok (.istore 6, 2) := by decide +kernel
theorem d_TX_hexadecimal_61 : decode b_TX_hexadecimal 61 = .ok (.iload 5, 2) := by decide +kernel
theorem d_TX_hexadecimal_63 : decode b_TX_hexadecimal 63 = .ok (.iload_n 3, 1) := by decide +kernel
theorem d_TX_hexadecimal_64 : decode b_TX_hexadecimal 64 = .ok (.if_icmp .ge 44, 3) := by decide +kernel
theorem d_TX_hexadecimal_67 : decode b_TX_hexadecimal 67 = .ok (.iload 6, 2) := by decide +kernel
theorem d_TX_hexadecimal_69 : decode b_TX_hexadecimal 69 = .ok (.ifCond .lt 39, 3) := by decide +kernel
theorem d_TX_hexadecimal_72 : decode b_TX_hexadecimal 72 = .ok (.bipush 16, 2) := by decide +kernel
theorem d_TX_hexadecimal_74 : decode b_TX_hexadecimal 74 = .ok (.iload 4, 2) := by decide +kernel
theorem d_TX_hexadecimal_76 : decode b_TX_hexadecimal 76 = .ok (.imul, 1) := by decide +kernel
theorem d_TX_hexadecimal_77 : decode b_TX_hexadecimal 77 = .ok (.iload 6, 2) := by decide +kernel
theorem d_TX_hexadecimal_79 : decode b_TX_hexadecimal 79 = .ok (.iadd, 1) := by decide +kernel
theorem d_TX_hexadecimal_80 : decode b_TX_hexadecimal 80 = .ok (.istore 4, 2) := by decide +kernel
theorem d_TX_hexadecimal_82 : decode b_TX_hexadecimal 82 = .ok (.iinc 5 1, 3) := by decide +kernel
theorem d_TX_hexadecimal_85 : decode b_TX_hexadecimal 85 = .ok (.aload_n 0, 1) := by decide +kernel
theorem d_TX_hexadecimal_86 : decode b_TX_hexadecimal 86 = .ok (.dup, 1) := by decide +kernel
theorem d_TX_hexadecimal_87 : decode b_TX_hexadecimal 87 = .ok (.getfield 43, 3) := by decide +kernel
theorem d_TX_hexadecimal_90 : decode b_TX_hexadecimal 90 = .ok (.iconst 1, 1) := by decide +kernel
theorem d_TX_hexadecimal_91 : decode b_TX_hexadecimal 91 = .ok (.iadd, 1) := by decide +kernel
theorem d_TX_hexadecimal_92 : decode b_TX_hexadecimal 92 = .ok (.putfield 43, 3) := by decide +kernel
theorem d_TX_hexadecimal_95 : decode b_TX_hexadecimal 95 = .ok (.aload_n 0, 1) := by decide +kernel
theorem d_TX_hexadecimal_96 : decode b_TX_hexadecimal 96 = .ok (.aload_n 0, 1) := by decide +kernel
theorem d_TX_hexadecimal_97 : decode b_TX_hexadecimal 97 = .ok (.getfield 43, 3) := by decide +kernel
theorem d_TX_hexadecimal_100 : decode b_TX_hexadecimal 100 = .ok (.invokevirtual 101, 3) := by decide +kernel
theorem d_TX_hexadecimal_103 : decode b_TX_hexadecimal 103 = .ok (.istore 6, 2) := by decide +kernel
theorem d_TX_hexadecimal_105 : decode b_TX_hexadecimal 105 = .ok (.goto (-44), 3) := by decide +kernel
theorem d_TX_hexadecimal_108 : decode b_TX_hexadecimal 108 = .ok (.iload_n 2, 1) := by decide +kernel
theorem d_TX_hexadecimal_109 : decode b_TX_hexadecimal 109 = .ok (.ifCond .eq 26, 3) := by decide +kernel
theorem d_TX_hexadecimal_112 : decode b_TX_hexadecimal 112 = .ok (.iload 5, 2) := by decide +kernel
theorem d_TX_hexadecimal_114 : decode b_TX_hexadecimal 114 = .ok (.ifCond .le 17, 3) := by decide +kernel
theorem d_TX_hexadecimal_117 : decode b_TX_hexadecimal 117 = .ok (.aload_n 0, 1) := by decide +kernel
theorem d_TX_hexadecimal_118 : decode b_TX_hexadecimal 118 = .ok (.iconst 0, 1) := by decide +kernel
theorem d_TX_hexadecimal_119 : decode b_TX_hexadecimal 119 = .ok (.invokevirtual 61, 3) := by decide +kernel
theorem d_TX_hexadecimal_122 : decode b_TX_hexadecimal 122 = .ok (.bipush 125, 2) := by decide +kernel
theorem d_TX_hexadecimal_124 : decode b_TX_hexadecimal 124 = .ok (.if_icmp .ne 7, 3) := by decide +kernel
theorem d_TX_hexadecimal_127 : decode b_TX_hexadecimal 127 = .ok (.iconst 1, 1) := by decide +kernel
theorem d_TX_hexadecimal_128 : decode b_TX_hexadecimal 128 = .ok (.goto 18, 3) := by decide +kernel
theorem d_TX_hexadecimal_131 : decode b_TX_hexadecimal 131 = .ok (.iconst 0, 1) := by decide +kernel
theorem d_TX_hexadecimal_132 : decode b_TX_hexadecimal 132 = .ok (.goto 14, 3) := by decide +kernel
theorem d_TX_hexadecimal_135 : decode b_TX_hexadecimal 135 = .ok (.iload 5, 2) := by decide +kernel
theorem d_TX_hexadecimal_137 : decode b_TX_hexadecimal 137 = .ok (.iconst 2, 1) := by decide +kernel
theorem d_TX_hexadecimal_138 : decode b_TX_hexadecimal 138 = .ok (.if_icmp .ne 7, 3) := by decide +kernel
theorem d_TX_hexadecimal_141 : decode b_TX_hexadecimal 141 = .ok (.iconst 1, 1) := by decide +kernel
theorem d_TX_hexadecimal_142 : decode b_TX_hexadecimal 142 = .ok (.goto 4, 3) := by decide +kernel
theorem d_TX_hexadecimal_145 : decode b_TX_hexadecimal 145 = .ok (.iconst 0, 1) := by decide +kernel
theorem d_TX_hexadecimal_146 : decode b_TX_hexadecimal 146 = .ok (.istore 6, 2) := by decide +kernel
theorem d_TX_hexadecimal_148 : decode b_TX_hexadecimal 148 = .ok (.aload_n 0, 1) := by decide +kernel
theorem d_TX_hexadecimal_149 : decode b_TX_hexadecimal 149 = .ok (.dup, 1) := by decide +kernel
theorem d_TX_hexadecimal_150 : decode b_TX_hexadecimal 150 = .ok (.getfield 43, 3) := by decide +kernel
theorem d_TX_hexadecimal_153 : decode b_TX_hexadecimal 153 = .ok (.iload_n 2, 1) := by decide +kernel
theorem d_TX_hexadecimal_154 : decode b_TX_hexadecimal 154 = .ok (.ifCond .eq 7, 3) := by decide +kernel
theorem d_TX_hexadecimal_157 : decode b_TX_hexadecimal 157 = .ok (.iconst 1, 1) := by decide +kernel
theorem d_TX_hexadecimal_158 : decode b_TX_hexadecimal 158 = .ok (.goto 4, 3) := by decide +kernel
theorem d_TX_hexadecimal_161 : decode b_TX_hexadecimal 161 = .ok (.iconst 0, 1) := by decide +kernel
theorem d_TX_hexadecimal_162 : decode b_TX_hexadecimal 162 = .ok (.iadd, 1) := by decide +kernel
theorem d_TX_hexadecimal_163 : decode b_TX_hexadecimal 163 = .ok (.putfield 43, 3) := by decide +kernel
theorem d_TX_hexadecimal_166 : decode b_TX_hexadecimal 166 = .ok (.iload 6, 2) := by decide +kernel
theorem d_TX_hexadecimal_168 : decode b_TX_hexadecimal 168 = .ok (.ifCond .eq 16, 3) := by decide +kernel
theorem d_TX_hexadecimal_171 : decode b_TX_hexadecimal 171 = .ok (.iload 4, 2) := by decide +kernel
theorem d_TX_hexadecimal_173 : decode b_TX_hexadecimal 173 = .ok (.invokestatic 104, 3) := by decide +kernel
theorem d_TX_hexadecimal_176 : decode b_TX_hexadecimal 176 = .ok (.ifCond .eq 8, 3) := by decide +kernel
theorem d_TX_hexadecimal_179 : decode b_TX_hexadecimal 179 = .ok (.iload 4, 2) := by decide +kernel
theorem d_TX_hexadecimal_181 : decode b_TX_hexadecimal 181 = .ok (.goto 9, 3) := by decide +kernel
theorem d_TX_hexadecimal_184 : decode b_TX_hexadecimal 184 = .ok (.aload_n 0, 1) := by decide +kernel
theorem d_TX_hexadecimal_185 : decode b_TX_hexadecimal 185 = .ok (.iconst 5, 1) := by decide +kernel
theorem d_TX_hexadecimal_186 : decode b_TX_hexadecimal 186 = .ok (.iload_n 1, 1) := by decide +kernel
theorem d_TX_hexadecimal_187 : decode b_TX_hexadecimal 187 = .ok (.invokevirtual 53, 3) := by decide +kernel
theorem d_TX_hexadecimal_190 : decode b_TX_hexadecimal 190 = .ok (.ireturn, 1) := by decide +kernel
theorem d_TX_isAt_0 : decode b_TX_isAt 0 = .ok (.iload_n 1, 1) := by decide +kernel
theorem d_TX_isAt_1 : decode b_TX_isAt 1 = .ok (.aload_n 2, 1) := by decide +kernel
theorem d_TX_isAt_2 : decode b_TX_isAt 2 = .ok (.invokevirtual 177, 3) := by decide +kernel
theorem d_TX_isAt_5 : decode b_TX_isAt 5 = .ok (.iadd, 1) := by decide +kernel
theorem d_TX_isAt_6 : decode b_TX_isAt 6 = .ok (.aload_n 0, 1) := by decide +kernel
theorem d_TX_isAt_7 : decode b_TX_isAt 7 = .ok (.getfield 40, 3) := by decide +kernel
theorem d_TX_isAt_10 : decode b_TX_isAt 10 = .ok (.if_icmp .gt 7, 3) := by decide +kernel
theorem d_TX_isAt_13 : decode b_TX_isAt 13 = .ok (.iconst 1, 1) := by decide +kernel
theorem d_TX_isAt_14 : decode b_TX_isAt 14 = .ok (.goto 4, 3) := by decide +kernel
theorem d_TX_isAt_17 : decode b_TX_isAt 17 = .ok (.iconst 0, 1) := by decide +kernel
theorem d_TX_isAt_18 : decode b_TX_isAt 18 = .ok (.istore_n 3, 1) := by decide +kernel
theorem d_TX_isAt_19 : decode b_TX_isAt 19 = .ok (.iconst 0, 1) := by decide +kernel
theorem d_TX_isAt_20 : decode b_TX_isAt 20 = .ok (.istore 4, 2) := by decide +kernel
theorem d_TX_isAt_22 : decode b_TX_isAt 22 = .ok (.iload 4, 2) := by decide +kernel
theorem d_TX_isAt_24 : decode b_TX_isAt 24 = .ok (.aload_n 2, 1) := by decide +kernel
theorem d_TX_isAt_25 : decode b_TX_isAt 25 = .ok (.invokevirtual 177, 3) := by decide +kernel
theorem d_TX_isAt_28 : decode b_TX_isAt 28 = .ok (.if_icmp .ge 37, 3) := by decide +kernel
theorem d_TX_isAt_31 : decode b_TX_isAt 31 = .ok (.iload_n 3, 1) := by decide +kernel
theorem d_TX_isAt_32 : decode b_TX_isAt 32 = .ok (.ifCond .eq 33, 3) := by decide +kernel
theorem d_TX_isAt_35 : decode b_TX_isAt 35 = .ok (.aload_n 0, 1) := by decide +kernel
theorem d_TX_isAt_36 : decode b_TX_isAt 36 = .ok (.getfield 18, 3) := by decide +kernel
theorem d_TX_isAt_39 : decode b_TX_isAt 39 = .ok (.iload_n 1, 1) := by decide +kernel
theorem d_TX_isAt_40 : decode b_TX_isAt 40 = .ok (.iload 4, 2) := by decide +kernel
theorem d_TX_isAt_42 : decode b_TX_isAt 42 = .ok (.iadd, 1) := by decide +kernel
theorem d_TX_isAt_43 : decode b_TX_isAt 43 = .ok (.iaload, 1) := by decide +kernel
theorem d_TX_isAt_44 : decode b_TX_isAt 44 = .ok (.aload_n 2, 1) := by decide +kernel
theorem d_TX_isAt_45 : decode b_TX_isAt 45 = .ok (.iload 4, 2) := by decide +kernel
theorem d_TX_isAt_47 : decode b_TX_isAt 47 = .ok (.invokevirtual 181, 3) := by decide +kernel
theorem d_TX_isAt_50 : decode b_TX_isAt 50 = .ok (.if_icmp .ne 7, 3) := by decide +kernel
theorem d_TX_isAt_53 : decode b_TX_isAt 53 = .ok (.iconst 1, 1) := by decide +kernel
theorem d_TX_isAt_54 : decode b_TX_isAt 54 = .ok (.goto 4, 3) := by decide +kernel
theorem d_TX_isAt_57 : decode b_TX_isAt 57 = .ok (.iconst 0, 1) := by decide +kernel
theorem d_TX_isAt_58 : decode b_TX_isAt 58 = .ok (.istore_n 3, 1) := by decide +kernel
theorem d_TX_isAt_59 : decode b_TX_isAt 59 = .ok (.iinc 4 1, 3) := by decide +kernel
theorem d_TX_isAt_62 : decode b_TX_isAt 62 = .ok (.goto (-40), 3) := by decide +kernel
theorem d_TX_isAt_65 : decode b_TX_isAt 65 = .ok (.iload_n 3, 1) := by decide +kernel
theorem d_TX_isAt_66 : decode b_TX_isAt 66 = .ok (.ireturn, 1) := by decide +kernel
theorem d_TX_isNamedKind_0 : decode b_TX_isNamedKind 0 = .ok (.aload_n 0, 1) := by decide +kernel
theorem d_TX_isNamedKind_1 : decode b_TX_isNamedKind 1 = .ok (.iconst 0, 1) := by decide +kernel
theorem d_TX_isNamedKind_2 : decode b_TX_isNamedKind 2 = .ok (.invokevirtual 61, 3) := by decide +kernel
theorem d_TX_isNamedKind_5 : decode b_TX_isNamedKind 5 = .ok (.bipush 91, 2) := by decide +kernel
theorem d_TX_isNamedKind_7 : decode b_TX_isNamedKind 7 = .ok (.if_icmp .ne 17, 3) := by decide +kernel
theorem d_TX_isNamedKind_10 : decode b_TX_isNamedKind 10 = .ok (.aload_n 0, 1) := by decide +kernel
theorem d_TX_isNamedKind_11 : decode b_TX_isNamedKind 11 = .ok (.iconst 1, 1) := by decide +kernel
theorem d_TX_isNamedKind_12 : decode b_TX_isNamedKind 12 = .ok (.invokevirtual 61, 3) := by decide +kernel
theorem d_TX_isNamedKind_15 : decode b_TX_isNamedKind 15 = .ok (.bipush 58, 2) := by decide +kernel
theorem d_TX_isNamedKind_17 : decode b_TX_isNamedKind 17 = .ok (.if_icmp .ne 7, 3) := by decide +kernel
theorem d_TX_isNamedKind_20 : decode b_TX_isNamedKind 20 = .ok (.iconst 1, 1) := by decide +kernel
theorem d_TX_isNamedKind_21 : decode b_TX_isNamedKind 21 = .ok (.goto 4, 3) := by decide +kernel
theorem d_TX_isNamedKind_24 : decode b_TX_isNamedKind 24 = .ok (.iconst 0, 1) := by decide +kernel
theorem d_TX_isNamedKind_25 : decode b_TX_isNamedKind 25 = .ok (.ireturn, 1) := by decide +kernel
theorem d_TX_member_0 : decode b_TX_member 0 = .ok (.aload_n 0, 1) := by decide +kernel
theorem d_TX_member_1 : decode b_TX_member 1 = .ok (.getfield 43, 3) := by decide +kernel
theorem d_TX_member_4 : decode b_TX_member 4 = .ok (.aload_n 0, 1) := by decide +kernel
theorem d_TX_member_5 : decode b_TX_member 5 = .ok (.getfield 40, 3) := by decide +kernel
theorem d_TX_member_8 : decode b_TX_member 8 = .ok (.if_icmp .lt 10, 3) := by decide +kernel
theorem d_TX_member_11 : decode b_TX_member 11 = .ok (.aload_n 0, 1) := by decide +kernel
theorem d_TX_member_12 : decode b_TX_member 12 = .ok (.iconst 4, 1) := by decide +kernel
theorem d_TX_member_13 : decode b_TX_member 13 = .ok (.iload_n 1, 1) := by decide +kernel
theorem d_TX_member_14 : decode b_TX_member 14 = .ok (.invokevirtual 53, 3) := by decide +kernel
theorem d_TX_member_17 : decode b_TX_member 17 = .ok (.ireturn, 1) := by decide +kernel
theorem d_TX_member_18 : decode b_TX_member 18 = .ok (.aload_n 0, 1) := by decide +kernel
theorem d_TX_member_19 : decode b_TX_member 19 = .ok (.iconst 0, 1) := by decide +kernel
theorem d_TX_member_20 : decode b_TX_member 20 = .ok (.invokevirtual 61, 3) := by decide +kernel
theorem d_TX_member_23 : decode b_TX_member 23 = .ok (.bipush 92, 2) := by decide +kernel
theorem d_TX_member_25 : decode b_TX_member 25 = .ok (.if_icmp .eq 8, 3) := by decide +kernel
theorem d_TX_member_28 : decode b_TX_member 28 = .ok (.aload_n 0, 1) := by decide +kernel
theorem d_TX_member_29 : decode b_TX_member 29 = .ok (.invokevirtual 136, 3) := by decide +kernel
theorem d_TX_member_32 : decode b_TX_member 32 = .ok (.ireturn, 1) := by decide +kernel
theorem d_TX_member_33 : decode b_TX_member 33 = .ok (.aload_n 0, 1) := by decide +kernel
theorem d_TX_member_34 : decode b_TX_member 34 = .ok (.getfield 43, 3) := by decide +kernel
theorem d_TX_member_37 : decode b_TX_member 37 = .ok (.istore_n 2, 1) := by decide +kernel
theorem d_TX_member_38 : decode b_TX_member 38 = .ok (.aload_n 0, 1) := by decide +kernel
theorem d_TX_member_39 : decode b_TX_member 39 = .ok (.invokevirtual 139, 3) := by decide +kernel
theorem d_TX_member_42 : decode b_TX_member 42 = .ok (.istore_n 3, 1) := by decide +kernel
theorem d_TX_member_43 : decode b_TX_member 43 = .ok (.iload_n 3, 1) := by decide +kernel
theorem d_TX_member_44 : decode b_TX_member 44 = .ok (.bipush (-2), 2) := by decide +kernel
theorem d_TX_member_46 : decode b_TX_member 46 = .ok (.if_icmp .ge 12, 3) := by decide +kernel
theorem d_TX_member_49 : decode b_TX_member 49 = .ok (.aload_n 0, 1) := by decide +kernel
theorem d_TX_member_50 : decode b_TX_member 50 = .ok (.iconst 5, 1) := by decide +kernel
theorem d_TX_member_51 : decode b_TX_member 51 = .ok (.iload_n 2, 1) := by decide +kernel
theorem d_TX_member_52 : decode b_TX_member 52 = .ok (.invokevirtual 53, 3) := by decide +kernel
theorem d_TX_member_55 : decode b_TX_member 55 = .ok (.goto 4, 3) := by decide +kernel
theorem d_TX_member_58 : decode b_TX_member 58 = .ok (.iload_n 3, 1) := by decide +kernel
theorem d_TX_member_59 : decode b_TX_member 59 = .ok (.ireturn, 1) := by decide +kernel
theorem d_TX_namedKind_0 : decode b_TX_namedKind 0 = .ok (.aload_n 0, 1) := by decide +kernel
theorem d_TX_namedKind_1 : decode b_TX_namedKind 1 = .ok (.getfield 43, 3) := by decide +kernel
theorem d_TX_namedKind_4 : decode b_TX_namedKind 4 = .ok (.istore_n 1, 1) := by decide +kernel
theorem d_TX_namedKind_5 : decode b_TX_namedKind 5 = .ok (.aload_n 0, 1) := by decide +kernel
theorem d_TX_namedKind_6 : decode b_TX_namedKind 6 = .ok (.iconst 2, 1) := by decide +kernel
theorem d_TX_namedKind_7 : decode b_TX_namedKind 7 = .ok (.invokevirtual 61, 3) := by decide +kernel
theorem d_TX_namedKind_10 : decode b_TX_namedKind 10 = .ok (.bipush 94, 2) := by decide +kernel
theorem d_TX_namedKind_12 : decode b_TX_namedKind 12 = .ok (.if_icmp .ne 7, 3) := by decide +kernel
theorem d_TX_namedKind_15 : decode b_TX_namedKind 15 = .ok (.iconst 1, 1) := by decide +kernel
theorem d_TX_namedKind_16 : decode b_TX_namedKind 16 = .ok (.goto 4, 3) := by decide +kernel
theorem d_TX_namedKind_19 : decode b_TX_namedKind 19 = .ok (.iconst 0, 1) := by decide +kernel
theorem d_TX_namedKind_20 : decode b_TX_namedKind 20 = .ok (.istore_n 2, 1) := by decide +kernel
theorem d_TX_namedKind_21 : decode b_TX_namedKind 21 = .ok (.iload_n 1, 1) := by decide +kernel
theorem d_TX_namedKind_22 : decode b_TX_namedKind 22 = .ok (.iload_n 2, 1) := by decide +kernel
theorem d_TX_namedKind_23 : decode b_TX_namedKind 23 = .ok (.ifCond .eq 7, 3) := by decide +kernel
theorem d_TX_namedKind_26 : decode b_TX_namedKind 26 = .ok (.iconst 3, 1) := by decide +kernel
theorem d_TX_namedKind_27 : decode b_TX_namedKind 27 = .ok (.goto 4, 3) := by decide +kernel
theorem d_TX_namedKind_30 : decode b_TX_namedKind 30 = .ok (.iconst 2, 1) := by decide +kernel
theorem d_TX_namedKind_31 : decode b_TX_namedKind 31 = .ok (.iadd, 1) := by decide +kernel
theorem d_TX_namedKind_32 : decode b_TX_namedKind 32 = .ok (.istore_n 3, 1) := by decide +kernel
theorem d_TX_namedKind_33 : decode b_TX_namedKind 33 = .ok (.aload_n 0, 1) := by decide +kernel
theorem d_TX_namedKind_34 : decode b_TX_namedKind 34 = .ok (.iload_n 3, 1) := by decide +kernel
theorem d_TX_namedKind_35 : decode b_TX_namedKind 35 = .ok (.invokevirtual 142, 3) := by decide +kernel
theorem d_TX_namedKind_38 : decode b_TX_namedKind 38 = .ok (.astore 4, 2) := by decide +kernel
theorem d_TX_namedKind_40 : decode b_TX_namedKind 40 = .ok (.aload_n 0, 1) := by decide +kernel
theorem d_TX_namedKind_41 : decode b_TX_namedKind 41 = .ok (.iload_n 3, 1) := by decide +kernel
theorem d_TX_namedKind_42 : decode b_TX_namedKind 42 = .ok (.bipush 7, 2) := by decide +kernel
theorem d_TX_namedKind_44 : decode b_TX_namedKind 44 = .ok (.iadd, 1) := by decide +kernel
theorem d_TX_namedKind_45 : decode b_TX_namedKind 45 = .ok (.putfield 43, 3) := by decide +kernel
theorem d_TX_namedKind_48 : decode b_TX_namedKind 48 = .ok (.aload 4, 2) := by decide +kernel
theorem d_TX_namedKind_50 : decode b_TX_namedKind 50 = .ok (.ifnonnull 13, 3) := by decide +kernel
theorem d_TX_namedKind_53 : decode b_TX_namedKind 53 = .ok (.aload_n 0, 1) := by decide +kernel
theorem d_TX_namedKind_54 : decode b_TX_namedKind 54 = .ok (.bipush 7, 2) := by decide +kernel
theorem d_TX_namedKind_56 : decode b_TX_namedKind 56 = .ok (.iload_n 1, 1) := by decide +kernel
theorem d_TX_namedKind_57 : decode b_TX_namedKind 57 = .ok (.invokevirtual 53, 3) := by decide +kernel
theorem d_TX_namedKind_60 : decode b_TX_namedKind 60 = .ok (.goto 10, 3) := by decide +kernel
theorem d_TX_namedKind_63 : decode b_TX_namedKind 63 = .ok (.aload_n 0, 1) := by decide +kernel
theorem d_TX_namedKind_64 : decode b_TX_namedKind 64 = .ok (.aload 4, 2) := by decide +kernel
theorem d_TX_namedKind_66 : decode b_TX_namedKind 66 = .ok (.iload_n 2, 1) := by decide +kernel
theorem d_TX_namedKind_67 : decode b_TX_namedKind 67 = .ok (.invokevirtual 67, 3) := by decide +kernel
theorem d_TX_namedKind_70 : decode b_TX_namedKind 70 = .ok (.ireturn, 1) := by decide +kernel
theorem d_TX_peek_0 : decode b_TX_peek 0 = .ok (.aload_n 0, 1) := by decide +kernel
theorem d_TX_peek_1 : decode b_TX_peek 1 = .ok (.getfield 43, 3) := by decide +kernel
theorem d_TX_peek_4 : decode b_TX_peek 4 = .ok (.iload_n 1, 1) := by decide +kernel
theorem d_TX_peek_5 : decode b_TX_peek 5 = .ok (.iadd, 1) := by decide +kernel
theorem d_TX_peek_6 : decode b_TX_peek 6 = .ok (.istore_n 2, 1) := by decide +kernel
theorem d_TX_peek_7 : decode b_TX_peek 7 = .ok (.iload_n 2, 1) := by decide +kernel
theorem d_TX_peek_8 : decode b_TX_peek 8 = .ok (.ifCond .lt 20, 3) := by decide +kernel
theorem d_TX_peek_11 : decode b_TX_peek 11 = .ok (.iload_n 2, 1) := by decide +kernel
theorem d_TX_peek_12 : decode b_TX_peek 12 = .ok (.aload_n 0, 1) := by decide +kernel
theorem d_TX_peek_13 : decode b_TX_peek 13 = .ok (.getfield 40, 3) := by decide +kernel
theorem d_TX_peek_16 : decode b_TX_peek 16 = .ok (.if_icmp .ge 12, 3) := by decide +kernel
theorem d_TX_peek_19 : decode b_TX_peek 19 = .ok (.aload_n 0, 1) := by decide +kernel
theorem d_TX_peek_20 : decode b_TX_peek 20 = .ok (.getfield 18, 3) := by decide +kernel
theorem d_TX_peek_23 : decode b_TX_peek 23 = .ok (.iload_n 2, 1) := by decide +kernel
theorem d_TX_peek_24 : decode b_TX_peek 24 = .ok (.iaload, 1) := by decide +kernel
theorem d_TX_peek_25 : decode b_TX_peek 25 = .ok (.goto 4, 3) := by decide +kernel
theorem d_TX_peek_28 : decode b_TX_peek 28 = .ok (.iconst (-1), 1) := by decide +kernel
theorem d_TX_peek_29 : decode b_TX_peek 29 = .ok (.ireturn, 1) := by decide +kernel
theorem d_TX_property_0 : decode b_TX_property 0 = .ok (.aload_n 0, 1) := by decide +kernel
theorem d_TX_property_1 : decode b_TX_property 1 = .ok (.iconst 0, 1) := by decide +kernel
theorem d_TX_property_2 : decode b_TX_property 2 = .ok (.invokevirtual 61, 3) := by decide +kernel
theorem d_TX_property_5 : decode b_TX_property 5 = .ok (.istore_n 3, 1) := by decide +kernel
theorem d_TX_property_6 : decode b_TX_property 6 = .ok (.aload_n 0, 1) := by decide +kernel
theorem d_TX_property_7 : decode b_TX_property 7 = .ok (.dup, 1) := by decide +kernel
theorem d_TX_property_8 : decode b_TX_property 8 = .ok (.getfield 43, 3) := by decide +kernel
theorem d_TX_property_11 : decode b_TX_property 11 = .ok (.iconst 1, 1) := by decide +kernel
theorem d_TX_property_12 : decode b_TX_property 12 = .ok (.iadd, 1) := by decide +kernel
theorem d_TX_property_13 : decode b_TX_property 13 = .ok (.putfield 43, 3) := by decide +kernel
theorem d_TX_property_16 : decode b_TX_property 16 = .ok (.iload_n 3, 1) := by decide +kernel
theorem d_TX_property_17 : decode b_TX_property 17 = .ok (.lookupswitch 79 #[(71, 61), (76, 43), (78, 52), (89, 70)], 43) := by decide +kernel
theorem d_TX_property_60 : decode b_TX_property 60 = .ok (.aload_n 0, 1) := by decide +kernel
theorem d_TX_property_61 : decode b_TX_property 61 = .ok (.getstatic 89, 3) := by decide +kernel
theorem d_TX_property_64 : decode b_TX_property 64 = .ok (.iload_n 2, 1) := by decide +kernel
theorem d_TX_property_65 : decode b_TX_property 65 = .ok (.invokevirtual 67, 3) := by decide +kernel
theorem d_TX_property_68 : decode b_TX_property 68 = .ok (.ireturn, 1) := by decide +kernel
theorem d_TX_property_69 : decode b_TX_property 69 = .ok (.aload_n 0, 1) := by decide +kernel
theorem d_TX_property_70 : decode b_TX_property 70 = .ok (.getstatic 92, 3) := by decide +kernel
theorem d_TX_property_73 : decode b_TX_property 73 = .ok (.iload_n 2, 1) := by decide +kernel
theorem d_TX_property_74 : decode b_TX_property 74 = .ok (.invokevirtual 67, 3) := by decide +kernel
theorem d_TX_property_77 : decode b_TX_property 77 = .ok (.ireturn, 1) := by decide +kernel
theorem d_TX_property_78 : decode b_TX_property 78 = .ok (.aload_n 0, 1) := by decide +kernel
theorem d_TX_property_79 : decode b_TX_property 79 = .ok (.getstatic 95, 3) := by decide +kernel
theorem d_TX_property_82 : decode b_TX_property 82 = .ok (.iload_n 2, 1) := by decide +kernel
theorem d_TX_property_83 : decode b_TX_property 83 = .ok (.invokevirtual 67, 3) := by decide +kernel
theorem d_TX_property_86 : decode b_TX_property 86 = .ok (.ireturn, 1) := by decide +kernel
theorem d_TX_property_87 : decode b_TX_property 87 = .ok (.aload_n 0, 1) := by decide +kernel
theorem d_TX_property_88 : decode b_TX_property 88 = .ok (.getstatic 98, 3) := by decide +kernel
theorem d_TX_property_91 : decode b_TX_property 91 = .ok (.iload_n 2, 1) := by decide +kernel
theorem d_TX_property_92 : decode b_TX_property 92 = .ok (.invokevirtual 67, 3) := by decide +kernel
theorem d_TX_property_95 : decode b_TX_property 95 = .ok (.ireturn, 1) := by decide +kernel
theorem d_TX_property_96 : decode b_TX_property 96 = .ok (.aload_n 0, 1) := by decide +kernel
theorem d_TX_property_97 : decode b_TX_property 97 = .ok (.iload_n 3, 1) := by decide +kernel
theorem d_TX_property_98 : decode b_TX_property 98 = .ok (.iconst (-1), 1) := by decide +kernel
theorem d_TX_property_99 : decode b_TX_property 99 = .ok (.if_icmp .ne 7, 3) := by decide +kernel
theorem d_TX_property_102 : decode b_TX_property 102 = .ok (.iconst 5, 1) := by decide +kernel
theorem d_TX_property_103 : decode b_TX_property 103 = .ok (.goto 5, 3) := by decide +kernel
theorem d_TX_property_106 : decode b_TX_property 106 = .ok (.bipush 7, 2) := by decide +kernel
theorem d_TX_property_108 : decode b_TX_property 108 = .ok (.iload_n 1, 1) := by decide +kernel
theorem d_TX_property_109 : decode b_TX_property 109 = .ok (.invokevirtual 53, 3) := by decide +kernel
theorem d_TX_property_112 : decode b_TX_property 112 = .ok (.ireturn, 1) := by decide +kernel
theorem d_TX_rangesNamed_0 : decode b_TX_rangesNamed 0 = .ok (.aload_n 0, 1) := by decide +kernel
theorem d_TX_rangesNamed_1 : decode b_TX_rangesNamed 1 = .ok (.iload_n 1, 1) := by decide +kernel
theorem d_TX_rangesNamed_2 : decode b_TX_rangesNamed 2 = .ok (.ldc 146, 2) := by decide +kernel
theorem d_TX_rangesNamed_4 : decode b_TX_rangesNamed 4 = .ok (.invokevirtual 148, 3) := by decide +kernel
theorem d_TX_rangesNamed_7 : decode b_TX_rangesNamed 7 = .ok (.ifCond .eq 7, 3) := by decide +kernel
theorem d_TX_rangesNamed_10 : decode b_TX_rangesNamed 10 = .ok (.getstatic 26, 3) := by decide +kernel
theorem d_TX_rangesNamed_13 : decode b_TX_rangesNamed 13 = .ok (.areturn, 1) := by decide +kernel
theorem d_TX_rangesNamed_14 : decode b_TX_rangesNamed 14 = .ok (.aload_n 0, 1) := by decide +kernel
theorem d_TX_rangesNamed_15 : decode b_TX_rangesNamed 15 = .ok (.iload_n 1, 1) := by decide +kernel
theorem d_TX_rangesNamed_16 : decode b_TX_rangesNamed 16 = .ok (.ldc 152, 2) := by decide +kernel
theorem d_TX_rangesNamed_18 : decode b_TX_rangesNamed 18 = .ok (.invokevirtual 148, 3) := by decide +kernel
theorem d_TX_rangesNamed_21 : decode b_TX_rangesNamed 21 = .ok (.ifCond .eq 7, 3) := by decide +kernel
theorem d_TX_rangesNamed_24 : decode b_TX_rangesNamed 24 = .ok (.getstatic 154, 3) := by decide +kernel
theorem d_TX_rangesNamed_27 : decode b_TX_rangesNamed 27 = .ok (.areturn, 1) := by decide +kernel
theorem d_TX_rangesNamed_28 : decode b_TX_rangesNamed 28 = .ok (.aload_n 0, 1) := by decide +kernel
theorem d_TX_rangesNamed_29 : decode b_TX_rangesNamed 29 = .ok (.iload_n 1, 1) := by decide +kernel
theorem d_TX_rangesNamed_30 : decode b_TX_rangesNamed 30 = .ok (.ldc 157, 2) := by decide +kernel
theorem d_TX_rangesNamed_32 : decode b_TX_rangesNamed 32 = .ok (.invokevirtual 148, 3) := by decide +kernel
theorem d_TX_rangesNamed_35 : decode b_TX_rangesNamed 35 = .ok (.ifCond .eq 7, 3) := by decide +kernel
theorem d_TX_rangesNamed_38 : decode b_TX_rangesNamed 38 = .ok (.getstatic 159, 3) := by decide +kernel
theorem d_TX_rangesNamed_41 : decode b_TX_rangesNamed 41 = .ok (.areturn, 1) := by decide +kernel
theorem d_TX_rangesNamed_42 : decode b_TX_rangesNamed 42 = .ok (.aload_n 0, 1) := by decide +kernel
theorem d_TX_rangesNamed_43 : decode b_TX_rangesNamed 43 = .ok (.iload_n 1, 1) := by decide +kernel
theorem d_TX_rangesNamed_44 : decode b_TX_rangesNamed 44 = .ok (.ldc 162, 2) := by decide +kernel
theorem d_TX_rangesNamed_46 : decode b_TX_rangesNamed 46 = .ok (.invokevirtual 148, 3) := by decide +kernel
theorem d_TX_rangesNamed_49 : decode b_TX_rangesNamed 49 = .ok (.ifCond .eq 7, 3) := by decide +kernel
theorem d_TX_rangesNamed_52 : decode b_TX_rangesNamed 52 = .ok (.getstatic 164, 3) := by decide +kernel
theorem d_TX_rangesNamed_55 : decode b_TX_rangesNamed 55 = .ok (.areturn, 1) := by decide +kernel
theorem d_TX_rangesNamed_56 : decode b_TX_rangesNamed 56 = .ok (.aload_n 0, 1) := by decide +kernel
theorem d_TX_rangesNamed_57 : decode b_TX_rangesNamed 57 = .ok (.iload_n 1, 1) := by decide +kernel
theorem d_TX_rangesNamed_58 : decode b_TX_rangesNamed 58 = .ok (.ldc 167, 2) := by decide +kernel
theorem d_TX_rangesNamed_60 : decode b_TX_rangesNamed 60 = .ok (.invokevirtual 148, 3) := by decide +kernel
theorem d_TX_rangesNamed_63 : decode b_TX_rangesNamed 63 = .ok (.ifCond .eq 7, 3) := by decide +kernel
theorem d_TX_rangesNamed_66 : decode b_TX_rangesNamed 66 = .ok (.getstatic 169, 3) := by decide +kernel
theorem d_TX_rangesNamed_69 : decode b_TX_rangesNamed 69 = .ok (.areturn, 1) := by decide +kernel
theorem d_TX_rangesNamed_70 : decode b_TX_rangesNamed 70 = .ok (.aload_n 0, 1) := by decide +kernel
theorem d_TX_rangesNamed_71 : decode b_TX_rangesNamed 71 = .ok (.iload_n 1, 1) := by decide +kernel
theorem d_TX_rangesNamed_72 : decode b_TX_rangesNamed 72 = .ok (.ldc 172, 2) := by decide +kernel
theorem d_TX_rangesNamed_74 : decode b_TX_rangesNamed 74 = .ok (.invokevirtual 148, 3) := by decide +kernel
theorem d_TX_rangesNamed_77 : decode b_TX_rangesNamed 77 = .ok (.ifCond .eq 9, 3) := by decide +kernel
theorem d_TX_rangesNamed_80 : decode b_TX_rangesNamed 80 = .ok (.getstatic 174, 3) := by decide +kernel
theorem d_TX_rangesNamed_83 : decode b_TX_rangesNamed 83 = .ok (.goto 4, 3) := by decide +kernel
theorem d_TX_rangesNamed_86 : decode b_TX_rangesNamed 86 = .ok (.aconst_null, 1) := by decide +kernel
theorem d_TX_rangesNamed_87 : decode b_TX_rangesNamed 87 = .ok (.areturn, 1) := by decide +kernel
