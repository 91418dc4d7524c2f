theorem d_PW_widthOf_17 : decode b_PW_widthOf 17 = .ok (.ireturn, 1) := by decide +kernel
theorem d_PW_widthOf_18 : decode b_PW_widthOf 18 = .ok (.iload_n 0, 1) := by decide +kernel
theorem d_PW_widthOf_19 : decode b_PW_widthOf 19 = .ok (.ldc_w 278, 3) := by decide +kernel
theorem d_PW_widthOf_22 : decode b_PW_widthOf 22 = .ok (.if_icmp .ge 7, 3) := by decide +kernel
theorem d_PW_widthOf_25 : decode b_PW_widthOf 25 = .ok (.iconst 3, 1) := by decide +kernel
theorem d_PW_widthOf_26 : decode b_PW_widthOf 26 = .ok (.goto 4, 3) := by decide +kernel
theorem d_PW_widthOf_29 : decode b_PW_widthOf 29 = .ok (.iconst 4, 1) := by decide +kernel
theorem d_PW_widthOf_30 : decode b_PW_widthOf 30 = .ok (.ireturn, 1) := by decide +kernel
theorem d_RW_add_0 : decode b_RW_add 0 = .ok (.aload_n 0, 1) := by decide +kernel
theorem d_RW_add_1 : decode b_RW_add 1 = .ok (.iconst 1, 1) := by decide +kernel
theorem d_RW_add_2 : decode b_RW_add 2 = .ok (.invokevirtual 22, 3) := by decide +kernel
theorem d_RW_add_5 : decode b_RW_add 5 = .ok (.ifCond .ne 5, 3) := by decide +kernel
theorem d_RW_add_8 : decode b_RW_add 8 = .ok (.iconst 0, 1) := by decide +kernel
theorem d_RW_add_9 : decode b_RW_add 9 = .ok (.ireturn, 1) := by decide +kernel
theorem d_RW_add_10 : decode b_RW_add 10 = .ok (.aload_n 0, 1) := by decide +kernel
theorem d_RW_add_11 : decode b_RW_add 11 = .ok (.getfield 9, 3) := by decide +kernel
theorem d_RW_add_14 : decode b_RW_add 14 = .ok (.aload_n 0, 1) := by decide +kernel
theorem d_RW_add_15 : decode b_RW_add 15 = .ok (.getfield 19, 3) := by decide +kernel
theorem d_RW_add_18 : decode b_RW_add 18 = .ok (.iload_n 1, 1) := by decide +kernel
theorem d_RW_add_19 : decode b_RW_add 19 = .ok (.iastore, 1) := by decide +kernel
theorem d_RW_add_20 : decode b_RW_add 20 = .ok (.aload_n 0, 1) := by decide +kernel
theorem d_RW_add_21 : decode b_RW_add 21 = .ok (.dup, 1) := by decide +kernel
theorem d_RW_add_22 : decode b_RW_add 22 = .ok (.getfield 19, 3) := by decide +kernel
theorem d_RW_add_25 : decode b_RW_add 25 = .ok (.iconst 1, 1) := by decide +kernel
theorem d_RW_add_26 : decode b_RW_add 26 = .ok (.iadd, 1) := by decide +kernel
theorem d_RW_add_27 : decode b_RW_add 27 = .ok (.putfield 19, 3) := by decide +kernel
theorem d_RW_add_30 : decode b_RW_add 30 = .ok (.iconst 1, 1) := by decide +kernel
theorem d_RW_add_31 : decode b_RW_add 31 = .ok (.ireturn, 1) := by decide +kernel
theorem d_TX_begin_0 : decode b_TX_begin 0 = .ok (.aload_n 0, 1) := by decide +kernel
theorem d_TX_begin_1 : decode b_TX_begin 1 = .ok (.aload_n 1, 1) := by decide +kernel
theorem d_TX_begin_2 : decode b_TX_begin 2 = .ok (.getfield 32, 3) := by decide +kernel
theorem d_TX_begin_5 : decode b_TX_begin 5 = .ok (.putfield 18, 3) := by decide +kernel
theorem d_TX_begin_8 : decode b_TX_begin 8 = .ok (.aload_n 0, 1) := by decide +kernel
theorem d_TX_begin_9 : decode b_TX_begin 9 = .ok (.aload_n 1, 1) := by decide +kernel
theorem d_TX_begin_10 : decode b_TX_begin 10 = .ok (.getfield 37, 3) := by decide +kernel
theorem d_TX_begin_13 : decode b_TX_begin 13 = .ok (.putfield 40, 3) := by decide +kernel
theorem d_TX_begin_16 : decode b_TX_begin 16 = .ok (.aload_n 0, 1) := by decide +kernel
theorem d_TX_begin_17 : decode b_TX_begin 17 = .ok (.iconst 0, 1) := by decide +kernel
theorem d_TX_begin_18 : decode b_TX_begin 18 = .ok (.putfield 43, 3) := by decide +kernel
theorem d_TX_begin_21 : decode b_TX_begin 21 = .ok (.aload_n 0, 1) := by decide +kernel
theorem d_TX_begin_22 : decode b_TX_begin 22 = .ok (.iconst 0, 1) := by decide +kernel
theorem d_TX_begin_23 : decode b_TX_begin 23 = .ok (.putfield 46, 3) := by decide +kernel
theorem d_TX_begin_26 : decode b_TX_begin 26 = .ok (.aload_n 0, 1) := by decide +kernel
theorem d_TX_begin_27 : decode b_TX_begin 27 = .ok (.iconst (-1), 1) := by decide +kernel
theorem d_TX_begin_28 : decode b_TX_begin 28 = .ok (.putfield 22, 3) := by decide +kernel
theorem d_TX_begin_31 : decode b_TX_begin 31 = .ok (.return_, 1) := by decide +kernel
theorem d_TX_character_0 : decode b_TX_character 0 = .ok (.aload_n 0, 1) := by decide +kernel
theorem d_TX_character_1 : decode b_TX_character 1 = .ok (.getfield 18, 3) := by decide +kernel
theorem d_TX_character_4 : decode b_TX_character 4 = .ok (.aload_n 0, 1) := by decide +kernel
theorem d_TX_character_5 : decode b_TX_character 5 = .ok (.getfield 43, 3) := by decide +kernel
theorem d_TX_character_8 : decode b_TX_character 8 = .ok (.aload_n 0, 1) := by decide +kernel
theorem d_TX_character_9 : decode b_TX_character 9 = .ok (.getfield 40, 3) := by decide +kernel
theorem d_TX_character_12 : decode b_TX_character 12 = .ok (.invokestatic 49, 3) := by decide +kernel
theorem d_TX_character_15 : decode b_TX_character 15 = .ok (.istore_n 1, 1) := by decide +kernel
theorem d_TX_character_16 : decode b_TX_character 16 = .ok (.iload_n 1, 1) := by decide +kernel
theorem d_TX_character_17 : decode b_TX_character 17 = .ok (.iconst (-1), 1) := by decide +kernel
theorem d_TX_character_18 : decode b_TX_character 18 = .ok (.if_icmp .ne 13, 3) := by decide +kernel
theorem d_TX_character_21 : decode b_TX_character 21 = .ok (.aload_n 0, 1) := by decide +kernel
theorem d_TX_character_22 : decode b_TX_character 22 = .ok (.iconst 1, 1) := by decide +kernel
theorem d_TX_character_23 : decode b_TX_character 23 = .ok (.aload_n 0, 1) := by decide +kernel
theorem d_TX_character_24 : decode b_TX_character 24 = .ok (.getfield 43, 3) := by decide +kernel
theorem d_TX_character_27 : decode b_TX_character 27 = .ok (.invokevirtual 53, 3) := by decide +kernel
theorem d_TX_character_30 : decode b_TX_character 30 = .ok (.ireturn, 1) := by decide +kernel
theorem d_TX_character_31 : decode b_TX_character 31 = .ok (.aload_n 0, 1) := by decide +kernel
theorem d_TX_character_32 : decode b_TX_character 32 = .ok (.dup, 1) := by decide +kernel
theorem d_TX_character_33 : decode b_TX_character 33 = .ok (.getfield 43, 3) := by decide +kernel
theorem d_TX_character_36 : decode b_TX_character 36 = .ok (.iload_n 1, 1) := by decide +kernel
theorem d_TX_character_37 : decode b_TX_character 37 = .ok (.invokestatic 57, 3) := by decide +kernel
theorem d_TX_character_40 : decode b_TX_character 40 = .ok (.iadd, 1) := by decide +kernel
theorem d_TX_character_41 : decode b_TX_character 41 = .ok (.putfield 43, 3) := by decide +kernel
theorem d_TX_character_44 : decode b_TX_character 44 = .ok (.iload_n 1, 1) := by decide +kernel
theorem d_TX_character_45 : decode b_TX_character 45 = .ok (.ireturn, 1) := by decide +kernel
theorem d_TX_fail_0 : decode b_TX_fail 0 = .ok (.aload_n 0, 1) := by decide +kernel
theorem d_TX_fail_1 : decode b_TX_fail 1 = .ok (.getfield 46, 3) := by decide +kernel
theorem d_TX_fail_4 : decode b_TX_fail 4 = .ok (.ifCond .ne 13, 3) := by decide +kernel
theorem d_TX_fail_7 : decode b_TX_fail 7 = .ok (.aload_n 0, 1) := by decide +kernel
theorem d_TX_fail_8 : decode b_TX_fail 8 = .ok (.iload_n 1, 1) := by decide +kernel
theorem d_TX_fail_9 : decode b_TX_fail 9 = .ok (.putfield 46, 3) := by decide +kernel
theorem d_TX_fail_12 : decode b_TX_fail 12 = .ok (.aload_n 0, 1) := by decide +kernel
theorem d_TX_fail_13 : decode b_TX_fail 13 = .ok (.iload_n 2, 1) := by decide +kernel
theorem d_TX_fail_14 : decode b_TX_fail 14 = .ok (.putfield 22, 3) := by decide +kernel
theorem d_TX_fail_17 : decode b_TX_fail 17 = .ok (.iconst (-1), 1) := by decide +kernel
theorem d_TX_fail_18 : decode b_TX_fail 18 = .ok (.ireturn, 1) := by decide +kernel
theorem d_TX_peek_0 : decode b_TX_peek 0 = .ok (.aload_n 0, 1) := by decide +kernel
theorem d_TX_peek_1 : decode b_TX_peek 1 = .ok (.getfield 43, 3) := by decide +kernel
theorem d_TX_peek_4 : decode b_TX_peek 4 = .ok (.iload_n 1, 1) := by decide +kernel
theorem d_TX_peek_5 : decode b_TX_peek 5 = .ok (.iadd, 1) := by decide +kernel
theorem d_TX_peek_6 : decode b_TX_peek 6 = .ok (.istore_n 2, 1) := by decide +kernel
theorem d_TX_peek_7 : decode b_TX_peek 7 = .ok (.iload_n 2, 1) := by decide +kernel
theorem d_TX_peek_8 : decode b_TX_peek 8 = .ok (.ifCond .lt 20, 3) := by decide +kernel
theorem d_TX_peek_11 : decode b_TX_peek 11 = .ok (.iload_n 2, 1) := by decide +kernel
theorem d_TX_peek_12 : decode b_TX_peek 12 = .ok (.aload_n 0, 1) := by decide +kernel
theorem d_TX_peek_13 : decode b_TX_peek 13 = .ok (.getfield 40, 3) := by decide +kernel
theorem d_TX_peek_16 : decode b_TX_peek 16 = .ok (.if_icmp .ge 12, 3) := by decide +kernel
theorem d_TX_peek_19 : decode b_TX_peek 19 = .ok (.aload_n 0, 1) := by decide +kernel
theorem d_TX_peek_20 : decode b_TX_peek 20 = .ok (.getfield 18, 3) := by decide +kernel
theorem d_TX_peek_23 : decode b_TX_peek 23 = .ok (.iload_n 2, 1) := by decide +kernel
theorem d_TX_peek_24 : decode b_TX_peek 24 = .ok (.iaload, 1) := by decide +kernel
theorem d_TX_peek_25 : decode b_TX_peek 25 = .ok (.goto 4, 3) := by decide +kernel
theorem d_TX_peek_28 : decode b_TX_peek 28 = .ok (.iconst (-1), 1) := by decide +kernel
theorem d_TX_peek_29 : decode b_TX_peek 29 = .ok (.ireturn, 1) := by decide +kernel
