theorem d_LA_compile_0 : decode b_LA_compile 0 = .ok (.aload_n 3, 1) := by decide +kernel
theorem d_LA_compile_1 : decode b_LA_compile 1 = .ok (.iconst 0, 1) := by decide +kernel
theorem d_LA_compile_2 : decode b_LA_compile 2 = .ok (.aload_n 0, 1) := by decide +kernel
theorem d_LA_compile_3 : decode b_LA_compile 3 = .ok (.iload_n 1, 1) := by decide +kernel
theorem d_LA_compile_4 : decode b_LA_compile 4 = .ok (.iload_n 2, 1) := by decide +kernel
theorem d_LA_compile_5 : decode b_LA_compile 5 = .ok (.invokevirtual 7, 3) := by decide +kernel
theorem d_LA_compile_8 : decode b_LA_compile 8 = .ok (.i2l, 1) := by decide +kernel
theorem d_LA_compile_9 : decode b_LA_compile 9 = .ok (.lastore, 1) := by decide +kernel
theorem d_LA_compile_10 : decode b_LA_compile 10 = .ok (.goto 7, 3) := by decide +kernel
theorem d_LA_compile_13 : decode b_LA_compile 13 = .ok (.astore 4, 2) := by decide +kernel
theorem d_LA_compile_15 : decode b_LA_compile 15 = .ok (.iconst 1, 1) := by decide +kernel
theorem d_LA_compile_16 : decode b_LA_compile 16 = .ok (.ireturn, 1) := by decide +kernel
theorem d_LA_compile_17 : decode b_LA_compile 17 = .ok (.iconst 0, 1) := by decide +kernel
theorem d_LA_compile_18 : decode b_LA_compile 18 = .ok (.ireturn, 1) := by decide +kernel
theorem d_LA_match_0 : decode b_LA_match 0 = .ok (.aload 5, 2) := by decide +kernel
theorem d_LA_match_2 : decode b_LA_match 2 = .ok (.iconst 0, 1) := by decide +kernel
theorem d_LA_match_3 : decode b_LA_match 3 = .ok (.aload_n 0, 1) := by decide +kernel
theorem d_LA_match_4 : decode b_LA_match 4 = .ok (.iload_n 1, 1) := by decide +kernel
theorem d_LA_match_5 : decode b_LA_match 5 = .ok (.iload_n 2, 1) := by decide +kernel
theorem d_LA_match_6 : decode b_LA_match 6 = .ok (.iload_n 3, 1) := by decide +kernel
theorem d_LA_match_7 : decode b_LA_match 7 = .ok (.iload 4, 2) := by decide +kernel
theorem d_LA_match_9 : decode b_LA_match 9 = .ok (.invokevirtual 15, 3) := by decide +kernel
theorem d_LA_match_12 : decode b_LA_match 12 = .ok (.i2l, 1) := by decide +kernel
theorem d_LA_match_13 : decode b_LA_match 13 = .ok (.lastore, 1) := by decide +kernel
theorem d_LA_match_14 : decode b_LA_match 14 = .ok (.goto 7, 3) := by decide +kernel
theorem d_LA_match_17 : decode b_LA_match 17 = .ok (.astore 6, 2) := by decide +kernel
theorem d_LA_match_19 : decode b_LA_match 19 = .ok (.iconst 1, 1) := by decide +kernel
theorem d_LA_match_20 : decode b_LA_match 20 = .ok (.ireturn, 1) := by decide +kernel
theorem d_LA_match_21 : decode b_LA_match 21 = .ok (.iconst 0, 1) := by decide +kernel
theorem d_LA_match_22 : decode b_LA_match 22 = .ok (.ireturn, 1) := by decide +kernel
theorem d_LA_all_0 : decode b_LA_all 0 = .ok (.aload_n 2, 1) := by decide +kernel
theorem d_LA_all_1 : decode b_LA_all 1 = .ok (.iconst 0, 1) := by decide +kernel
theorem d_LA_all_2 : decode b_LA_all 2 = .ok (.aload_n 0, 1) := by decide +kernel
theorem d_LA_all_3 : decode b_LA_all 3 = .ok (.iload_n 1, 1) := by decide +kernel
theorem d_LA_all_4 : decode b_LA_all 4 = .ok (.invokevirtual 19, 3) := by decide +kernel
theorem d_LA_all_7 : decode b_LA_all 7 = .ok (.i2l, 1) := by decide +kernel
theorem d_LA_all_8 : decode b_LA_all 8 = .ok (.lastore, 1) := by decide +kernel
theorem d_LA_all_9 : decode b_LA_all 9 = .ok (.goto 6, 3) := by decide +kernel
theorem d_LA_all_12 : decode b_LA_all 12 = .ok (.astore_n 3, 1) := by decide +kernel
theorem d_LA_all_13 : decode b_LA_all 13 = .ok (.iconst 1, 1) := by decide +kernel
theorem d_LA_all_14 : decode b_LA_all 14 = .ok (.ireturn, 1) := by decide +kernel
theorem d_LA_all_15 : decode b_LA_all 15 = .ok (.iconst 0, 1) := by decide +kernel
theorem d_LA_all_16 : decode b_LA_all 16 = .ok (.ireturn, 1) := by decide +kernel
theorem d_LA_replace_0 : decode b_LA_replace 0 = .ok (.aload_n 2, 1) := by decide +kernel
theorem d_LA_replace_1 : decode b_LA_replace 1 = .ok (.iconst 0, 1) := by decide +kernel
theorem d_LA_replace_2 : decode b_LA_replace 2 = .ok (.aload_n 0, 1) := by decide +kernel
theorem d_LA_replace_3 : decode b_LA_replace 3 = .ok (.iload_n 1, 1) := by decide +kernel
theorem d_LA_replace_4 : decode b_LA_replace 4 = .ok (.invokevirtual 23, 3) := by decide +kernel
theorem d_LA_replace_7 : decode b_LA_replace 7 = .ok (.i2l, 1) := by decide +kernel
theorem d_LA_replace_8 : decode b_LA_replace 8 = .ok (.lastore, 1) := by decide +kernel
theorem d_LA_replace_9 : decode b_LA_replace 9 = .ok (.goto 6, 3) := by decide +kernel
theorem d_LA_replace_12 : decode b_LA_replace 12 = .ok (.astore_n 3, 1) := by decide +kernel
theorem d_LA_replace_13 : decode b_LA_replace 13 = .ok (.iconst 1, 1) := by decide +kernel
theorem d_LA_replace_14 : decode b_LA_replace 14 = .ok (.ireturn, 1) := by decide +kernel
theorem d_LA_replace_15 : decode b_LA_replace 15 = .ok (.iconst 0, 1) := by decide +kernel
theorem d_LA_replace_16 : decode b_LA_replace 16 = .ok (.ireturn, 1) := by decide +kernel
theorem d_LA_split_0 : decode b_LA_split 0 = .ok (.aload_n 2, 1) := by decide +kernel
theorem d_LA_split_1 : decode b_LA_split 1 = .ok (.iconst 0, 1) := by decide +kernel
theorem d_LA_split_2 : decode b_LA_split 2 = .ok (.aload_n 0, 1) := by decide +kernel
theorem d_LA_split_3 : decode b_LA_split 3 = .ok (.iload_n 1, 1) := by decide +kernel
theorem d_LA_split_4 : decode b_LA_split 4 = .ok (.invokevirtual 26, 3) := by decide +kernel
theorem d_LA_split_7 : decode b_LA_split 7 = .ok (.i2l, 1) := by decide +kernel
theorem d_LA_split_8 : decode b_LA_split 8 = .ok (.lastore, 1) := by decide +kernel
theorem d_LA_split_9 : decode b_LA_split 9 = .ok (.goto 6, 3) := by decide +kernel
theorem d_LA_split_12 : decode b_LA_split 12 = .ok (.astore_n 3, 1) := by decide +kernel
theorem d_LA_split_13 : decode b_LA_split 13 = .ok (.iconst 1, 1) := by decide +kernel
theorem d_LA_split_14 : decode b_LA_split 14 = .ok (.ireturn, 1) := by decide +kernel
theorem d_LA_split_15 : decode b_LA_split 15 = .ok (.iconst 0, 1) := by decide +kernel
theorem d_LA_split_16 : decode b_LA_split 16 = .ok (.ireturn, 1) := by decide +kernel
theorem d_LA_keep_0 : decode b_LA_keep 0 = .ok (.aload_n 0, 1) := by decide +kernel
theorem d_LA_keep_1 : decode b_LA_keep 1 = .ok (.iload_n 1, 1) := by decide +kernel
theorem d_LA_keep_2 : decode b_LA_keep 2 = .ok (.invokevirtual 29, 3) := by decide +kernel
theorem d_LA_keep_5 : decode b_LA_keep 5 = .ok (.goto 6, 3) := by decide +kernel
theorem d_LA_keep_8 : decode b_LA_keep 8 = .ok (.astore_n 2, 1) := by decide +kernel
theorem d_LA_keep_9 : decode b_LA_keep 9 = .ok (.iconst 1, 1) := by decide +kernel
theorem d_LA_keep_10 : decode b_LA_keep 10 = .ok (.ireturn, 1) := by decide +kernel
theorem d_LA_keep_11 : decode b_LA_keep 11 = .ok (.iconst 0, 1) := by decide +kernel
theorem d_LA_keep_12 : decode b_LA_keep 12 = .ok (.ireturn, 1) := by decide +kernel
