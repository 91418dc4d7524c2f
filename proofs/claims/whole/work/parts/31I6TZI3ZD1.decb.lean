theorem d_MO_rangeEnd_39 : decode b_MO_rangeEnd 39 = .ok (.aload_n 0, 1) := by decide +kernel
theorem d_MO_rangeEnd_40 : decode b_MO_rangeEnd 40 = .ok (.invokevirtual 348, 3) := by decide +kernel
theorem d_MO_rangeEnd_43 : decode b_MO_rangeEnd 43 = .ok (.ireturn, 1) := by decide +kernel
theorem d_MO_rangeEnd_44 : decode b_MO_rangeEnd 44 = .ok (.aload_n 0, 1) := by decide +kernel
theorem d_MO_rangeEnd_45 : decode b_MO_rangeEnd 45 = .ok (.iconst 1, 1) := by decide +kernel
theorem d_MO_rangeEnd_46 : decode b_MO_rangeEnd 46 = .ok (.invokevirtual 344, 3) := by decide +kernel
theorem d_MO_rangeEnd_49 : decode b_MO_rangeEnd 49 = .ok (.istore_n 2, 1) := by decide +kernel
theorem d_MO_rangeEnd_50 : decode b_MO_rangeEnd 50 = .ok (.iload_n 2, 1) := by decide +kernel
theorem d_MO_rangeEnd_51 : decode b_MO_rangeEnd 51 = .ok (.iconst 1, 1) := by decide +kernel
theorem d_MO_rangeEnd_52 : decode b_MO_rangeEnd 52 = .ok (.if_icmp .ne 10, 3) := by decide +kernel
theorem d_MO_rangeEnd_55 : decode b_MO_rangeEnd 55 = .ok (.aload_n 0, 1) := by decide +kernel
theorem d_MO_rangeEnd_56 : decode b_MO_rangeEnd 56 = .ok (.bipush 6, 2) := by decide +kernel
theorem d_MO_rangeEnd_58 : decode b_MO_rangeEnd 58 = .ok (.iload_n 1, 1) := by decide +kernel
theorem d_MO_rangeEnd_59 : decode b_MO_rangeEnd 59 = .ok (.invokevirtual 304, 3) := by decide +kernel
theorem d_MO_rangeEnd_62 : decode b_MO_rangeEnd 62 = .ok (.aload_n 0, 1) := by decide +kernel
theorem d_MO_rangeEnd_63 : decode b_MO_rangeEnd 63 = .ok (.getfield 307, 3) := by decide +kernel
theorem d_MO_rangeEnd_66 : decode b_MO_rangeEnd 66 = .ok (.ireturn, 1) := by decide +kernel
theorem d_MO_spells_0 : decode b_MO_spells 0 = .ok (.iload_n 1, 1) := by decide +kernel
theorem d_MO_spells_1 : decode b_MO_spells 1 = .ok (.iconst 5, 1) := by decide +kernel
theorem d_MO_spells_2 : decode b_MO_spells 2 = .ok (.iadd, 1) := by decide +kernel
theorem d_MO_spells_3 : decode b_MO_spells 3 = .ok (.iload_n 2, 1) := by decide +kernel
theorem d_MO_spells_4 : decode b_MO_spells 4 = .ok (.if_icmp .ge 54, 3) := by decide +kernel
theorem d_MO_spells_7 : decode b_MO_spells 7 = .ok (.aload_n 0, 1) := by decide +kernel
theorem d_MO_spells_8 : decode b_MO_spells 8 = .ok (.iload_n 1, 1) := by decide +kernel
theorem d_MO_spells_9 : decode b_MO_spells 9 = .ok (.iaload, 1) := by decide +kernel
theorem d_MO_spells_10 : decode b_MO_spells 10 = .ok (.iload_n 3, 1) := by decide +kernel
theorem d_MO_spells_11 : decode b_MO_spells 11 = .ok (.if_icmp .ne 47, 3) := by decide +kernel
theorem d_MO_spells_14 : decode b_MO_spells 14 = .ok (.aload_n 0, 1) := by decide +kernel
theorem d_MO_spells_15 : decode b_MO_spells 15 = .ok (.iload_n 1, 1) := by decide +kernel
theorem d_MO_spells_16 : decode b_MO_spells 16 = .ok (.iconst 1, 1) := by decide +kernel
theorem d_MO_spells_17 : decode b_MO_spells 17 = .ok (.iadd, 1) := by decide +kernel
theorem d_MO_spells_18 : decode b_MO_spells 18 = .ok (.iaload, 1) := by decide +kernel
theorem d_MO_spells_19 : decode b_MO_spells 19 = .ok (.iload 4, 2) := by decide +kernel
theorem d_MO_spells_21 : decode b_MO_spells 21 = .ok (.if_icmp .ne 37, 3) := by decide +kernel
theorem d_MO_spells_24 : decode b_MO_spells 24 = .ok (.aload_n 0, 1) := by decide +kernel
theorem d_MO_spells_25 : decode b_MO_spells 25 = .ok (.iload_n 1, 1) := by decide +kernel
theorem d_MO_spells_26 : decode b_MO_spells 26 = .ok (.iconst 2, 1) := by decide +kernel
theorem d_MO_spells_27 : decode b_MO_spells 27 = .ok (.iadd, 1) := by decide +kernel
theorem d_MO_spells_28 : decode b_MO_spells 28 = .ok (.iaload, 1) := by decide +kernel
theorem d_MO_spells_29 : decode b_MO_spells 29 = .ok (.iload 5, 2) := by decide +kernel
theorem d_MO_spells_31 : decode b_MO_spells 31 = .ok (.if_icmp .ne 27, 3) := by decide +kernel
theorem d_MO_spells_34 : decode b_MO_spells 34 = .ok (.aload_n 0, 1) := by decide +kernel
theorem d_MO_spells_35 : decode b_MO_spells 35 = .ok (.iload_n 1, 1) := by decide +kernel
theorem d_MO_spells_36 : decode b_MO_spells 36 = .ok (.iconst 3, 1) := by decide +kernel
theorem d_MO_spells_37 : decode b_MO_spells 37 = .ok (.iadd, 1) := by decide +kernel
theorem d_MO_spells_38 : decode b_MO_spells 38 = .ok (.iaload, 1) := by decide +kernel
theorem d_MO_spells_39 : decode b_MO_spells 39 = .ok (.iload 6, 2) := by decide +kernel
theorem d_MO_spells_41 : decode b_MO_spells 41 = .ok (.if_icmp .ne 17, 3) := by decide +kernel
theorem d_MO_spells_44 : decode b_MO_spells 44 = .ok (.aload_n 0, 1) := by decide +kernel
theorem d_MO_spells_45 : decode b_MO_spells 45 = .ok (.iload_n 1, 1) := by decide +kernel
theorem d_MO_spells_46 : decode b_MO_spells 46 = .ok (.iconst 4, 1) := by decide +kernel
theorem d_MO_spells_47 : decode b_MO_spells 47 = .ok (.iadd, 1) := by decide +kernel
theorem d_MO_spells_48 : decode b_MO_spells 48 = .ok (.iaload, 1) := by decide +kernel
theorem d_MO_spells_49 : decode b_MO_spells 49 = .ok (.iload 7, 2) := by decide +kernel
theorem d_MO_spells_51 : decode b_MO_spells 51 = .ok (.if_icmp .ne 7, 3) := by decide +kernel
theorem d_MO_spells_54 : decode b_MO_spells 54 = .ok (.iconst 1, 1) := by decide +kernel
theorem d_MO_spells_55 : decode b_MO_spells 55 = .ok (.goto 4, 3) := by decide +kernel
theorem d_MO_spells_58 : decode b_MO_spells 58 = .ok (.iconst 0, 1) := by decide +kernel
theorem d_MO_spells_59 : decode b_MO_spells 59 = .ok (.ireturn, 1) := by decide +kernel
theorem d_MO_whichLetter_0 : decode b_MO_whichLetter 0 = .ok (.iload_n 0, 1) := by decide +kernel
theorem d_MO_whichLetter_1 : decode b_MO_whichLetter 1 = .ok (.bipush 76, 2) := by decide +kernel
theorem d_MO_whichLetter_3 : decode b_MO_whichLetter 3 = .ok (.if_icmp .ne 7, 3) := by decide +kernel
theorem d_MO_whichLetter_6 : decode b_MO_whichLetter 6 = .ok (.iconst 3, 1) := by decide +kernel
theorem d_MO_whichLetter_7 : decode b_MO_whichLetter 7 = .ok (.goto 35, 3) := by decide +kernel
theorem d_MO_whichLetter_10 : decode b_MO_whichLetter 10 = .ok (.iload_n 0, 1) := by decide +kernel
theorem d_MO_whichLetter_11 : decode b_MO_whichLetter 11 = .ok (.bipush 78, 2) := by decide +kernel
theorem d_MO_whichLetter_13 : decode b_MO_whichLetter 13 = .ok (.if_icmp .ne 7, 3) := by decide +kernel
theorem d_MO_whichLetter_16 : decode b_MO_whichLetter 16 = .ok (.iconst 4, 1) := by decide +kernel
theorem d_MO_whichLetter_17 : decode b_MO_whichLetter 17 = .ok (.goto 25, 3) := by decide +kernel
theorem d_MO_whichLetter_20 : decode b_MO_whichLetter 20 = .ok (.iload_n 0, 1) := by decide +kernel
theorem d_MO_whichLetter_21 : decode b_MO_whichLetter 21 = .ok (.bipush 71, 2) := by decide +kernel
theorem d_MO_whichLetter_23 : decode b_MO_whichLetter 23 = .ok (.if_icmp .ne 7, 3) := by decide +kernel
theorem d_MO_whichLetter_26 : decode b_MO_whichLetter 26 = .ok (.iconst 5, 1) := by decide +kernel
theorem d_MO_whichLetter_27 : decode b_MO_whichLetter 27 = .ok (.goto 15, 3) := by decide +kernel
theorem d_MO_whichLetter_30 : decode b_MO_whichLetter 30 = .ok (.iload_n 0, 1) := by decide +kernel
theorem d_MO_whichLetter_31 : decode b_MO_whichLetter 31 = .ok (.bipush 89, 2) := by decide +kernel
theorem d_MO_whichLetter_33 : decode b_MO_whichLetter 33 = .ok (.if_icmp .ne 8, 3) := by decide +kernel
theorem d_MO_whichLetter_36 : decode b_MO_whichLetter 36 = .ok (.bipush 6, 2) := by decide +kernel
theorem d_MO_whichLetter_38 : decode b_MO_whichLetter 38 = .ok (.goto 4, 3) := by decide +kernel
theorem d_MO_whichLetter_41 : decode b_MO_whichLetter 41 = .ok (.iconst (-1), 1) := by decide +kernel
theorem d_MO_whichLetter_42 : decode b_MO_whichLetter 42 = .ok (.ireturn, 1) := by decide +kernel
theorem d_MO_whichSet_0 : decode b_MO_whichSet 0 = .ok (.iload_n 0, 1) := by decide +kernel
theorem d_MO_whichSet_1 : decode b_MO_whichSet 1 = .ok (.bipush 100, 2) := by decide +kernel
theorem d_MO_whichSet_3 : decode b_MO_whichSet 3 = .ok (.if_icmp .eq 9, 3) := by decide +kernel
theorem d_MO_whichSet_6 : decode b_MO_whichSet 6 = .ok (.iload_n 0, 1) := by decide +kernel
theorem d_MO_whichSet_7 : decode b_MO_whichSet 7 = .ok (.bipush 68, 2) := by decide +kernel
theorem d_MO_whichSet_9 : decode b_MO_whichSet 9 = .ok (.if_icmp .ne 7, 3) := by decide +kernel
theorem d_MO_whichSet_12 : decode b_MO_whichSet 12 = .ok (.iconst 0, 1) := by decide +kernel
theorem d_MO_whichSet_13 : decode b_MO_whichSet 13 = .ok (.goto 20, 3) := by decide +kernel
theorem d_MO_whichSet_16 : decode b_MO_whichSet 16 = .ok (.iload_n 0, 1) := by decide +kernel
theorem d_MO_whichSet_17 : decode b_MO_whichSet 17 = .ok (.bipush 115, 2) := by decide +kernel
theorem d_MO_whichSet_19 : decode b_MO_whichSet 19 = .ok (.if_icmp .eq 9, 3) := by decide +kernel
theorem d_MO_whichSet_22 : decode b_MO_whichSet 22 = .ok (.iload_n 0, 1) := by decide +kernel
theorem d_MO_whichSet_23 : decode b_MO_whichSet 23 = .ok (.bipush 83, 2) := by decide +kernel
theorem d_MO_whichSet_25 : decode b_MO_whichSet 25 = .ok (.if_icmp .ne 7, 3) := by decide +kernel
theorem d_MO_whichSet_28 : decode b_MO_whichSet 28 = .ok (.iconst 1, 1) := by decide +kernel
theorem d_MO_whichSet_29 : decode b_MO_whichSet 29 = .ok (.goto 4, 3) := by decide +kernel
theorem d_MO_whichSet_32 : decode b_MO_whichSet 32 = .ok (.iconst 2, 1) := by decide +kernel
theorem d_MO_whichSet_33 : decode b_MO_whichSet 33 = .ok (.ireturn, 1) := by decide +kernel
theorem d_MO_wrong_0 : decode b_MO_wrong 0 = .ok (.aload_n 0, 1) := by decide +kernel
theorem d_MO_wrong_1 : decode b_MO_wrong 1 = .ok (.getfield 273, 3) := by decide +kernel
theorem d_MO_wrong_4 : decode b_MO_wrong 4 = .ok (.ifCond .le 4, 3) := by decide +kernel
theorem d_MO_wrong_7 : decode b_MO_wrong 7 = .ok (.return_, 1) := by decide +kernel
theorem d_MO_wrong_8 : decode b_MO_wrong 8 = .ok (.aload_n 0, 1) := by decide +kernel
theorem d_MO_wrong_9 : decode b_MO_wrong 9 = .ok (.iload_n 1, 1) := by decide +kernel
theorem d_MO_wrong_10 : decode b_MO_wrong 10 = .ok (.putfield 273, 3) := by decide +kernel
theorem d_MO_wrong_13 : decode b_MO_wrong 13 = .ok (.aload_n 0, 1) := by decide +kernel
theorem d_MO_wrong_14 : decode b_MO_wrong 14 = .ok (.iload_n 2, 1) := by decide +kernel
theorem d_MO_wrong_15 : decode b_MO_wrong 15 = .ok (.putfield 75, 3) := by decide +kernel
theorem d_MO_wrong_18 : decode b_MO_wrong 18 = .ok (.return_, 1) := by decide +kernel
