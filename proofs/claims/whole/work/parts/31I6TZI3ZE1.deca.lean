theorem d_MO_readCharacter_0 : decode b_MO_readCharacter 0 = .ok (.aload_n 0, 1) := by decide +kernel
theorem d_MO_readCharacter_1 : decode b_MO_readCharacter 1 = .ok (.invokevirtual 362, 3) := by decide +kernel
theorem d_MO_readCharacter_4 : decode b_MO_readCharacter 4 = .ok (.aload_n 0, 1) := by decide +kernel
theorem d_MO_readCharacter_5 : decode b_MO_readCharacter 5 = .ok (.iload_n 1, 1) := by decide +kernel
theorem d_MO_readCharacter_6 : decode b_MO_readCharacter 6 = .ok (.iload_n 1, 1) := by decide +kernel
theorem d_MO_readCharacter_7 : decode b_MO_readCharacter 7 = .ok (.aload_n 0, 1) := by decide +kernel
theorem d_MO_readCharacter_8 : decode b_MO_readCharacter 8 = .ok (.iconst 1, 1) := by decide +kernel
theorem d_MO_readCharacter_9 : decode b_MO_readCharacter 9 = .ok (.invokevirtual 355, 3) := by decide +kernel
theorem d_MO_readCharacter_12 : decode b_MO_readCharacter 12 = .ok (.invokevirtual 358, 3) := by decide +kernel
theorem d_MO_readCharacter_15 : decode b_MO_readCharacter 15 = .ok (.aload_n 0, 1) := by decide +kernel
theorem d_MO_readCharacter_16 : decode b_MO_readCharacter 16 = .ok (.iconst 0, 1) := by decide +kernel
theorem d_MO_readCharacter_17 : decode b_MO_readCharacter 17 = .ok (.invokevirtual 368, 3) := by decide +kernel
theorem d_MO_readCharacter_20 : decode b_MO_readCharacter 20 = .ok (.istore_n 2, 1) := by decide +kernel
theorem d_MO_readCharacter_21 : decode b_MO_readCharacter 21 = .ok (.aload_n 0, 1) := by decide +kernel
theorem d_MO_readCharacter_22 : decode b_MO_readCharacter 22 = .ok (.getfield 37, 3) := by decide +kernel
theorem d_MO_readCharacter_25 : decode b_MO_readCharacter 25 = .ok (.iload_n 2, 1) := by decide +kernel
theorem d_MO_readCharacter_26 : decode b_MO_readCharacter 26 = .ok (.iaload, 1) := by decide +kernel
theorem d_MO_readCharacter_27 : decode b_MO_readCharacter 27 = .ok (.iconst 1, 1) := by decide +kernel
theorem d_MO_readCharacter_28 : decode b_MO_readCharacter 28 = .ok (.if_icmp .ne 32, 3) := by decide +kernel
theorem d_MO_readCharacter_31 : decode b_MO_readCharacter 31 = .ok (.aload_n 0, 1) := by decide +kernel
theorem d_MO_readCharacter_32 : decode b_MO_readCharacter 32 = .ok (.getfield 40, 3) := by decide +kernel
theorem d_MO_readCharacter_35 : decode b_MO_readCharacter 35 = .ok (.aload_n 0, 1) := by decide +kernel
theorem d_MO_readCharacter_36 : decode b_MO_readCharacter 36 = .ok (.getfield 34, 3) := by decide +kernel
theorem d_MO_readCharacter_39 : decode b_MO_readCharacter 39 = .ok (.iload_n 2, 1) := by decide +kernel
theorem d_MO_readCharacter_40 : decode b_MO_readCharacter 40 = .ok (.iaload, 1) := by decide +kernel
theorem d_MO_readCharacter_41 : decode b_MO_readCharacter 41 = .ok (.iaload, 1) := by decide +kernel
theorem d_MO_readCharacter_42 : decode b_MO_readCharacter 42 = .ok (.aload_n 0, 1) := by decide +kernel
theorem d_MO_readCharacter_43 : decode b_MO_readCharacter 43 = .ok (.getfield 43, 3) := by decide +kernel
theorem d_MO_readCharacter_46 : decode b_MO_readCharacter 46 = .ok (.aload_n 0, 1) := by decide +kernel
theorem d_MO_readCharacter_47 : decode b_MO_readCharacter 47 = .ok (.getfield 34, 3) := by decide +kernel
theorem d_MO_readCharacter_50 : decode b_MO_readCharacter 50 = .ok (.iload_n 2, 1) := by decide +kernel
theorem d_MO_readCharacter_51 : decode b_MO_readCharacter 51 = .ok (.iaload, 1) := by decide +kernel
theorem d_MO_readCharacter_52 : decode b_MO_readCharacter 52 = .ok (.iaload, 1) := by decide +kernel
theorem d_MO_readCharacter_53 : decode b_MO_readCharacter 53 = .ok (.if_icmp .ne 7, 3) := by decide +kernel
theorem d_MO_readCharacter_56 : decode b_MO_readCharacter 56 = .ok (.iconst 1, 1) := by decide +kernel
theorem d_MO_readCharacter_57 : decode b_MO_readCharacter 57 = .ok (.goto 4, 3) := by decide +kernel
theorem d_MO_readCharacter_60 : decode b_MO_readCharacter 60 = .ok (.iconst 0, 1) := by decide +kernel
theorem d_MO_readCharacter_61 : decode b_MO_readCharacter 61 = .ok (.istore_n 3, 1) := by decide +kernel
theorem d_MO_readCharacter_62 : decode b_MO_readCharacter 62 = .ok (.aload_n 0, 1) := by decide +kernel
theorem d_MO_readCharacter_63 : decode b_MO_readCharacter 63 = .ok (.aload_n 0, 1) := by decide +kernel
theorem d_MO_readCharacter_64 : decode b_MO_readCharacter 64 = .ok (.iload_n 2, 1) := by decide +kernel
theorem d_MO_readCharacter_65 : decode b_MO_readCharacter 65 = .ok (.iload_n 3, 1) := by decide +kernel
theorem d_MO_readCharacter_66 : decode b_MO_readCharacter 66 = .ok (.invokevirtual 371, 3) := by decide +kernel
theorem d_MO_readCharacter_69 : decode b_MO_readCharacter 69 = .ok (.iconst 1, 1) := by decide +kernel
theorem d_MO_readCharacter_70 : decode b_MO_readCharacter 70 = .ok (.invokevirtual 375, 3) := by decide +kernel
theorem d_MO_readCharacter_73 : decode b_MO_readCharacter 73 = .ok (.return_, 1) := by decide +kernel
theorem d_MO_readClass_0 : decode b_MO_readClass 0 = .ok (.aload_n 0, 1) := by decide +kernel
theorem d_MO_readClass_1 : decode b_MO_readClass 1 = .ok (.getfield 279, 3) := by decide +kernel
theorem d_MO_readClass_4 : decode b_MO_readClass 4 = .ok (.istore_n 1, 1) := by decide +kernel
theorem d_MO_readClass_5 : decode b_MO_readClass 5 = .ok (.aload_n 0, 1) := by decide +kernel
theorem d_MO_readClass_6 : decode b_MO_readClass 6 = .ok (.dup, 1) := by decide +kernel
theorem d_MO_readClass_7 : decode b_MO_readClass 7 = .ok (.getfield 279, 3) := by decide +kernel
theorem d_MO_readClass_10 : decode b_MO_readClass 10 = .ok (.iconst 1, 1) := by decide +kernel
theorem d_MO_readClass_11 : decode b_MO_readClass 11 = .ok (.iadd, 1) := by decide +kernel
theorem d_MO_readClass_12 : decode b_MO_readClass 12 = .ok (.putfield 279, 3) := by decide +kernel
theorem d_MO_readClass_15 : decode b_MO_readClass 15 = .ok (.aload_n 0, 1) := by decide +kernel
theorem d_MO_readClass_16 : decode b_MO_readClass 16 = .ok (.iconst 0, 1) := by decide +kernel
theorem d_MO_readClass_17 : decode b_MO_readClass 17 = .ok (.invokevirtual 297, 3) := by decide +kernel
theorem d_MO_readClass_20 : decode b_MO_readClass 20 = .ok (.bipush 94, 2) := by decide +kernel
theorem d_MO_readClass_22 : decode b_MO_readClass 22 = .ok (.if_icmp .ne 7, 3) := by decide +kernel
theorem d_MO_readClass_25 : decode b_MO_readClass 25 = .ok (.iconst 1, 1) := by decide +kernel
theorem d_MO_readClass_26 : decode b_MO_readClass 26 = .ok (.goto 4, 3) := by decide +kernel
theorem d_MO_readClass_29 : decode b_MO_readClass 29 = .ok (.iconst 0, 1) := by decide +kernel
theorem d_MO_readClass_30 : decode b_MO_readClass 30 = .ok (.istore_n 2, 1) := by decide +kernel
theorem d_MO_readClass_31 : decode b_MO_readClass 31 = .ok (.aload_n 0, 1) := by decide +kernel
theorem d_MO_readClass_32 : decode b_MO_readClass 32 = .ok (.dup, 1) := by decide +kernel
theorem d_MO_readClass_33 : decode b_MO_readClass 33 = .ok (.getfield 279, 3) := by decide +kernel
theorem d_MO_readClass_36 : decode b_MO_readClass 36 = .ok (.iload_n 2, 1) := by decide +kernel
theorem d_MO_readClass_37 : decode b_MO_readClass 37 = .ok (.ifCond .eq 7, 3) := by decide +kernel
theorem d_MO_readClass_40 : decode b_MO_readClass 40 = .ok (.iconst 1, 1) := by decide +kernel
theorem d_MO_readClass_41 : decode b_MO_readClass 41 = .ok (.goto 4, 3) := by decide +kernel
theorem d_MO_readClass_44 : decode b_MO_readClass 44 = .ok (.iconst 0, 1) := by decide +kernel
theorem d_MO_readClass_45 : decode b_MO_readClass 45 = .ok (.iadd, 1) := by decide +kernel
theorem d_MO_readClass_46 : decode b_MO_readClass 46 = .ok (.putfield 279, 3) := by decide +kernel
theorem d_MO_readClass_49 : decode b_MO_readClass 49 = .ok (.aload_n 0, 1) := by decide +kernel
theorem d_MO_readClass_50 : decode b_MO_readClass 50 = .ok (.invokevirtual 362, 3) := by decide +kernel
theorem d_MO_readClass_53 : decode b_MO_readClass 53 = .ok (.iconst 0, 1) := by decide +kernel
theorem d_MO_readClass_54 : decode b_MO_readClass 54 = .ok (.istore_n 3, 1) := by decide +kernel
theorem d_MO_readClass_55 : decode b_MO_readClass 55 = .ok (.aload_n 0, 1) := by decide +kernel
theorem d_MO_readClass_56 : decode b_MO_readClass 56 = .ok (.getfield 273, 3) := by decide +kernel
theorem d_MO_readClass_59 : decode b_MO_readClass 59 = .ok (.ifCond .ne 43, 3) := by decide +kernel
theorem d_MO_readClass_62 : decode b_MO_readClass 62 = .ok (.aload_n 0, 1) := by decide +kernel
theorem d_MO_readClass_63 : decode b_MO_readClass 63 = .ok (.iconst 0, 1) := by decide +kernel
theorem d_MO_readClass_64 : decode b_MO_readClass 64 = .ok (.invokevirtual 297, 3) := by decide +kernel
theorem d_MO_readClass_67 : decode b_MO_readClass 67 = .ok (.bipush 93, 2) := by decide +kernel
theorem d_MO_readClass_69 : decode b_MO_readClass 69 = .ok (.if_icmp .ne 7, 3) := by decide +kernel
theorem d_MO_readClass_72 : decode b_MO_readClass 72 = .ok (.iload_n 3, 1) := by decide +kernel
theorem d_MO_readClass_73 : decode b_MO_readClass 73 = .ok (.ifCond .ne 29, 3) := by decide +kernel
theorem d_MO_readClass_76 : decode b_MO_readClass 76 = .ok (.aload_n 0, 1) := by decide +kernel
theorem d_MO_readClass_77 : decode b_MO_readClass 77 = .ok (.iconst 0, 1) := by decide +kernel
theorem d_MO_readClass_78 : decode b_MO_readClass 78 = .ok (.invokevirtual 297, 3) := by decide +kernel
theorem d_MO_readClass_81 : decode b_MO_readClass 81 = .ok (.ifCond .ge 12, 3) := by decide +kernel
theorem d_MO_readClass_84 : decode b_MO_readClass 84 = .ok (.aload_n 0, 1) := by decide +kernel
theorem d_MO_readClass_85 : decode b_MO_readClass 85 = .ok (.iconst 4, 1) := by decide +kernel
theorem d_MO_readClass_86 : decode b_MO_readClass 86 = .ok (.iload_n 1, 1) := by decide +kernel
theorem d_MO_readClass_87 : decode b_MO_readClass 87 = .ok (.invokevirtual 304, 3) := by decide +kernel
theorem d_MO_readClass_90 : decode b_MO_readClass 90 = .ok (.goto 7, 3) := by decide +kernel
theorem d_MO_readClass_93 : decode b_MO_readClass 93 = .ok (.aload_n 0, 1) := by decide +kernel
theorem d_MO_readClass_94 : decode b_MO_readClass 94 = .ok (.invokevirtual 365, 3) := by decide +kernel
theorem d_MO_readClass_97 : decode b_MO_readClass 97 = .ok (.iconst 1, 1) := by decide +kernel
theorem d_MO_readClass_98 : decode b_MO_readClass 98 = .ok (.istore_n 3, 1) := by decide +kernel
theorem d_MO_readClass_99 : decode b_MO_readClass 99 = .ok (.goto (-44), 3) := by decide +kernel
theorem d_MO_readClass_102 : decode b_MO_readClass 102 = .ok (.aload_n 0, 1) := by decide +kernel
theorem d_MO_readClass_103 : decode b_MO_readClass 103 = .ok (.getfield 273, 3) := by decide +kernel
theorem d_MO_readClass_106 : decode b_MO_readClass 106 = .ok (.ifCond .le 4, 3) := by decide +kernel
theorem d_MO_readClass_109 : decode b_MO_readClass 109 = .ok (.return_, 1) := by decide +kernel
theorem d_MO_readClass_110 : decode b_MO_readClass 110 = .ok (.aload_n 0, 1) := by decide +kernel
theorem d_MO_readClass_111 : decode b_MO_readClass 111 = .ok (.dup, 1) := by decide +kernel
theorem d_MO_readClass_112 : decode b_MO_readClass 112 = .ok (.getfield 279, 3) := by decide +kernel
theorem d_MO_readClass_115 : decode b_MO_readClass 115 = .ok (.iconst 1, 1) := by decide +kernel
theorem d_MO_readClass_116 : decode b_MO_readClass 116 = .ok (.iadd, 1) := by decide +kernel
theorem d_MO_readClass_117 : decode b_MO_readClass 117 = .ok (.putfield 279, 3) := by decide +kernel
theorem d_MO_readClass_120 : decode b_MO_readClass 120 = .ok (.aload_n 0, 1) := by decide +kernel
theorem d_MO_readClass_121 : decode b_MO_readClass 121 = .ok (.aload_n 0, 1) := by decide +kernel
theorem d_MO_readClass_122 : decode b_MO_readClass 122 = .ok (.aload_n 0, 1) := by decide +kernel
theorem d_MO_readClass_123 : decode b_MO_readClass 123 = .ok (.iload_n 2, 1) := by decide +kernel
theorem d_MO_readClass_124 : decode b_MO_readClass 124 = .ok (.invokevirtual 368, 3) := by decide +kernel
theorem d_MO_readClass_127 : decode b_MO_readClass 127 = .ok (.iconst 0, 1) := by decide +kernel
theorem d_MO_readClass_128 : decode b_MO_readClass 128 = .ok (.invokevirtual 371, 3) := by decide +kernel
theorem d_MO_readClass_131 : decode b_MO_readClass 131 = .ok (.iconst 1, 1) := by decide +kernel
theorem d_MO_readClass_132 : decode b_MO_readClass 132 = .ok (.invokevirtual 375, 3) := by decide +kernel
theorem d_MO_readClass_135 : decode b_MO_readClass 135 = .ok (.return_, 1) := by decide +kernel
theorem d_MO_readDot_0 : decode b_MO_readDot 0 = .ok (.aload_n 0, 1) := by decide +kernel
theorem d_MO_readDot_1 : decode b_MO_readDot 1 = .ok (.invokevirtual 362, 3) := by decide +kernel
theorem d_MO_readDot_4 : decode b_MO_readDot 4 = .ok (.aload_n 0, 1) := by decide +kernel
theorem d_MO_readDot_5 : decode b_MO_readDot 5 = .ok (.iconst 4, 1) := by decide +kernel
theorem d_MO_readDot_6 : decode b_MO_readDot 6 = .ok (.invokevirtual 355, 3) := by decide +kernel
theorem d_MO_readDot_9 : decode b_MO_readDot 9 = .ok (.ifCond .ne 11, 3) := by decide +kernel
theorem d_MO_readDot_12 : decode b_MO_readDot 12 = .ok (.aload_n 0, 1) := by decide +kernel
theorem d_MO_readDot_13 : decode b_MO_readDot 13 = .ok (.bipush 10, 2) := by decide +kernel
theorem d_MO_readDot_15 : decode b_MO_readDot 15 = .ok (.bipush 10, 2) := by decide +kernel
theorem d_MO_readDot_17 : decode b_MO_readDot 17 = .ok (.invokevirtual 240, 3) := by decide +kernel
theorem d_MO_readDot_20 : decode b_MO_readDot 20 = .ok (.aload_n 0, 1) := by decide +kernel
theorem d_MO_readDot_21 : decode b_MO_readDot 21 = .ok (.aload_n 0, 1) := by decide +kernel
theorem d_MO_readDot_22 : decode b_MO_readDot 22 = .ok (.aload_n 0, 1) := by decide +kernel
theorem d_MO_readDot_23 : decode b_MO_readDot 23 = .ok (.iconst 1, 1) := by decide +kernel
theorem d_MO_readDot_24 : decode b_MO_readDot 24 = .ok (.invokevirtual 368, 3) := by decide +kernel
theorem d_MO_readDot_27 : decode b_MO_readDot 27 = .ok (.iconst 0, 1) := by decide +kernel
theorem d_MO_readDot_28 : decode b_MO_readDot 28 = .ok (.invokevirtual 371, 3) := by decide +kernel
theorem d_MO_readDot_31 : decode b_MO_readDot 31 = .ok (.iconst 1, 1) := by decide +kernel
theorem d_MO_readDot_32 : decode b_MO_readDot 32 = .ok (.invokevirtual 375, 3) := by decide +kernel
theorem d_MO_readDot_35 : decode b_MO_readDot 35 = .ok (.aload_n 0, 1) := by decide +kernel
theorem d_MO_readDot_36 : decode b_MO_readDot 36 = .ok (.dup, 1) := by decide +kernel
theorem d_MO_readDot_37 : decode b_MO_readDot 37 = .ok (.getfield 279, 3) := by decide +kernel
theorem d_MO_readDot_40 : decode b_MO_readDot 40 = .ok (.iconst 1, 1) := by decide +kernel
theorem d_MO_readDot_41 : decode b_MO_readDot 41 = .ok (.iadd, 1) := by decide +kernel
theorem d_MO_readDot_42 : decode b_MO_readDot 42 = .ok (.putfield 279, 3) := by decide +kernel
theorem d_MO_readDot_45 : decode b_MO_readDot 45 = .ok (.return_, 1) := by decide +kernel
theorem d_MO_readEscape_0 : decode b_MO_readEscape 0 = .ok (.aload_n 0, 1) := by decide +kernel
theorem d_MO_readEscape_1 : decode b_MO_readEscape 1 = .ok (.iconst 0, 1) := by decide +kernel
theorem d_MO_readEscape_2 : decode b_MO_readEscape 2 = .ok (.invokevirtual 344, 3) := by decide +kernel
theorem d_MO_readEscape_5 : decode b_MO_readEscape 5 = .ok (.istore_n 1, 1) := by decide +kernel
theorem d_MO_readEscape_6 : decode b_MO_readEscape 6 = .ok (.iload_n 1, 1) := by decide +kernel
theorem d_MO_readEscape_7 : decode b_MO_readEscape 7 = .ok (.ifCond .ne 14, 3) := by decide +kernel
theorem d_MO_readEscape_10 : decode b_MO_readEscape 10 = .ok (.aload_n 0, 1) := by decide +kernel
theorem d_MO_readEscape_11 : decode b_MO_readEscape 11 = .ok (.aload_n 0, 1) := by decide +kernel
theorem d_MO_readEscape_12 : decode b_MO_readEscape 12 = .ok (.getfield 307, 3) := by decide +kernel
theorem d_MO_readEscape_15 : decode b_MO_readEscape 15 = .ok (.invokevirtual 378, 3) := by decide +kernel
theorem d_MO_readEscape_18 : decode b_MO_readEscape 18 = .ok (.goto 82, 3) := by decide +kernel
theorem d_MO_readEscape_21 : decode b_MO_readEscape 21 = .ok (.iload_n 1, 1) := by decide +kernel
theorem d_MO_readEscape_22 : decode b_MO_readEscape 22 = .ok (.iconst 1, 1) := by decide +kernel
theorem d_MO_readEscape_23 : decode b_MO_readEscape 23 = .ok (.if_icmp .ne 37, 3) := by decide +kernel
theorem d_MO_readEscape_26 : decode b_MO_readEscape 26 = .ok (.aload_n 0, 1) := by decide +kernel
theorem d_MO_readEscape_27 : decode b_MO_readEscape 27 = .ok (.invokevirtual 362, 3) := by decide +kernel
theorem d_MO_readEscape_30 : decode b_MO_readEscape 30 = .ok (.aload_n 0, 1) := by decide +kernel
theorem d_MO_readEscape_31 : decode b_MO_readEscape 31 = .ok (.aload_n 0, 1) := by decide +kernel
theorem d_MO_readEscape_32 : decode b_MO_readEscape 32 = .ok (.getfield 307, 3) := by decide +kernel
theorem d_MO_readEscape_35 : decode b_MO_readEscape 35 = .ok (.aload_n 0, 1) := by decide +kernel
theorem d_MO_readEscape_36 : decode b_MO_readEscape 36 = .ok (.getfield 319, 3) := by decide +kernel
theorem d_MO_readEscape_39 : decode b_MO_readEscape 39 = .ok (.invokevirtual 337, 3) := by decide +kernel
theorem d_MO_readEscape_42 : decode b_MO_readEscape 42 = .ok (.aload_n 0, 1) := by decide +kernel
theorem d_MO_readEscape_43 : decode b_MO_readEscape 43 = .ok (.aload_n 0, 1) := by decide +kernel
theorem d_MO_readEscape_44 : decode b_MO_readEscape 44 = .ok (.aload_n 0, 1) := by decide +kernel
theorem d_MO_readEscape_45 : decode b_MO_readEscape 45 = .ok (.iconst 0, 1) := by decide +kernel
theorem d_MO_readEscape_46 : decode b_MO_readEscape 46 = .ok (.invokevirtual 368, 3) := by decide +kernel
theorem d_MO_readEscape_49 : decode b_MO_readEscape 49 = .ok (.iconst 0, 1) := by decide +kernel
theorem d_MO_readEscape_50 : decode b_MO_readEscape 50 = .ok (.invokevirtual 371, 3) := by decide +kernel
theorem d_MO_readEscape_53 : decode b_MO_readEscape 53 = .ok (.iconst 1, 1) := by decide +kernel
theorem d_MO_readEscape_54 : decode b_MO_readEscape 54 = .ok (.invokevirtual 375, 3) := by decide +kernel
theorem d_MO_readEscape_57 : decode b_MO_readEscape 57 = .ok (.goto 43, 3) := by decide +kernel
theorem d_MO_readEscape_60 : decode b_MO_readEscape 60 = .ok (.iload_n 1, 1) := by decide +kernel
theorem d_MO_readEscape_61 : decode b_MO_readEscape 61 = .ok (.iconst 2, 1) := by decide +kernel
theorem d_MO_readEscape_62 : decode b_MO_readEscape 62 = .ok (.if_icmp .ne 21, 3) := by decide +kernel
theorem d_MO_readEscape_65 : decode b_MO_readEscape 65 = .ok (.aload_n 0, 1) := by decide +kernel
theorem d_MO_readEscape_66 : decode b_MO_readEscape 66 = .ok (.aload_n 0, 1) := by decide +kernel
theorem d_MO_readEscape_67 : decode b_MO_readEscape 67 = .ok (.iconst 3, 1) := by decide +kernel
theorem d_MO_readEscape_68 : decode b_MO_readEscape 68 = .ok (.aload_n 0, 1) := by decide +kernel
theorem d_MO_readEscape_69 : decode b_MO_readEscape 69 = .ok (.getfield 307, 3) := by decide +kernel
theorem d_MO_readEscape_72 : decode b_MO_readEscape 72 = .ok (.lconst 1, 1) := by decide +kernel
theorem d_MO_readEscape_73 : decode b_MO_readEscape 73 = .ok (.invokevirtual 269, 3) := by decide +kernel
theorem d_MO_readEscape_76 : decode b_MO_readEscape 76 = .ok (.iconst 1, 1) := by decide +kernel
theorem d_MO_readEscape_77 : decode b_MO_readEscape 77 = .ok (.invokevirtual 375, 3) := by decide +kernel
theorem d_MO_readEscape_80 : decode b_MO_readEscape 80 = .ok (.goto 20, 3) := by decide +kernel
theorem d_MO_readEscape_83 : decode b_MO_readEscape 83 = .ok (.iload_n 1, 1) := by decide +kernel
theorem d_MO_readEscape_84 : decode b_MO_readEscape 84 = .ok (.iconst 3, 1) := by decide +kernel
theorem d_MO_readEscape_85 : decode b_MO_readEscape 85 = .ok (.if_icmp .ne 15, 3) := by decide +kernel
theorem d_MO_readEscape_88 : decode b_MO_readEscape 88 = .ok (.aload_n 0, 1) := by decide +kernel
theorem d_MO_readEscape_89 : decode b_MO_readEscape 89 = .ok (.aload_n 0, 1) := by decide +kernel
theorem d_MO_readEscape_90 : decode b_MO_readEscape 90 = .ok (.iconst 2, 1) := by decide +kernel
theorem d_MO_readEscape_91 : decode b_MO_readEscape 91 = .ok (.iconst 0, 1) := by decide +kernel
theorem d_MO_readEscape_92 : decode b_MO_readEscape 92 = .ok (.lconst 1, 1) := by decide +kernel
theorem d_MO_readEscape_93 : decode b_MO_readEscape 93 = .ok (.invokevirtual 269, 3) := by decide +kernel
theorem d_MO_readEscape_96 : decode b_MO_readEscape 96 = .ok (.iconst 1, 1) := by decide +kernel
theorem d_MO_readEscape_97 : decode b_MO_readEscape 97 = .ok (.invokevirtual 375, 3) := by decide +kernel
theorem d_MO_readEscape_100 : decode b_MO_readEscape 100 = .ok (.return_, 1) := by decide +kernel
