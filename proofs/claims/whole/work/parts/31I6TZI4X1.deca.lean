theorem d_MO_lay_0 : decode b_MO_lay 0 = .ok (.aload_n 0, 1) := by decide +kernel
theorem d_MO_lay_1 : decode b_MO_lay 1 = .ok (.getfield 202, 3) := by decide +kernel
theorem d_MO_lay_4 : decode b_MO_lay 4 = .ok (.iload_n 2, 1) := by decide +kernel
theorem d_MO_lay_5 : decode b_MO_lay 5 = .ok (.iload_n 1, 1) := by decide +kernel
theorem d_MO_lay_6 : decode b_MO_lay 6 = .ok (.iastore, 1) := by decide +kernel
theorem d_MO_lay_7 : decode b_MO_lay 7 = .ok (.aload_n 0, 1) := by decide +kernel
theorem d_MO_lay_8 : decode b_MO_lay 8 = .ok (.getfield 205, 3) := by decide +kernel
theorem d_MO_lay_11 : decode b_MO_lay 11 = .ok (.iload_n 2, 1) := by decide +kernel
theorem d_MO_lay_12 : decode b_MO_lay 12 = .ok (.aload_n 0, 1) := by decide +kernel
theorem d_MO_lay_13 : decode b_MO_lay 13 = .ok (.getfield 540, 3) := by decide +kernel
theorem d_MO_lay_16 : decode b_MO_lay 16 = .ok (.iastore, 1) := by decide +kernel
theorem d_MO_lay_17 : decode b_MO_lay 17 = .ok (.return_, 1) := by decide +kernel
theorem d_MO_onward_0 : decode b_MO_onward 0 = .ok (.aload_n 0, 1) := by decide +kernel
theorem d_MO_onward_1 : decode b_MO_onward 1 = .ok (.getfield 128, 3) := by decide +kernel
theorem d_MO_onward_4 : decode b_MO_onward 4 = .ok (.iload_n 1, 1) := by decide +kernel
theorem d_MO_onward_5 : decode b_MO_onward 5 = .ok (.iaload, 1) := by decide +kernel
theorem d_MO_onward_6 : decode b_MO_onward 6 = .ok (.bipush 6, 2) := by decide +kernel
theorem d_MO_onward_8 : decode b_MO_onward 8 = .ok (.if_icmp .ne 5, 3) := by decide +kernel
theorem d_MO_onward_11 : decode b_MO_onward 11 = .ok (.iload_n 3, 1) := by decide +kernel
theorem d_MO_onward_12 : decode b_MO_onward 12 = .ok (.ireturn, 1) := by decide +kernel
theorem d_MO_onward_13 : decode b_MO_onward 13 = .ok (.aload_n 0, 1) := by decide +kernel
theorem d_MO_onward_14 : decode b_MO_onward 14 = .ok (.getfield 128, 3) := by decide +kernel
theorem d_MO_onward_17 : decode b_MO_onward 17 = .ok (.iload_n 1, 1) := by decide +kernel
theorem d_MO_onward_18 : decode b_MO_onward 18 = .ok (.iaload, 1) := by decide +kernel
theorem d_MO_onward_19 : decode b_MO_onward 19 = .ok (.iconst 3, 1) := by decide +kernel
theorem d_MO_onward_20 : decode b_MO_onward 20 = .ok (.if_icmp .ne 31, 3) := by decide +kernel
theorem d_MO_onward_23 : decode b_MO_onward 23 = .ok (.aload_n 0, 1) := by decide +kernel
theorem d_MO_onward_24 : decode b_MO_onward 24 = .ok (.aload_n 0, 1) := by decide +kernel
theorem d_MO_onward_25 : decode b_MO_onward 25 = .ok (.getfield 134, 3) := by decide +kernel
theorem d_MO_onward_28 : decode b_MO_onward 28 = .ok (.iload_n 1, 1) := by decide +kernel
theorem d_MO_onward_29 : decode b_MO_onward 29 = .ok (.iaload, 1) := by decide +kernel
theorem d_MO_onward_30 : decode b_MO_onward 30 = .ok (.iload_n 3, 1) := by decide +kernel
theorem d_MO_onward_31 : decode b_MO_onward 31 = .ok (.invokevirtual 549, 3) := by decide +kernel
theorem d_MO_onward_34 : decode b_MO_onward 34 = .ok (.aload_n 0, 1) := by decide +kernel
theorem d_MO_onward_35 : decode b_MO_onward 35 = .ok (.aload_n 0, 1) := by decide +kernel
theorem d_MO_onward_36 : decode b_MO_onward 36 = .ok (.getfield 131, 3) := by decide +kernel
theorem d_MO_onward_39 : decode b_MO_onward 39 = .ok (.iload_n 1, 1) := by decide +kernel
theorem d_MO_onward_40 : decode b_MO_onward 40 = .ok (.iaload, 1) := by decide +kernel
theorem d_MO_onward_41 : decode b_MO_onward 41 = .ok (.iload_n 3, 1) := by decide +kernel
theorem d_MO_onward_42 : decode b_MO_onward 42 = .ok (.iconst 1, 1) := by decide +kernel
theorem d_MO_onward_43 : decode b_MO_onward 43 = .ok (.iadd, 1) := by decide +kernel
theorem d_MO_onward_44 : decode b_MO_onward 44 = .ok (.invokevirtual 549, 3) := by decide +kernel
theorem d_MO_onward_47 : decode b_MO_onward 47 = .ok (.iload_n 3, 1) := by decide +kernel
theorem d_MO_onward_48 : decode b_MO_onward 48 = .ok (.iconst 2, 1) := by decide +kernel
theorem d_MO_onward_49 : decode b_MO_onward 49 = .ok (.iadd, 1) := by decide +kernel
theorem d_MO_onward_50 : decode b_MO_onward 50 = .ok (.ireturn, 1) := by decide +kernel
theorem d_MO_onward_51 : decode b_MO_onward 51 = .ok (.aload_n 0, 1) := by decide +kernel
theorem d_MO_onward_52 : decode b_MO_onward 52 = .ok (.getfield 128, 3) := by decide +kernel
theorem d_MO_onward_55 : decode b_MO_onward 55 = .ok (.iload_n 1, 1) := by decide +kernel
theorem d_MO_onward_56 : decode b_MO_onward 56 = .ok (.iaload, 1) := by decide +kernel
theorem d_MO_onward_57 : decode b_MO_onward 57 = .ok (.iconst 5, 1) := by decide +kernel
theorem d_MO_onward_58 : decode b_MO_onward 58 = .ok (.if_icmp .ne 19, 3) := by decide +kernel
theorem d_MO_onward_61 : decode b_MO_onward 61 = .ok (.aload_n 0, 1) := by decide +kernel
theorem d_MO_onward_62 : decode b_MO_onward 62 = .ok (.aload_n 0, 1) := by decide +kernel
theorem d_MO_onward_63 : decode b_MO_onward 63 = .ok (.getfield 134, 3) := by decide +kernel
theorem d_MO_onward_66 : decode b_MO_onward 66 = .ok (.iload_n 1, 1) := by decide +kernel
theorem d_MO_onward_67 : decode b_MO_onward 67 = .ok (.iaload, 1) := by decide +kernel
theorem d_MO_onward_68 : decode b_MO_onward 68 = .ok (.iload_n 2, 1) := by decide +kernel
theorem d_MO_onward_69 : decode b_MO_onward 69 = .ok (.invokevirtual 532, 3) := by decide +kernel
theorem d_MO_onward_72 : decode b_MO_onward 72 = .ok (.ifCond .ne 5, 3) := by decide +kernel
theorem d_MO_onward_75 : decode b_MO_onward 75 = .ok (.iload_n 3, 1) := by decide +kernel
theorem d_MO_onward_76 : decode b_MO_onward 76 = .ok (.ireturn, 1) := by decide +kernel
theorem d_MO_onward_77 : decode b_MO_onward 77 = .ok (.aload_n 0, 1) := by decide +kernel
theorem d_MO_onward_78 : decode b_MO_onward 78 = .ok (.getfield 128, 3) := by decide +kernel
theorem d_MO_onward_81 : decode b_MO_onward 81 = .ok (.iload_n 1, 1) := by decide +kernel
theorem d_MO_onward_82 : decode b_MO_onward 82 = .ok (.iaload, 1) := by decide +kernel
theorem d_MO_onward_83 : decode b_MO_onward 83 = .ok (.iconst 4, 1) := by decide +kernel
theorem d_MO_onward_84 : decode b_MO_onward 84 = .ok (.if_icmp .ne 60, 3) := by decide +kernel
theorem d_MO_onward_87 : decode b_MO_onward 87 = .ok (.aload_n 0, 1) := by decide +kernel
theorem d_MO_onward_88 : decode b_MO_onward 88 = .ok (.getfield 196, 3) := by decide +kernel
theorem d_MO_onward_91 : decode b_MO_onward 91 = .ok (.aload_n 0, 1) := by decide +kernel
theorem d_MO_onward_92 : decode b_MO_onward 92 = .ok (.getfield 540, 3) := by decide +kernel
theorem d_MO_onward_95 : decode b_MO_onward 95 = .ok (.aload_n 0, 1) := by decide +kernel
theorem d_MO_onward_96 : decode b_MO_onward 96 = .ok (.getfield 134, 3) := by decide +kernel
theorem d_MO_onward_99 : decode b_MO_onward 99 = .ok (.iload_n 1, 1) := by decide +kernel
theorem d_MO_onward_100 : decode b_MO_onward 100 = .ok (.iaload, 1) := by decide +kernel
theorem d_MO_onward_101 : decode b_MO_onward 101 = .ok (.iastore, 1) := by decide +kernel
theorem d_MO_onward_102 : decode b_MO_onward 102 = .ok (.aload_n 0, 1) := by decide +kernel
theorem d_MO_onward_103 : decode b_MO_onward 103 = .ok (.getfield 199, 3) := by decide +kernel
theorem d_MO_onward_106 : decode b_MO_onward 106 = .ok (.aload_n 0, 1) := by decide +kernel
theorem d_MO_onward_107 : decode b_MO_onward 107 = .ok (.getfield 540, 3) := by decide +kernel
theorem d_MO_onward_110 : decode b_MO_onward 110 = .ok (.aload_n 0, 1) := by decide +kernel
theorem d_MO_onward_111 : decode b_MO_onward 111 = .ok (.getfield 190, 3) := by decide +kernel
theorem d_MO_onward_114 : decode b_MO_onward 114 = .ok (.aload_n 0, 1) := by decide +kernel
theorem d_MO_onward_115 : decode b_MO_onward 115 = .ok (.getfield 134, 3) := by decide +kernel
theorem d_MO_onward_118 : decode b_MO_onward 118 = .ok (.iload_n 1, 1) := by decide +kernel
theorem d_MO_onward_119 : decode b_MO_onward 119 = .ok (.iaload, 1) := by decide +kernel
theorem d_MO_onward_120 : decode b_MO_onward 120 = .ok (.iaload, 1) := by decide +kernel
theorem d_MO_onward_121 : decode b_MO_onward 121 = .ok (.iastore, 1) := by decide +kernel
theorem d_MO_onward_122 : decode b_MO_onward 122 = .ok (.aload_n 0, 1) := by decide +kernel
theorem d_MO_onward_123 : decode b_MO_onward 123 = .ok (.dup, 1) := by decide +kernel
theorem d_MO_onward_124 : decode b_MO_onward 124 = .ok (.getfield 540, 3) := by decide +kernel
theorem d_MO_onward_127 : decode b_MO_onward 127 = .ok (.iconst 1, 1) := by decide +kernel
theorem d_MO_onward_128 : decode b_MO_onward 128 = .ok (.iadd, 1) := by decide +kernel
theorem d_MO_onward_129 : decode b_MO_onward 129 = .ok (.putfield 540, 3) := by decide +kernel
theorem d_MO_onward_132 : decode b_MO_onward 132 = .ok (.aload_n 0, 1) := by decide +kernel
theorem d_MO_onward_133 : decode b_MO_onward 133 = .ok (.getfield 190, 3) := by decide +kernel
theorem d_MO_onward_136 : decode b_MO_onward 136 = .ok (.aload_n 0, 1) := by decide +kernel
theorem d_MO_onward_137 : decode b_MO_onward 137 = .ok (.getfield 134, 3) := by decide +kernel
theorem d_MO_onward_140 : decode b_MO_onward 140 = .ok (.iload_n 1, 1) := by decide +kernel
theorem d_MO_onward_141 : decode b_MO_onward 141 = .ok (.iaload, 1) := by decide +kernel
theorem d_MO_onward_142 : decode b_MO_onward 142 = .ok (.iload_n 2, 1) := by decide +kernel
theorem d_MO_onward_143 : decode b_MO_onward 143 = .ok (.iastore, 1) := by decide +kernel
theorem d_MO_onward_144 : decode b_MO_onward 144 = .ok (.aload_n 0, 1) := by decide +kernel
theorem d_MO_onward_145 : decode b_MO_onward 145 = .ok (.aload_n 0, 1) := by decide +kernel
theorem d_MO_onward_146 : decode b_MO_onward 146 = .ok (.getfield 131, 3) := by decide +kernel
theorem d_MO_onward_149 : decode b_MO_onward 149 = .ok (.iload_n 1, 1) := by decide +kernel
theorem d_MO_onward_150 : decode b_MO_onward 150 = .ok (.iaload, 1) := by decide +kernel
theorem d_MO_onward_151 : decode b_MO_onward 151 = .ok (.iload_n 3, 1) := by decide +kernel
theorem d_MO_onward_152 : decode b_MO_onward 152 = .ok (.invokevirtual 549, 3) := by decide +kernel
theorem d_MO_onward_155 : decode b_MO_onward 155 = .ok (.iload_n 3, 1) := by decide +kernel
theorem d_MO_onward_156 : decode b_MO_onward 156 = .ok (.iconst 1, 1) := by decide +kernel
theorem d_MO_onward_157 : decode b_MO_onward 157 = .ok (.iadd, 1) := by decide +kernel
theorem d_MO_onward_158 : decode b_MO_onward 158 = .ok (.ireturn, 1) := by decide +kernel
theorem d_MO_undo_0 : decode b_MO_undo 0 = .ok (.aload_n 0, 1) := by decide +kernel
theorem d_MO_undo_1 : decode b_MO_undo 1 = .ok (.getfield 540, 3) := by decide +kernel
theorem d_MO_undo_4 : decode b_MO_undo 4 = .ok (.iload_n 1, 1) := by decide +kernel
theorem d_MO_undo_5 : decode b_MO_undo 5 = .ok (.if_icmp .le 39, 3) := by decide +kernel
theorem d_MO_undo_8 : decode b_MO_undo 8 = .ok (.aload_n 0, 1) := by decide +kernel
theorem d_MO_undo_9 : decode b_MO_undo 9 = .ok (.dup, 1) := by decide +kernel
theorem d_MO_undo_10 : decode b_MO_undo 10 = .ok (.getfield 540, 3) := by decide +kernel
theorem d_MO_undo_13 : decode b_MO_undo 13 = .ok (.iconst 1, 1) := by decide +kernel
theorem d_MO_undo_14 : decode b_MO_undo 14 = .ok (.isub, 1) := by decide +kernel
theorem d_MO_undo_15 : decode b_MO_undo 15 = .ok (.putfield 540, 3) := by decide +kernel
theorem d_MO_undo_18 : decode b_MO_undo 18 = .ok (.aload_n 0, 1) := by decide +kernel
theorem d_MO_undo_19 : decode b_MO_undo 19 = .ok (.getfield 190, 3) := by decide +kernel
theorem d_MO_undo_22 : decode b_MO_undo 22 = .ok (.aload_n 0, 1) := by decide +kernel
theorem d_MO_undo_23 : decode b_MO_undo 23 = .ok (.getfield 196, 3) := by decide +kernel
theorem d_MO_undo_26 : decode b_MO_undo 26 = .ok (.aload_n 0, 1) := by decide +kernel
theorem d_MO_undo_27 : decode b_MO_undo 27 = .ok (.getfield 540, 3) := by decide +kernel
theorem d_MO_undo_30 : decode b_MO_undo 30 = .ok (.iaload, 1) := by decide +kernel
theorem d_MO_undo_31 : decode b_MO_undo 31 = .ok (.aload_n 0, 1) := by decide +kernel
theorem d_MO_undo_32 : decode b_MO_undo 32 = .ok (.getfield 199, 3) := by decide +kernel
theorem d_MO_undo_35 : decode b_MO_undo 35 = .ok (.aload_n 0, 1) := by decide +kernel
theorem d_MO_undo_36 : decode b_MO_undo 36 = .ok (.getfield 540, 3) := by decide +kernel
theorem d_MO_undo_39 : decode b_MO_undo 39 = .ok (.iaload, 1) := by decide +kernel
theorem d_MO_undo_40 : decode b_MO_undo 40 = .ok (.iastore, 1) := by decide +kernel
theorem d_MO_undo_41 : decode b_MO_undo 41 = .ok (.goto (-41), 3) := by decide +kernel
theorem d_MO_undo_44 : decode b_MO_undo 44 = .ok (.return_, 1) := by decide +kernel
theorem d_MO_walk_0 : decode b_MO_walk 0 = .ok (.iconst 0, 1) := by decide +kernel
theorem d_MO_walk_1 : decode b_MO_walk 1 = .ok (.istore 5, 2) := by decide +kernel
theorem d_MO_walk_3 : decode b_MO_walk 3 = .ok (.iload 5, 2) := by decide +kernel
theorem d_MO_walk_5 : decode b_MO_walk 5 = .ok (.bipush 20, 2) := by decide +kernel
theorem d_MO_walk_7 : decode b_MO_walk 7 = .ok (.if_icmp .ge 17, 3) := by decide +kernel
theorem d_MO_walk_10 : decode b_MO_walk 10 = .ok (.aload_n 0, 1) := by decide +kernel
theorem d_MO_walk_11 : decode b_MO_walk 11 = .ok (.getfield 190, 3) := by decide +kernel
theorem d_MO_walk_14 : decode b_MO_walk 14 = .ok (.iload 5, 2) := by decide +kernel
theorem d_MO_walk_16 : decode b_MO_walk 16 = .ok (.iconst (-1), 1) := by decide +kernel
theorem d_MO_walk_17 : decode b_MO_walk 17 = .ok (.iastore, 1) := by decide +kernel
theorem d_MO_walk_18 : decode b_MO_walk 18 = .ok (.iinc 5 1, 3) := by decide +kernel
theorem d_MO_walk_21 : decode b_MO_walk 21 = .ok (.goto (-18), 3) := by decide +kernel
theorem d_MO_walk_24 : decode b_MO_walk 24 = .ok (.iload_n 3, 1) := by decide +kernel
theorem d_MO_walk_25 : decode b_MO_walk 25 = .ok (.istore 5, 2) := by decide +kernel
theorem d_MO_walk_27 : decode b_MO_walk 27 = .ok (.aload_n 0, 1) := by decide +kernel
theorem d_MO_walk_28 : decode b_MO_walk 28 = .ok (.getfield 112, 3) := by decide +kernel
theorem d_MO_walk_31 : decode b_MO_walk 31 = .ok (.iload_n 2, 1) := by decide +kernel
theorem d_MO_walk_32 : decode b_MO_walk 32 = .ok (.iaload, 1) := by decide +kernel
theorem d_MO_walk_33 : decode b_MO_walk 33 = .ok (.istore 6, 2) := by decide +kernel
theorem d_MO_walk_35 : decode b_MO_walk 35 = .ok (.iconst 0, 1) := by decide +kernel
theorem d_MO_walk_36 : decode b_MO_walk 36 = .ok (.istore 7, 2) := by decide +kernel
theorem d_MO_walk_38 : decode b_MO_walk 38 = .ok (.iload 7, 2) := by decide +kernel
theorem d_MO_walk_40 : decode b_MO_walk 40 = .ok (.ifCond .ne 284, 3) := by decide +kernel
theorem d_MO_walk_43 : decode b_MO_walk 43 = .ok (.aload_n 0, 1) := by decide +kernel
theorem d_MO_walk_44 : decode b_MO_walk 44 = .ok (.iload 5, 2) := by decide +kernel
theorem d_MO_walk_46 : decode b_MO_walk 46 = .ok (.invokevirtual 522, 3) := by decide +kernel
theorem d_MO_walk_49 : decode b_MO_walk 49 = .ok (.iconst 1, 1) := by decide +kernel
theorem d_MO_walk_50 : decode b_MO_walk 50 = .ok (.istore 8, 2) := by decide +kernel
theorem d_MO_walk_52 : decode b_MO_walk 52 = .ok (.aload_n 0, 1) := by decide +kernel
theorem d_MO_walk_53 : decode b_MO_walk 53 = .ok (.getfield 202, 3) := by decide +kernel
theorem d_MO_walk_56 : decode b_MO_walk 56 = .ok (.iconst 0, 1) := by decide +kernel
theorem d_MO_walk_57 : decode b_MO_walk 57 = .ok (.iload 6, 2) := by decide +kernel
theorem d_MO_walk_59 : decode b_MO_walk 59 = .ok (.iastore, 1) := by decide +kernel
theorem d_MO_walk_60 : decode b_MO_walk 60 = .ok (.aload_n 0, 1) := by decide +kernel
theorem d_MO_walk_61 : decode b_MO_walk 61 = .ok (.getfield 205, 3) := by decide +kernel
theorem d_MO_walk_64 : decode b_MO_walk 64 = .ok (.iconst 0, 1) := by decide +kernel
theorem d_MO_walk_65 : decode b_MO_walk 65 = .ok (.iconst 0, 1) := by decide +kernel
theorem d_MO_walk_66 : decode b_MO_walk 66 = .ok (.iastore, 1) := by decide +kernel
theorem d_MO_walk_67 : decode b_MO_walk 67 = .ok (.aload_n 0, 1) := by decide +kernel
theorem d_MO_walk_68 : decode b_MO_walk 68 = .ok (.iconst 0, 1) := by decide +kernel
theorem d_MO_walk_69 : decode b_MO_walk 69 = .ok (.putfield 540, 3) := by decide +kernel
theorem d_MO_walk_72 : decode b_MO_walk 72 = .ok (.iconst 0, 1) := by decide +kernel
theorem d_MO_walk_73 : decode b_MO_walk 73 = .ok (.istore 9, 2) := by decide +kernel
theorem d_MO_walk_75 : decode b_MO_walk 75 = .ok (.iload 9, 2) := by decide +kernel
theorem d_MO_walk_77 : decode b_MO_walk 77 = .ok (.aload_n 0, 1) := by decide +kernel
theorem d_MO_walk_78 : decode b_MO_walk 78 = .ok (.getfield 124, 3) := by decide +kernel
theorem d_MO_walk_81 : decode b_MO_walk 81 = .ok (.iload_n 2, 1) := by decide +kernel
theorem d_MO_walk_82 : decode b_MO_walk 82 = .ok (.iaload, 1) := by decide +kernel
theorem d_MO_walk_83 : decode b_MO_walk 83 = .ok (.if_icmp .ge 17, 3) := by decide +kernel
theorem d_MO_walk_86 : decode b_MO_walk 86 = .ok (.aload_n 0, 1) := by decide +kernel
theorem d_MO_walk_87 : decode b_MO_walk 87 = .ok (.getfield 208, 3) := by decide +kernel
theorem d_MO_walk_90 : decode b_MO_walk 90 = .ok (.iload 9, 2) := by decide +kernel
theorem d_MO_walk_92 : decode b_MO_walk 92 = .ok (.iconst 0, 1) := by decide +kernel
theorem d_MO_walk_93 : decode b_MO_walk 93 = .ok (.bastore, 1) := by decide +kernel
theorem d_MO_walk_94 : decode b_MO_walk 94 = .ok (.iinc 9 1, 3) := by decide +kernel
theorem d_MO_walk_97 : decode b_MO_walk 97 = .ok (.goto (-22), 3) := by decide +kernel
theorem d_MO_walk_100 : decode b_MO_walk 100 = .ok (.iconst 0, 1) := by decide +kernel
theorem d_MO_walk_101 : decode b_MO_walk 101 = .ok (.istore 9, 2) := by decide +kernel
theorem d_MO_walk_103 : decode b_MO_walk 103 = .ok (.iload 9, 2) := by decide +kernel
theorem d_MO_walk_105 : decode b_MO_walk 105 = .ok (.ifCond .ne 216, 3) := by decide +kernel
theorem d_MO_walk_108 : decode b_MO_walk 108 = .ok (.iload 7, 2) := by decide +kernel
theorem d_MO_walk_110 : decode b_MO_walk 110 = .ok (.ifCond .ne 211, 3) := by decide +kernel
theorem d_MO_walk_113 : decode b_MO_walk 113 = .ok (.iload 8, 2) := by decide +kernel
theorem d_MO_walk_115 : decode b_MO_walk 115 = .ok (.ifCond .le 206, 3) := by decide +kernel
theorem d_MO_walk_118 : decode b_MO_walk 118 = .ok (.iinc 8 (-1), 3) := by decide +kernel
theorem d_MO_walk_121 : decode b_MO_walk 121 = .ok (.aload_n 0, 1) := by decide +kernel
theorem d_MO_walk_122 : decode b_MO_walk 122 = .ok (.aload_n 0, 1) := by decide +kernel
theorem d_MO_walk_123 : decode b_MO_walk 123 = .ok (.getfield 205, 3) := by decide +kernel
theorem d_MO_walk_126 : decode b_MO_walk 126 = .ok (.iload 8, 2) := by decide +kernel
theorem d_MO_walk_128 : decode b_MO_walk 128 = .ok (.iaload, 1) := by decide +kernel
theorem d_MO_walk_129 : decode b_MO_walk 129 = .ok (.invokevirtual 543, 3) := by decide +kernel
theorem d_MO_walk_132 : decode b_MO_walk 132 = .ok (.aload_n 0, 1) := by decide +kernel
theorem d_MO_walk_133 : decode b_MO_walk 133 = .ok (.getfield 202, 3) := by decide +kernel
theorem d_MO_walk_136 : decode b_MO_walk 136 = .ok (.iload 8, 2) := by decide +kernel
theorem d_MO_walk_138 : decode b_MO_walk 138 = .ok (.iaload, 1) := by decide +kernel
theorem d_MO_walk_139 : decode b_MO_walk 139 = .ok (.istore 6, 2) := by decide +kernel
theorem d_MO_walk_141 : decode b_MO_walk 141 = .ok (.aload_n 0, 1) := by decide +kernel
theorem d_MO_walk_142 : decode b_MO_walk 142 = .ok (.getfield 208, 3) := by decide +kernel
theorem d_MO_walk_145 : decode b_MO_walk 145 = .ok (.iload 6, 2) := by decide +kernel
theorem d_MO_walk_147 : decode b_MO_walk 147 = .ok (.baload, 1) := by decide +kernel
theorem d_MO_walk_148 : decode b_MO_walk 148 = .ok (.ifCond .eq 6, 3) := by decide +kernel
theorem d_MO_walk_151 : decode b_MO_walk 151 = .ok (.goto (-48), 3) := by decide +kernel
theorem d_MO_walk_154 : decode b_MO_walk 154 = .ok (.aload_n 0, 1) := by decide +kernel
theorem d_MO_walk_155 : decode b_MO_walk 155 = .ok (.getfield 208, 3) := by decide +kernel
theorem d_MO_walk_158 : decode b_MO_walk 158 = .ok (.iload 6, 2) := by decide +kernel
theorem d_MO_walk_160 : decode b_MO_walk 160 = .ok (.iconst 1, 1) := by decide +kernel
theorem d_MO_walk_161 : decode b_MO_walk 161 = .ok (.bastore, 1) := by decide +kernel
theorem d_MO_walk_162 : decode b_MO_walk 162 = .ok (.sipush 12500, 3) := by decide +kernel
theorem d_MO_walk_165 : decode b_MO_walk 165 = .ok (.iload_n 2, 1) := by decide +kernel
theorem d_MO_walk_166 : decode b_MO_walk 166 = .ok (.imul, 1) := by decide +kernel
theorem d_MO_walk_167 : decode b_MO_walk 167 = .ok (.iload 6, 2) := by decide +kernel
theorem d_MO_walk_169 : decode b_MO_walk 169 = .ok (.iadd, 1) := by decide +kernel
theorem d_MO_walk_170 : decode b_MO_walk 170 = .ok (.istore 10, 2) := by decide +kernel
theorem d_MO_walk_172 : decode b_MO_walk 172 = .ok (.aload_n 0, 1) := by decide +kernel
theorem d_MO_walk_173 : decode b_MO_walk 173 = .ok (.iload 10, 2) := by decide +kernel
theorem d_MO_walk_175 : decode b_MO_walk 175 = .ok (.iload 5, 2) := by decide +kernel
theorem d_MO_walk_177 : decode b_MO_walk 177 = .ok (.invokevirtual 525, 3) := by decide +kernel
theorem d_MO_walk_180 : decode b_MO_walk 180 = .ok (.istore 11, 2) := by decide +kernel
theorem d_MO_walk_182 : decode b_MO_walk 182 = .ok (.aload_n 0, 1) := by decide +kernel
theorem d_MO_walk_183 : decode b_MO_walk 183 = .ok (.getfield 128, 3) := by decide +kernel
theorem d_MO_walk_186 : decode b_MO_walk 186 = .ok (.iload 10, 2) := by decide +kernel
theorem d_MO_walk_188 : decode b_MO_walk 188 = .ok (.iaload, 1) := by decide +kernel
theorem d_MO_walk_189 : decode b_MO_walk 189 = .ok (.ifCond .ne 25, 3) := by decide +kernel
theorem d_MO_walk_192 : decode b_MO_walk 192 = .ok (.iload 4, 2) := by decide +kernel
theorem d_MO_walk_194 : decode b_MO_walk 194 = .ok (.ifCond .lt 10, 3) := by decide +kernel
theorem d_MO_walk_197 : decode b_MO_walk 197 = .ok (.iload 5, 2) := by decide +kernel
theorem d_MO_walk_199 : decode b_MO_walk 199 = .ok (.iload 4, 2) := by decide +kernel
theorem d_MO_walk_201 : decode b_MO_walk 201 = .ok (.if_icmp .ne 7, 3) := by decide +kernel
theorem d_MO_walk_204 : decode b_MO_walk 204 = .ok (.iconst 1, 1) := by decide +kernel
theorem d_MO_walk_205 : decode b_MO_walk 205 = .ok (.goto 4, 3) := by decide +kernel
theorem d_MO_walk_208 : decode b_MO_walk 208 = .ok (.iconst 0, 1) := by decide +kernel
theorem d_MO_walk_209 : decode b_MO_walk 209 = .ok (.istore 7, 2) := by decide +kernel
theorem d_MO_walk_211 : decode b_MO_walk 211 = .ok (.goto 107, 3) := by decide +kernel
theorem d_MO_walk_214 : decode b_MO_walk 214 = .ok (.aload_n 0, 1) := by decide +kernel
theorem d_MO_walk_215 : decode b_MO_walk 215 = .ok (.getfield 128, 3) := by decide +kernel
theorem d_MO_walk_218 : decode b_MO_walk 218 = .ok (.iload 10, 2) := by decide +kernel
theorem d_MO_walk_220 : decode b_MO_walk 220 = .ok (.iaload, 1) := by decide +kernel
theorem d_MO_walk_221 : decode b_MO_walk 221 = .ok (.iconst 1, 1) := by decide +kernel
theorem d_MO_walk_222 : decode b_MO_walk 222 = .ok (.if_icmp .eq 14, 3) := by decide +kernel
theorem d_MO_walk_225 : decode b_MO_walk 225 = .ok (.aload_n 0, 1) := by decide +kernel
theorem d_MO_walk_226 : decode b_MO_walk 226 = .ok (.getfield 128, 3) := by decide +kernel
theorem d_MO_walk_229 : decode b_MO_walk 229 = .ok (.iload 10, 2) := by decide +kernel
theorem d_MO_walk_231 : decode b_MO_walk 231 = .ok (.iaload, 1) := by decide +kernel
theorem d_MO_walk_232 : decode b_MO_walk 232 = .ok (.iconst 2, 1) := by decide +kernel
theorem d_MO_walk_233 : decode b_MO_walk 233 = .ok (.if_icmp .ne 73, 3) := by decide +kernel
theorem d_MO_walk_236 : decode b_MO_walk 236 = .ok (.iload 11, 2) := by decide +kernel
theorem d_MO_walk_238 : decode b_MO_walk 238 = .ok (.ifCond .le 41, 3) := by decide +kernel
theorem d_MO_walk_241 : decode b_MO_walk 241 = .ok (.iload 4, 2) := by decide +kernel
theorem d_MO_walk_243 : decode b_MO_walk 243 = .ok (.ifCond .lt 13, 3) := by decide +kernel
theorem d_MO_walk_246 : decode b_MO_walk 246 = .ok (.iload 5, 2) := by decide +kernel
theorem d_MO_walk_248 : decode b_MO_walk 248 = .ok (.iload 11, 2) := by decide +kernel
theorem d_MO_walk_250 : decode b_MO_walk 250 = .ok (.iadd, 1) := by decide +kernel
theorem d_MO_walk_251 : decode b_MO_walk 251 = .ok (.iload 4, 2) := by decide +kernel
theorem d_MO_walk_253 : decode b_MO_walk 253 = .ok (.if_icmp .gt 26, 3) := by decide +kernel
theorem d_MO_walk_256 : decode b_MO_walk 256 = .ok (.aload_n 1, 1) := by decide +kernel
theorem d_MO_walk_257 : decode b_MO_walk 257 = .ok (.iload 5, 2) := by decide +kernel
theorem d_MO_walk_259 : decode b_MO_walk 259 = .ok (.iload 11, 2) := by decide +kernel
theorem d_MO_walk_261 : decode b_MO_walk 261 = .ok (.iadd, 1) := by decide +kernel
theorem d_MO_walk_262 : decode b_MO_walk 262 = .ok (.aload_n 0, 1) := by decide +kernel
theorem d_MO_walk_263 : decode b_MO_walk 263 = .ok (.getfield 131, 3) := by decide +kernel
theorem d_MO_walk_266 : decode b_MO_walk 266 = .ok (.iload 10, 2) := by decide +kernel
theorem d_MO_walk_268 : decode b_MO_walk 268 = .ok (.iaload, 1) := by decide +kernel
theorem d_MO_walk_269 : decode b_MO_walk 269 = .ok (.invokestatic 528, 3) := by decide +kernel
theorem d_MO_walk_272 : decode b_MO_walk 272 = .ok (.ifCond .eq 7, 3) := by decide +kernel
theorem d_MO_walk_275 : decode b_MO_walk 275 = .ok (.iconst 1, 1) := by decide +kernel
theorem d_MO_walk_276 : decode b_MO_walk 276 = .ok (.goto 4, 3) := by decide +kernel
theorem d_MO_walk_279 : decode b_MO_walk 279 = .ok (.iconst 0, 1) := by decide +kernel
theorem d_MO_walk_280 : decode b_MO_walk 280 = .ok (.istore 9, 2) := by decide +kernel
theorem d_MO_walk_282 : decode b_MO_walk 282 = .ok (.iload 9, 2) := by decide +kernel
theorem d_MO_walk_284 : decode b_MO_walk 284 = .ok (.ifCond .eq 34, 3) := by decide +kernel
theorem d_MO_walk_287 : decode b_MO_walk 287 = .ok (.aload_n 0, 1) := by decide +kernel
theorem d_MO_walk_288 : decode b_MO_walk 288 = .ok (.getfield 131, 3) := by decide +kernel
theorem d_MO_walk_291 : decode b_MO_walk 291 = .ok (.iload 10, 2) := by decide +kernel
theorem d_MO_walk_293 : decode b_MO_walk 293 = .ok (.iaload, 1) := by decide +kernel
theorem d_MO_walk_294 : decode b_MO_walk 294 = .ok (.istore 6, 2) := by decide +kernel
theorem d_MO_walk_296 : decode b_MO_walk 296 = .ok (.iload 5, 2) := by decide +kernel
theorem d_MO_walk_298 : decode b_MO_walk 298 = .ok (.iload 11, 2) := by decide +kernel
theorem d_MO_walk_300 : decode b_MO_walk 300 = .ok (.iadd, 1) := by decide +kernel
theorem d_MO_walk_301 : decode b_MO_walk 301 = .ok (.istore 5, 2) := by decide +kernel
theorem d_MO_walk_303 : decode b_MO_walk 303 = .ok (.goto 15, 3) := by decide +kernel
theorem d_MO_walk_306 : decode b_MO_walk 306 = .ok (.aload_n 0, 1) := by decide +kernel
theorem d_MO_walk_307 : decode b_MO_walk 307 = .ok (.iload 10, 2) := by decide +kernel
theorem d_MO_walk_309 : decode b_MO_walk 309 = .ok (.iload 5, 2) := by decide +kernel
theorem d_MO_walk_311 : decode b_MO_walk 311 = .ok (.iload 8, 2) := by decide +kernel
theorem d_MO_walk_313 : decode b_MO_walk 313 = .ok (.invokevirtual 546, 3) := by decide +kernel
theorem d_MO_walk_316 : decode b_MO_walk 316 = .ok (.istore 8, 2) := by decide +kernel
theorem d_MO_walk_318 : decode b_MO_walk 318 = .ok (.goto (-215), 3) := by decide +kernel
theorem d_MO_walk_321 : decode b_MO_walk 321 = .ok (.goto (-283), 3) := by decide +kernel
theorem d_MO_walk_324 : decode b_MO_walk 324 = .ok (.aload_n 0, 1) := by decide +kernel
theorem d_MO_walk_325 : decode b_MO_walk 325 = .ok (.getfield 190, 3) := by decide +kernel
theorem d_MO_walk_328 : decode b_MO_walk 328 = .ok (.iconst 0, 1) := by decide +kernel
theorem d_MO_walk_329 : decode b_MO_walk 329 = .ok (.iload_n 3, 1) := by decide +kernel
theorem d_MO_walk_330 : decode b_MO_walk 330 = .ok (.iastore, 1) := by decide +kernel
theorem d_MO_walk_331 : decode b_MO_walk 331 = .ok (.aload_n 0, 1) := by decide +kernel
theorem d_MO_walk_332 : decode b_MO_walk 332 = .ok (.getfield 190, 3) := by decide +kernel
theorem d_MO_walk_335 : decode b_MO_walk 335 = .ok (.iconst 1, 1) := by decide +kernel
theorem d_MO_walk_336 : decode b_MO_walk 336 = .ok (.iload 5, 2) := by decide +kernel
theorem d_MO_walk_338 : decode b_MO_walk 338 = .ok (.iastore, 1) := by decide +kernel
theorem d_MO_walk_339 : decode b_MO_walk 339 = .ok (.return_, 1) := by decide +kernel
