theorem d_OM_arrive_0 : decode b_OM_arrive 0 = .ok (.aload_n 0, 1) := by decide +kernel
theorem d_OM_arrive_1 : decode b_OM_arrive 1 = .ok (.getfield 108, 3) := by decide +kernel
theorem d_OM_arrive_4 : decode b_OM_arrive 4 = .ok (.iconst 2, 1) := by decide +kernel
theorem d_OM_arrive_5 : decode b_OM_arrive 5 = .ok (.if_icmp .ne 16, 3) := by decide +kernel
theorem d_OM_arrive_8 : decode b_OM_arrive 8 = .ok (.iload_n 1, 1) := by decide +kernel
theorem d_OM_arrive_9 : decode b_OM_arrive 9 = .ok (.aload_n 0, 1) := by decide +kernel
theorem d_OM_arrive_10 : decode b_OM_arrive 10 = .ok (.getfield 104, 3) := by decide +kernel
theorem d_OM_arrive_13 : decode b_OM_arrive 13 = .ok (.getfield 127, 3) := by decide +kernel
theorem d_OM_arrive_16 : decode b_OM_arrive 16 = .ok (.if_icmp .ge 5, 3) := by decide +kernel
theorem d_OM_arrive_19 : decode b_OM_arrive 19 = .ok (.iconst 0, 1) := by decide +kernel
theorem d_OM_arrive_20 : decode b_OM_arrive 20 = .ok (.ireturn, 1) := by decide +kernel
theorem d_OM_arrive_21 : decode b_OM_arrive 21 = .ok (.aload_n 0, 1) := by decide +kernel
theorem d_OM_arrive_22 : decode b_OM_arrive 22 = .ok (.getfield 15, 3) := by decide +kernel
theorem d_OM_arrive_25 : decode b_OM_arrive 25 = .ok (.iconst 0, 1) := by decide +kernel
theorem d_OM_arrive_26 : decode b_OM_arrive 26 = .ok (.aload_n 0, 1) := by decide +kernel
theorem d_OM_arrive_27 : decode b_OM_arrive 27 = .ok (.getfield 9, 3) := by decide +kernel
theorem d_OM_arrive_30 : decode b_OM_arrive 30 = .ok (.iconst 0, 1) := by decide +kernel
theorem d_OM_arrive_31 : decode b_OM_arrive 31 = .ok (.aload_n 0, 1) := by decide +kernel
theorem d_OM_arrive_32 : decode b_OM_arrive 32 = .ok (.getfield 47, 3) := by decide +kernel
theorem d_OM_arrive_35 : decode b_OM_arrive 35 = .ok (.getfield 121, 3) := by decide +kernel
theorem d_OM_arrive_38 : decode b_OM_arrive 38 = .ok (.invokestatic 142, 3) := by decide +kernel
theorem d_OM_arrive_41 : decode b_OM_arrive 41 = .ok (.aload_n 0, 1) := by decide +kernel
theorem d_OM_arrive_42 : decode b_OM_arrive 42 = .ok (.getfield 9, 3) := by decide +kernel
theorem d_OM_arrive_45 : decode b_OM_arrive 45 = .ok (.iconst 1, 1) := by decide +kernel
theorem d_OM_arrive_46 : decode b_OM_arrive 46 = .ok (.iload_n 1, 1) := by decide +kernel
theorem d_OM_arrive_47 : decode b_OM_arrive 47 = .ok (.iastore, 1) := by decide +kernel
theorem d_OM_arrive_48 : decode b_OM_arrive 48 = .ok (.aload_n 0, 1) := by decide +kernel
theorem d_OM_arrive_49 : decode b_OM_arrive 49 = .ok (.iconst 1, 1) := by decide +kernel
theorem d_OM_arrive_50 : decode b_OM_arrive 50 = .ok (.putfield 118, 3) := by decide +kernel
theorem d_OM_arrive_53 : decode b_OM_arrive 53 = .ok (.aload_n 0, 1) := by decide +kernel
theorem d_OM_arrive_54 : decode b_OM_arrive 54 = .ok (.getfield 114, 3) := by decide +kernel
theorem d_OM_arrive_57 : decode b_OM_arrive 57 = .ok (.ireturn, 1) := by decide +kernel
theorem d_OM_choose_0 : decode b_OM_choose 0 = .ok (.aload_n 0, 1) := by decide +kernel
theorem d_OM_choose_1 : decode b_OM_choose 1 = .ok (.getfield 34, 3) := by decide +kernel
theorem d_OM_choose_4 : decode b_OM_choose 4 = .ok (.iconst 0, 1) := by decide +kernel
theorem d_OM_choose_5 : decode b_OM_choose 5 = .ok (.iload_n 1, 1) := by decide +kernel
theorem d_OM_choose_6 : decode b_OM_choose 6 = .ok (.iastore, 1) := by decide +kernel
theorem d_OM_choose_7 : decode b_OM_choose 7 = .ok (.aload_n 0, 1) := by decide +kernel
theorem d_OM_choose_8 : decode b_OM_choose 8 = .ok (.iconst 1, 1) := by decide +kernel
theorem d_OM_choose_9 : decode b_OM_choose 9 = .ok (.putfield 76, 3) := by decide +kernel
theorem d_OM_choose_12 : decode b_OM_choose 12 = .ok (.iconst 0, 1) := by decide +kernel
theorem d_OM_choose_13 : decode b_OM_choose 13 = .ok (.istore_n 3, 1) := by decide +kernel
theorem d_OM_choose_14 : decode b_OM_choose 14 = .ok (.iconst 0, 1) := by decide +kernel
theorem d_OM_choose_15 : decode b_OM_choose 15 = .ok (.istore 4, 2) := by decide +kernel
theorem d_OM_choose_17 : decode b_OM_choose 17 = .ok (.iload 4, 2) := by decide +kernel
theorem d_OM_choose_19 : decode b_OM_choose 19 = .ok (.sipush 1616, 3) := by decide +kernel
theorem d_OM_choose_22 : decode b_OM_choose 22 = .ok (.if_icmp .ge 157, 3) := by decide +kernel
theorem d_OM_choose_25 : decode b_OM_choose 25 = .ok (.aload_n 0, 1) := by decide +kernel
theorem d_OM_choose_26 : decode b_OM_choose 26 = .ok (.getfield 76, 3) := by decide +kernel
theorem d_OM_choose_29 : decode b_OM_choose 29 = .ok (.ifCond .le 150, 3) := by decide +kernel
theorem d_OM_choose_32 : decode b_OM_choose 32 = .ok (.iload_n 3, 1) := by decide +kernel
theorem d_OM_choose_33 : decode b_OM_choose 33 = .ok (.ifCond .ne 146, 3) := by decide +kernel
theorem d_OM_choose_36 : decode b_OM_choose 36 = .ok (.aload_n 0, 1) := by decide +kernel
theorem d_OM_choose_37 : decode b_OM_choose 37 = .ok (.dup, 1) := by decide +kernel
theorem d_OM_choose_38 : decode b_OM_choose 38 = .ok (.getfield 79, 3) := by decide +kernel
theorem d_OM_choose_41 : decode b_OM_choose 41 = .ok (.lconst 1, 1) := by decide +kernel
theorem d_OM_choose_42 : decode b_OM_choose 42 = .ok (.ladd, 1) := by decide +kernel
theorem d_OM_choose_43 : decode b_OM_choose 43 = .ok (.putfield 79, 3) := by decide +kernel
theorem d_OM_choose_46 : decode b_OM_choose 46 = .ok (.aload_n 0, 1) := by decide +kernel
theorem d_OM_choose_47 : decode b_OM_choose 47 = .ok (.dup, 1) := by decide +kernel
theorem d_OM_choose_48 : decode b_OM_choose 48 = .ok (.getfield 76, 3) := by decide +kernel
theorem d_OM_choose_51 : decode b_OM_choose 51 = .ok (.iconst 1, 1) := by decide +kernel
theorem d_OM_choose_52 : decode b_OM_choose 52 = .ok (.isub, 1) := by decide +kernel
theorem d_OM_choose_53 : decode b_OM_choose 53 = .ok (.putfield 76, 3) := by decide +kernel
theorem d_OM_choose_56 : decode b_OM_choose 56 = .ok (.aload_n 0, 1) := by decide +kernel
theorem d_OM_choose_57 : decode b_OM_choose 57 = .ok (.getfield 34, 3) := by decide +kernel
theorem d_OM_choose_60 : decode b_OM_choose 60 = .ok (.aload_n 0, 1) := by decide +kernel
theorem d_OM_choose_61 : decode b_OM_choose 61 = .ok (.getfield 76, 3) := by decide +kernel
theorem d_OM_choose_64 : decode b_OM_choose 64 = .ok (.iaload, 1) := by decide +kernel
theorem d_OM_choose_65 : decode b_OM_choose 65 = .ok (.istore 5, 2) := by decide +kernel
theorem d_OM_choose_67 : decode b_OM_choose 67 = .ok (.iload 5, 2) := by decide +kernel
theorem d_OM_choose_69 : decode b_OM_choose 69 = .ok (.ifCond .ge 15, 3) := by decide +kernel
theorem d_OM_choose_72 : decode b_OM_choose 72 = .ok (.aload_n 0, 1) := by decide +kernel
theorem d_OM_choose_73 : decode b_OM_choose 73 = .ok (.getfield 15, 3) := by decide +kernel
theorem d_OM_choose_76 : decode b_OM_choose 76 = .ok (.iload 5, 2) := by decide +kernel
theorem d_OM_choose_78 : decode b_OM_choose 78 = .ok (.invokestatic 148, 3) := by decide +kernel
theorem d_OM_choose_81 : decode b_OM_choose 81 = .ok (.goto 92, 3) := by decide +kernel
theorem d_OM_choose_84 : decode b_OM_choose 84 = .ok (.aload_n 0, 1) := by decide +kernel
theorem d_OM_choose_85 : decode b_OM_choose 85 = .ok (.getfield 47, 3) := by decide +kernel
theorem d_OM_choose_88 : decode b_OM_choose 88 = .ok (.getfield 83, 3) := by decide +kernel
theorem d_OM_choose_91 : decode b_OM_choose 91 = .ok (.iload 5, 2) := by decide +kernel
theorem d_OM_choose_93 : decode b_OM_choose 93 = .ok (.iaload, 1) := by decide +kernel
theorem d_OM_choose_94 : decode b_OM_choose 94 = .ok (.bipush 8, 2) := by decide +kernel
theorem d_OM_choose_96 : decode b_OM_choose 96 = .ok (.if_icmp .ne 12, 3) := by decide +kernel
theorem d_OM_choose_99 : decode b_OM_choose 99 = .ok (.aload_n 0, 1) := by decide +kernel
theorem d_OM_choose_100 : decode b_OM_choose 100 = .ok (.iload_n 2, 1) := by decide +kernel
theorem d_OM_choose_101 : decode b_OM_choose 101 = .ok (.invokevirtual 151, 3) := by decide +kernel
theorem d_OM_choose_104 : decode b_OM_choose 104 = .ok (.istore_n 3, 1) := by decide +kernel
theorem d_OM_choose_105 : decode b_OM_choose 105 = .ok (.goto 68, 3) := by decide +kernel
theorem d_OM_choose_108 : decode b_OM_choose 108 = .ok (.aload_n 0, 1) := by decide +kernel
theorem d_OM_choose_109 : decode b_OM_choose 109 = .ok (.getfield 47, 3) := by decide +kernel
theorem d_OM_choose_112 : decode b_OM_choose 112 = .ok (.iload 5, 2) := by decide +kernel
theorem d_OM_choose_114 : decode b_OM_choose 114 = .ok (.invokevirtual 70, 3) := by decide +kernel
theorem d_OM_choose_117 : decode b_OM_choose 117 = .ok (.ifCond .eq 49, 3) := by decide +kernel
theorem d_OM_choose_120 : decode b_OM_choose 120 = .ok (.aload_n 0, 1) := by decide +kernel
theorem d_OM_choose_121 : decode b_OM_choose 121 = .ok (.getfield 47, 3) := by decide +kernel
theorem d_OM_choose_124 : decode b_OM_choose 124 = .ok (.iload 5, 2) := by decide +kernel
theorem d_OM_choose_126 : decode b_OM_choose 126 = .ok (.aload_n 0, 1) := by decide +kernel
theorem d_OM_choose_127 : decode b_OM_choose 127 = .ok (.getfield 104, 3) := by decide +kernel
theorem d_OM_choose_130 : decode b_OM_choose 130 = .ok (.iload_n 2, 1) := by decide +kernel
theorem d_OM_choose_131 : decode b_OM_choose 131 = .ok (.invokevirtual 138, 3) := by decide +kernel
theorem d_OM_choose_134 : decode b_OM_choose 134 = .ok (.ifCond .le 39, 3) := by decide +kernel
theorem d_OM_choose_137 : decode b_OM_choose 137 = .ok (.aload_n 0, 1) := by decide +kernel
theorem d_OM_choose_138 : decode b_OM_choose 138 = .ok (.iload 5, 2) := by decide +kernel
theorem d_OM_choose_140 : decode b_OM_choose 140 = .ok (.putfield 132, 3) := by decide +kernel
theorem d_OM_choose_143 : decode b_OM_choose 143 = .ok (.aload_n 0, 1) := by decide +kernel
theorem d_OM_choose_144 : decode b_OM_choose 144 = .ok (.getfield 15, 3) := by decide +kernel
theorem d_OM_choose_147 : decode b_OM_choose 147 = .ok (.iconst 0, 1) := by decide +kernel
theorem d_OM_choose_148 : decode b_OM_choose 148 = .ok (.aload_n 0, 1) := by decide +kernel
theorem d_OM_choose_149 : decode b_OM_choose 149 = .ok (.getfield 18, 3) := by decide +kernel
theorem d_OM_choose_152 : decode b_OM_choose 152 = .ok (.iconst 0, 1) := by decide +kernel
theorem d_OM_choose_153 : decode b_OM_choose 153 = .ok (.aload_n 0, 1) := by decide +kernel
theorem d_OM_choose_154 : decode b_OM_choose 154 = .ok (.getfield 47, 3) := by decide +kernel
theorem d_OM_choose_157 : decode b_OM_choose 157 = .ok (.getfield 121, 3) := by decide +kernel
theorem d_OM_choose_160 : decode b_OM_choose 160 = .ok (.invokestatic 142, 3) := by decide +kernel
theorem d_OM_choose_163 : decode b_OM_choose 163 = .ok (.goto 10, 3) := by decide +kernel
theorem d_OM_choose_166 : decode b_OM_choose 166 = .ok (.aload_n 0, 1) := by decide +kernel
theorem d_OM_choose_167 : decode b_OM_choose 167 = .ok (.iload 5, 2) := by decide +kernel
theorem d_OM_choose_169 : decode b_OM_choose 169 = .ok (.iload_n 2, 1) := by decide +kernel
theorem d_OM_choose_170 : decode b_OM_choose 170 = .ok (.invokevirtual 154, 3) := by decide +kernel
theorem d_OM_choose_173 : decode b_OM_choose 173 = .ok (.iinc 4 1, 3) := by decide +kernel
theorem d_OM_choose_176 : decode b_OM_choose 176 = .ok (.goto (-159), 3) := by decide +kernel
theorem d_OM_choose_179 : decode b_OM_choose 179 = .ok (.return_, 1) := by decide +kernel
theorem d_OM_find_0 : decode b_OM_find 0 = .ok (.aload_n 0, 1) := by decide +kernel
theorem d_OM_find_1 : decode b_OM_find 1 = .ok (.aload_n 1, 1) := by decide +kernel
theorem d_OM_find_2 : decode b_OM_find 2 = .ok (.putfield 47, 3) := by decide +kernel
theorem d_OM_find_5 : decode b_OM_find 5 = .ok (.aload_n 0, 1) := by decide +kernel
theorem d_OM_find_6 : decode b_OM_find 6 = .ok (.aload_n 2, 1) := by decide +kernel
theorem d_OM_find_7 : decode b_OM_find 7 = .ok (.putfield 104, 3) := by decide +kernel
theorem d_OM_find_10 : decode b_OM_find 10 = .ok (.aload_n 0, 1) := by decide +kernel
theorem d_OM_find_11 : decode b_OM_find 11 = .ok (.iload_n 3, 1) := by decide +kernel
theorem d_OM_find_12 : decode b_OM_find 12 = .ok (.putfield 108, 3) := by decide +kernel
theorem d_OM_find_15 : decode b_OM_find 15 = .ok (.aload_n 0, 1) := by decide +kernel
theorem d_OM_find_16 : decode b_OM_find 16 = .ok (.aload 5, 2) := by decide +kernel
theorem d_OM_find_18 : decode b_OM_find 18 = .ok (.putfield 9, 3) := by decide +kernel
theorem d_OM_find_21 : decode b_OM_find 21 = .ok (.aload_n 0, 1) := by decide +kernel
theorem d_OM_find_22 : decode b_OM_find 22 = .ok (.iload_n 3, 1) := by decide +kernel
theorem d_OM_find_23 : decode b_OM_find 23 = .ok (.iconst 2, 1) := by decide +kernel
theorem d_OM_find_24 : decode b_OM_find 24 = .ok (.if_icmp .eq 16, 3) := by decide +kernel
theorem d_OM_find_27 : decode b_OM_find 27 = .ok (.aload_n 1, 1) := by decide +kernel
theorem d_OM_find_28 : decode b_OM_find 28 = .ok (.bipush 16, 2) := by decide +kernel
theorem d_OM_find_30 : decode b_OM_find 30 = .ok (.invokevirtual 111, 3) := by decide +kernel
theorem d_OM_find_33 : decode b_OM_find 33 = .ok (.ifCond .ne 7, 3) := by decide +kernel
theorem d_OM_find_36 : decode b_OM_find 36 = .ok (.iconst 1, 1) := by decide +kernel
theorem d_OM_find_37 : decode b_OM_find 37 = .ok (.goto 4, 3) := by decide +kernel
theorem d_OM_find_40 : decode b_OM_find 40 = .ok (.iconst 0, 1) := by decide +kernel
theorem d_OM_find_41 : decode b_OM_find 41 = .ok (.putfield 114, 3) := by decide +kernel
theorem d_OM_find_44 : decode b_OM_find 44 = .ok (.aload_n 0, 1) := by decide +kernel
theorem d_OM_find_45 : decode b_OM_find 45 = .ok (.iconst 0, 1) := by decide +kernel
theorem d_OM_find_46 : decode b_OM_find 46 = .ok (.putfield 118, 3) := by decide +kernel
theorem d_OM_find_49 : decode b_OM_find 49 = .ok (.aload_n 0, 1) := by decide +kernel
theorem d_OM_find_50 : decode b_OM_find 50 = .ok (.getfield 15, 3) := by decide +kernel
theorem d_OM_find_53 : decode b_OM_find 53 = .ok (.iconst 0, 1) := by decide +kernel
theorem d_OM_find_54 : decode b_OM_find 54 = .ok (.aload_n 1, 1) := by decide +kernel
theorem d_OM_find_55 : decode b_OM_find 55 = .ok (.getfield 121, 3) := by decide +kernel
theorem d_OM_find_58 : decode b_OM_find 58 = .ok (.iconst (-1), 1) := by decide +kernel
theorem d_OM_find_59 : decode b_OM_find 59 = .ok (.invokestatic 124, 3) := by decide +kernel
theorem d_OM_find_62 : decode b_OM_find 62 = .ok (.aload_n 0, 1) := by decide +kernel
theorem d_OM_find_63 : decode b_OM_find 63 = .ok (.getfield 15, 3) := by decide +kernel
theorem d_OM_find_66 : decode b_OM_find 66 = .ok (.iconst 0, 1) := by decide +kernel
theorem d_OM_find_67 : decode b_OM_find 67 = .ok (.iload 4, 2) := by decide +kernel
theorem d_OM_find_69 : decode b_OM_find 69 = .ok (.iastore, 1) := by decide +kernel
theorem d_OM_find_70 : decode b_OM_find 70 = .ok (.aload_n 1, 1) := by decide +kernel
theorem d_OM_find_71 : decode b_OM_find 71 = .ok (.getfield 57, 3) := by decide +kernel
theorem d_OM_find_74 : decode b_OM_find 74 = .ok (.istore 6, 2) := by decide +kernel
theorem d_OM_find_76 : decode b_OM_find 76 = .ok (.iload 4, 2) := by decide +kernel
theorem d_OM_find_78 : decode b_OM_find 78 = .ok (.istore 7, 2) := by decide +kernel
theorem d_OM_find_80 : decode b_OM_find 80 = .ok (.iconst 0, 1) := by decide +kernel
theorem d_OM_find_81 : decode b_OM_find 81 = .ok (.istore 8, 2) := by decide +kernel
theorem d_OM_find_83 : decode b_OM_find 83 = .ok (.iload 8, 2) := by decide +kernel
theorem d_OM_find_85 : decode b_OM_find 85 = .ok (.aload_n 2, 1) := by decide +kernel
theorem d_OM_find_86 : decode b_OM_find 86 = .ok (.getfield 127, 3) := by decide +kernel
theorem d_OM_find_89 : decode b_OM_find 89 = .ok (.if_icmp .gt 83, 3) := by decide +kernel
theorem d_OM_find_92 : decode b_OM_find 92 = .ok (.iload 6, 2) := by decide +kernel
theorem d_OM_find_94 : decode b_OM_find 94 = .ok (.iconst (-1), 1) := by decide +kernel
theorem d_OM_find_95 : decode b_OM_find 95 = .ok (.if_icmp .eq 77, 3) := by decide +kernel
theorem d_OM_find_98 : decode b_OM_find 98 = .ok (.aload_n 0, 1) := by decide +kernel
theorem d_OM_find_99 : decode b_OM_find 99 = .ok (.iconst (-1), 1) := by decide +kernel
theorem d_OM_find_100 : decode b_OM_find 100 = .ok (.putfield 132, 3) := by decide +kernel
theorem d_OM_find_103 : decode b_OM_find 103 = .ok (.aload_n 0, 1) := by decide +kernel
theorem d_OM_find_104 : decode b_OM_find 104 = .ok (.iload 6, 2) := by decide +kernel
theorem d_OM_find_106 : decode b_OM_find 106 = .ok (.iload 7, 2) := by decide +kernel
theorem d_OM_find_108 : decode b_OM_find 108 = .ok (.invokevirtual 135, 3) := by decide +kernel
theorem d_OM_find_111 : decode b_OM_find 111 = .ok (.iconst (-1), 1) := by decide +kernel
theorem d_OM_find_112 : decode b_OM_find 112 = .ok (.istore 6, 2) := by decide +kernel
theorem d_OM_find_114 : decode b_OM_find 114 = .ok (.aload_n 0, 1) := by decide +kernel
theorem d_OM_find_115 : decode b_OM_find 115 = .ok (.getfield 132, 3) := by decide +kernel
theorem d_OM_find_118 : decode b_OM_find 118 = .ok (.iconst (-1), 1) := by decide +kernel
theorem d_OM_find_119 : decode b_OM_find 119 = .ok (.if_icmp .eq 47, 3) := by decide +kernel
theorem d_OM_find_122 : decode b_OM_find 122 = .ok (.iload 7, 2) := by decide +kernel
theorem d_OM_find_124 : decode b_OM_find 124 = .ok (.aload_n 1, 1) := by decide +kernel
theorem d_OM_find_125 : decode b_OM_find 125 = .ok (.aload_n 0, 1) := by decide +kernel
theorem d_OM_find_126 : decode b_OM_find 126 = .ok (.getfield 132, 3) := by decide +kernel
theorem d_OM_find_129 : decode b_OM_find 129 = .ok (.aload_n 2, 1) := by decide +kernel
theorem d_OM_find_130 : decode b_OM_find 130 = .ok (.iload 7, 2) := by decide +kernel
theorem d_OM_find_132 : decode b_OM_find 132 = .ok (.invokevirtual 138, 3) := by decide +kernel
theorem d_OM_find_135 : decode b_OM_find 135 = .ok (.iadd, 1) := by decide +kernel
theorem d_OM_find_136 : decode b_OM_find 136 = .ok (.istore 7, 2) := by decide +kernel
theorem d_OM_find_138 : decode b_OM_find 138 = .ok (.aload_n 1, 1) := by decide +kernel
theorem d_OM_find_139 : decode b_OM_find 139 = .ok (.getfield 67, 3) := by decide +kernel
theorem d_OM_find_142 : decode b_OM_find 142 = .ok (.aload_n 0, 1) := by decide +kernel
theorem d_OM_find_143 : decode b_OM_find 143 = .ok (.getfield 132, 3) := by decide +kernel
theorem d_OM_find_146 : decode b_OM_find 146 = .ok (.iaload, 1) := by decide +kernel
theorem d_OM_find_147 : decode b_OM_find 147 = .ok (.istore 6, 2) := by decide +kernel
theorem d_OM_find_149 : decode b_OM_find 149 = .ok (.aload_n 0, 1) := by decide +kernel
theorem d_OM_find_150 : decode b_OM_find 150 = .ok (.getfield 18, 3) := by decide +kernel
theorem d_OM_find_153 : decode b_OM_find 153 = .ok (.iconst 0, 1) := by decide +kernel
theorem d_OM_find_154 : decode b_OM_find 154 = .ok (.aload_n 0, 1) := by decide +kernel
theorem d_OM_find_155 : decode b_OM_find 155 = .ok (.getfield 15, 3) := by decide +kernel
theorem d_OM_find_158 : decode b_OM_find 158 = .ok (.iconst 0, 1) := by decide +kernel
theorem d_OM_find_159 : decode b_OM_find 159 = .ok (.aload_n 1, 1) := by decide +kernel
theorem d_OM_find_160 : decode b_OM_find 160 = .ok (.getfield 121, 3) := by decide +kernel
theorem d_OM_find_163 : decode b_OM_find 163 = .ok (.invokestatic 142, 3) := by decide +kernel
theorem d_OM_find_166 : decode b_OM_find 166 = .ok (.iinc 8 1, 3) := by decide +kernel
theorem d_OM_find_169 : decode b_OM_find 169 = .ok (.goto (-86), 3) := by decide +kernel
theorem d_OM_find_172 : decode b_OM_find 172 = .ok (.aload_n 0, 1) := by decide +kernel
theorem d_OM_find_173 : decode b_OM_find 173 = .ok (.getfield 118, 3) := by decide +kernel
theorem d_OM_find_176 : decode b_OM_find 176 = .ok (.ifCond .eq 10, 3) := by decide +kernel
theorem d_OM_find_179 : decode b_OM_find 179 = .ok (.aload 5, 2) := by decide +kernel
theorem d_OM_find_181 : decode b_OM_find 181 = .ok (.iconst 1, 1) := by decide +kernel
theorem d_OM_find_182 : decode b_OM_find 182 = .ok (.iaload, 1) := by decide +kernel
theorem d_OM_find_183 : decode b_OM_find 183 = .ok (.goto 4, 3) := by decide +kernel
theorem d_OM_find_186 : decode b_OM_find 186 = .ok (.iconst (-1), 1) := by decide +kernel
theorem d_OM_find_187 : decode b_OM_find 187 = .ok (.ireturn, 1) := by decide +kernel
theorem d_OM_isClearFrom_0 : decode b_OM_isClearFrom 0 = .ok (.aload_n 0, 1) := by decide +kernel
theorem d_OM_isClearFrom_1 : decode b_OM_isClearFrom 1 = .ok (.getfield 31, 3) := by decide +kernel
theorem d_OM_isClearFrom_4 : decode b_OM_isClearFrom 4 = .ok (.iload_n 1, 1) := by decide +kernel
theorem d_OM_isClearFrom_5 : decode b_OM_isClearFrom 5 = .ok (.iconst 1, 1) := by decide +kernel
theorem d_OM_isClearFrom_6 : decode b_OM_isClearFrom 6 = .ok (.iastore, 1) := by decide +kernel
theorem d_OM_isClearFrom_7 : decode b_OM_isClearFrom 7 = .ok (.aload_n 0, 1) := by decide +kernel
theorem d_OM_isClearFrom_8 : decode b_OM_isClearFrom 8 = .ok (.getfield 24, 3) := by decide +kernel
theorem d_OM_isClearFrom_11 : decode b_OM_isClearFrom 11 = .ok (.invokevirtual 73, 3) := by decide +kernel
theorem d_OM_isClearFrom_14 : decode b_OM_isClearFrom 14 = .ok (.iconst 0, 1) := by decide +kernel
theorem d_OM_isClearFrom_15 : decode b_OM_isClearFrom 15 = .ok (.istore_n 2, 1) := by decide +kernel
theorem d_OM_isClearFrom_16 : decode b_OM_isClearFrom 16 = .ok (.aload_n 0, 1) := by decide +kernel
theorem d_OM_isClearFrom_17 : decode b_OM_isClearFrom 17 = .ok (.getfield 34, 3) := by decide +kernel
theorem d_OM_isClearFrom_20 : decode b_OM_isClearFrom 20 = .ok (.iconst 0, 1) := by decide +kernel
theorem d_OM_isClearFrom_21 : decode b_OM_isClearFrom 21 = .ok (.iload_n 1, 1) := by decide +kernel
theorem d_OM_isClearFrom_22 : decode b_OM_isClearFrom 22 = .ok (.iastore, 1) := by decide +kernel
theorem d_OM_isClearFrom_23 : decode b_OM_isClearFrom 23 = .ok (.aload_n 0, 1) := by decide +kernel
theorem d_OM_isClearFrom_24 : decode b_OM_isClearFrom 24 = .ok (.iconst 1, 1) := by decide +kernel
theorem d_OM_isClearFrom_25 : decode b_OM_isClearFrom 25 = .ok (.putfield 76, 3) := by decide +kernel
theorem d_OM_isClearFrom_28 : decode b_OM_isClearFrom 28 = .ok (.iconst 0, 1) := by decide +kernel
theorem d_OM_isClearFrom_29 : decode b_OM_isClearFrom 29 = .ok (.istore_n 3, 1) := by decide +kernel
theorem d_OM_isClearFrom_30 : decode b_OM_isClearFrom 30 = .ok (.iload_n 3, 1) := by decide +kernel
theorem d_OM_isClearFrom_31 : decode b_OM_isClearFrom 31 = .ok (.sipush 1616, 3) := by decide +kernel
theorem d_OM_isClearFrom_34 : decode b_OM_isClearFrom 34 = .ok (.if_icmp .ge 235, 3) := by decide +kernel
theorem d_OM_isClearFrom_37 : decode b_OM_isClearFrom 37 = .ok (.aload_n 0, 1) := by decide +kernel
theorem d_OM_isClearFrom_38 : decode b_OM_isClearFrom 38 = .ok (.getfield 76, 3) := by decide +kernel
theorem d_OM_isClearFrom_41 : decode b_OM_isClearFrom 41 = .ok (.ifCond .le 228, 3) := by decide +kernel
theorem d_OM_isClearFrom_44 : decode b_OM_isClearFrom 44 = .ok (.aload_n 0, 1) := by decide +kernel
theorem d_OM_isClearFrom_45 : decode b_OM_isClearFrom 45 = .ok (.dup, 1) := by decide +kernel
theorem d_OM_isClearFrom_46 : decode b_OM_isClearFrom 46 = .ok (.getfield 79, 3) := by decide +kernel
theorem d_OM_isClearFrom_49 : decode b_OM_isClearFrom 49 = .ok (.lconst 1, 1) := by decide +kernel
theorem d_OM_isClearFrom_50 : decode b_OM_isClearFrom 50 = .ok (.ladd, 1) := by decide +kernel
theorem d_OM_isClearFrom_51 : decode b_OM_isClearFrom 51 = .ok (.putfield 79, 3) := by decide +kernel
theorem d_OM_isClearFrom_54 : decode b_OM_isClearFrom 54 = .ok (.aload_n 0, 1) := by decide +kernel
theorem d_OM_isClearFrom_55 : decode b_OM_isClearFrom 55 = .ok (.dup, 1) := by decide +kernel
theorem d_OM_isClearFrom_56 : decode b_OM_isClearFrom 56 = .ok (.getfield 76, 3) := by decide +kernel
theorem d_OM_isClearFrom_59 : decode b_OM_isClearFrom 59 = .ok (.iconst 1, 1) := by decide +kernel
theorem d_OM_isClearFrom_60 : decode b_OM_isClearFrom 60 = .ok (.isub, 1) := by decide +kernel
theorem d_OM_isClearFrom_61 : decode b_OM_isClearFrom 61 = .ok (.putfield 76, 3) := by decide +kernel
theorem d_OM_isClearFrom_64 : decode b_OM_isClearFrom 64 = .ok (.aload_n 0, 1) := by decide +kernel
theorem d_OM_isClearFrom_65 : decode b_OM_isClearFrom 65 = .ok (.getfield 34, 3) := by decide +kernel
theorem d_OM_isClearFrom_68 : decode b_OM_isClearFrom 68 = .ok (.aload_n 0, 1) := by decide +kernel
theorem d_OM_isClearFrom_69 : decode b_OM_isClearFrom 69 = .ok (.getfield 76, 3) := by decide +kernel
theorem d_OM_isClearFrom_72 : decode b_OM_isClearFrom 72 = .ok (.iaload, 1) := by decide +kernel
theorem d_OM_isClearFrom_73 : decode b_OM_isClearFrom 73 = .ok (.istore 4, 2) := by decide +kernel
theorem d_OM_isClearFrom_75 : decode b_OM_isClearFrom 75 = .ok (.aload_n 0, 1) := by decide +kernel
theorem d_OM_isClearFrom_76 : decode b_OM_isClearFrom 76 = .ok (.getfield 47, 3) := by decide +kernel
theorem d_OM_isClearFrom_79 : decode b_OM_isClearFrom 79 = .ok (.getfield 83, 3) := by decide +kernel
theorem d_OM_isClearFrom_82 : decode b_OM_isClearFrom 82 = .ok (.iload 4, 2) := by decide +kernel
theorem d_OM_isClearFrom_84 : decode b_OM_isClearFrom 84 = .ok (.iaload, 1) := by decide +kernel
theorem d_OM_isClearFrom_85 : decode b_OM_isClearFrom 85 = .ok (.istore 5, 2) := by decide +kernel
theorem d_OM_isClearFrom_87 : decode b_OM_isClearFrom 87 = .ok (.aload_n 0, 1) := by decide +kernel
theorem d_OM_isClearFrom_88 : decode b_OM_isClearFrom 88 = .ok (.getfield 28, 3) := by decide +kernel
theorem d_OM_isClearFrom_91 : decode b_OM_isClearFrom 91 = .ok (.iload 4, 2) := by decide +kernel
theorem d_OM_isClearFrom_93 : decode b_OM_isClearFrom 93 = .ok (.iaload, 1) := by decide +kernel
theorem d_OM_isClearFrom_94 : decode b_OM_isClearFrom 94 = .ok (.iload_n 1, 1) := by decide +kernel
theorem d_OM_isClearFrom_95 : decode b_OM_isClearFrom 95 = .ok (.if_icmp .ne 14, 3) := by decide +kernel
theorem d_OM_isClearFrom_98 : decode b_OM_isClearFrom 98 = .ok (.iload 5, 2) := by decide +kernel
theorem d_OM_isClearFrom_100 : decode b_OM_isClearFrom 100 = .ok (.bipush 9, 2) := by decide +kernel
theorem d_OM_isClearFrom_102 : decode b_OM_isClearFrom 102 = .ok (.if_icmp .eq 7, 3) := by decide +kernel
theorem d_OM_isClearFrom_105 : decode b_OM_isClearFrom 105 = .ok (.iconst 1, 1) := by decide +kernel
theorem d_OM_isClearFrom_106 : decode b_OM_isClearFrom 106 = .ok (.goto 4, 3) := by decide +kernel
theorem d_OM_isClearFrom_109 : decode b_OM_isClearFrom 109 = .ok (.iconst 0, 1) := by decide +kernel
theorem d_OM_isClearFrom_110 : decode b_OM_isClearFrom 110 = .ok (.istore 6, 2) := by decide +kernel
theorem d_OM_isClearFrom_112 : decode b_OM_isClearFrom 112 = .ok (.aload_n 0, 1) := by decide +kernel
theorem d_OM_isClearFrom_113 : decode b_OM_isClearFrom 113 = .ok (.getfield 47, 3) := by decide +kernel
theorem d_OM_isClearFrom_116 : decode b_OM_isClearFrom 116 = .ok (.iload 4, 2) := by decide +kernel
theorem d_OM_isClearFrom_118 : decode b_OM_isClearFrom 118 = .ok (.invokevirtual 70, 3) := by decide +kernel
theorem d_OM_isClearFrom_121 : decode b_OM_isClearFrom 121 = .ok (.ifCond .eq 20, 3) := by decide +kernel
theorem d_OM_isClearFrom_124 : decode b_OM_isClearFrom 124 = .ok (.iload_n 2, 1) := by decide +kernel
theorem d_OM_isClearFrom_125 : decode b_OM_isClearFrom 125 = .ok (.ifCond .ne 12, 3) := by decide +kernel
theorem d_OM_isClearFrom_128 : decode b_OM_isClearFrom 128 = .ok (.aload_n 0, 1) := by decide +kernel
theorem d_OM_isClearFrom_129 : decode b_OM_isClearFrom 129 = .ok (.iload 4, 2) := by decide +kernel
theorem d_OM_isClearFrom_131 : decode b_OM_isClearFrom 131 = .ok (.invokevirtual 86, 3) := by decide +kernel
theorem d_OM_isClearFrom_134 : decode b_OM_isClearFrom 134 = .ok (.ifCond .ne 7, 3) := by decide +kernel
theorem d_OM_isClearFrom_137 : decode b_OM_isClearFrom 137 = .ok (.iconst 1, 1) := by decide +kernel
theorem d_OM_isClearFrom_138 : decode b_OM_isClearFrom 138 = .ok (.goto 4, 3) := by decide +kernel
theorem d_OM_isClearFrom_141 : decode b_OM_isClearFrom 141 = .ok (.iconst 0, 1) := by decide +kernel
theorem d_OM_isClearFrom_142 : decode b_OM_isClearFrom 142 = .ok (.istore 7, 2) := by decide +kernel
theorem d_OM_isClearFrom_144 : decode b_OM_isClearFrom 144 = .ok (.iload 6, 2) := by decide +kernel
theorem d_OM_isClearFrom_146 : decode b_OM_isClearFrom 146 = .ok (.ifCond .ne 8, 3) := by decide +kernel
theorem d_OM_isClearFrom_149 : decode b_OM_isClearFrom 149 = .ok (.iload 7, 2) := by decide +kernel
theorem d_OM_isClearFrom_151 : decode b_OM_isClearFrom 151 = .ok (.ifCond .eq 5, 3) := by decide +kernel
theorem d_OM_isClearFrom_154 : decode b_OM_isClearFrom 154 = .ok (.iconst 0, 1) := by decide +kernel
theorem d_OM_isClearFrom_155 : decode b_OM_isClearFrom 155 = .ok (.ireturn, 1) := by decide +kernel
theorem d_OM_isClearFrom_156 : decode b_OM_isClearFrom 156 = .ok (.aload_n 0, 1) := by decide +kernel
theorem d_OM_isClearFrom_157 : decode b_OM_isClearFrom 157 = .ok (.getfield 28, 3) := by decide +kernel
theorem d_OM_isClearFrom_160 : decode b_OM_isClearFrom 160 = .ok (.iload 4, 2) := by decide +kernel
theorem d_OM_isClearFrom_162 : decode b_OM_isClearFrom 162 = .ok (.iload_n 1, 1) := by decide +kernel
theorem d_OM_isClearFrom_163 : decode b_OM_isClearFrom 163 = .ok (.iastore, 1) := by decide +kernel
theorem d_OM_isClearFrom_164 : decode b_OM_isClearFrom 164 = .ok (.iload_n 2, 1) := by decide +kernel
theorem d_OM_isClearFrom_165 : decode b_OM_isClearFrom 165 = .ok (.iload 5, 2) := by decide +kernel
theorem d_OM_isClearFrom_167 : decode b_OM_isClearFrom 167 = .ok (.iconst 2, 1) := by decide +kernel
theorem d_OM_isClearFrom_168 : decode b_OM_isClearFrom 168 = .ok (.if_icmp .ne 7, 3) := by decide +kernel
theorem d_OM_isClearFrom_171 : decode b_OM_isClearFrom 171 = .ok (.iconst 1, 1) := by decide +kernel
theorem d_OM_isClearFrom_172 : decode b_OM_isClearFrom 172 = .ok (.goto 4, 3) := by decide +kernel
theorem d_OM_isClearFrom_175 : decode b_OM_isClearFrom 175 = .ok (.iconst 0, 1) := by decide +kernel
theorem d_OM_isClearFrom_176 : decode b_OM_isClearFrom 176 = .ok (.ior, 1) := by decide +kernel
theorem d_OM_isClearFrom_177 : decode b_OM_isClearFrom 177 = .ok (.istore_n 2, 1) := by decide +kernel
theorem d_OM_isClearFrom_178 : decode b_OM_isClearFrom 178 = .ok (.iload 5, 2) := by decide +kernel
theorem d_OM_isClearFrom_180 : decode b_OM_isClearFrom 180 = .ok (.bipush 6, 2) := by decide +kernel
theorem d_OM_isClearFrom_182 : decode b_OM_isClearFrom 182 = .ok (.if_icmp .ne 32, 3) := by decide +kernel
theorem d_OM_isClearFrom_185 : decode b_OM_isClearFrom 185 = .ok (.aload_n 0, 1) := by decide +kernel
theorem d_OM_isClearFrom_186 : decode b_OM_isClearFrom 186 = .ok (.getfield 34, 3) := by decide +kernel
theorem d_OM_isClearFrom_189 : decode b_OM_isClearFrom 189 = .ok (.aload_n 0, 1) := by decide +kernel
theorem d_OM_isClearFrom_190 : decode b_OM_isClearFrom 190 = .ok (.getfield 76, 3) := by decide +kernel
theorem d_OM_isClearFrom_193 : decode b_OM_isClearFrom 193 = .ok (.aload_n 0, 1) := by decide +kernel
theorem d_OM_isClearFrom_194 : decode b_OM_isClearFrom 194 = .ok (.getfield 47, 3) := by decide +kernel
theorem d_OM_isClearFrom_197 : decode b_OM_isClearFrom 197 = .ok (.getfield 89, 3) := by decide +kernel
theorem d_OM_isClearFrom_200 : decode b_OM_isClearFrom 200 = .ok (.iload 4, 2) := by decide +kernel
theorem d_OM_isClearFrom_202 : decode b_OM_isClearFrom 202 = .ok (.iaload, 1) := by decide +kernel
theorem d_OM_isClearFrom_203 : decode b_OM_isClearFrom 203 = .ok (.iastore, 1) := by decide +kernel
theorem d_OM_isClearFrom_204 : decode b_OM_isClearFrom 204 = .ok (.aload_n 0, 1) := by decide +kernel
theorem d_OM_isClearFrom_205 : decode b_OM_isClearFrom 205 = .ok (.dup, 1) := by decide +kernel
theorem d_OM_isClearFrom_206 : decode b_OM_isClearFrom 206 = .ok (.getfield 76, 3) := by decide +kernel
theorem d_OM_isClearFrom_209 : decode b_OM_isClearFrom 209 = .ok (.iconst 1, 1) := by decide +kernel
theorem d_OM_isClearFrom_210 : decode b_OM_isClearFrom 210 = .ok (.iadd, 1) := by decide +kernel
theorem d_OM_isClearFrom_211 : decode b_OM_isClearFrom 211 = .ok (.putfield 76, 3) := by decide +kernel
theorem d_OM_isClearFrom_214 : decode b_OM_isClearFrom 214 = .ok (.iload 5, 2) := by decide +kernel
theorem d_OM_isClearFrom_216 : decode b_OM_isClearFrom 216 = .ok (.bipush 6, 2) := by decide +kernel
theorem d_OM_isClearFrom_218 : decode b_OM_isClearFrom 218 = .ok (.if_icmp .eq 16, 3) := by decide +kernel
theorem d_OM_isClearFrom_221 : decode b_OM_isClearFrom 221 = .ok (.iload 5, 2) := by decide +kernel
theorem d_OM_isClearFrom_223 : decode b_OM_isClearFrom 223 = .ok (.bipush 7, 2) := by decide +kernel
theorem d_OM_isClearFrom_225 : decode b_OM_isClearFrom 225 = .ok (.if_icmp .eq 9, 3) := by decide +kernel
theorem d_OM_isClearFrom_228 : decode b_OM_isClearFrom 228 = .ok (.iload 5, 2) := by decide +kernel
theorem d_OM_isClearFrom_230 : decode b_OM_isClearFrom 230 = .ok (.iconst 3, 1) := by decide +kernel
theorem d_OM_isClearFrom_231 : decode b_OM_isClearFrom 231 = .ok (.if_icmp .ne 32, 3) := by decide +kernel
theorem d_OM_isClearFrom_234 : decode b_OM_isClearFrom 234 = .ok (.aload_n 0, 1) := by decide +kernel
theorem d_OM_isClearFrom_235 : decode b_OM_isClearFrom 235 = .ok (.getfield 34, 3) := by decide +kernel
theorem d_OM_isClearFrom_238 : decode b_OM_isClearFrom 238 = .ok (.aload_n 0, 1) := by decide +kernel
theorem d_OM_isClearFrom_239 : decode b_OM_isClearFrom 239 = .ok (.getfield 76, 3) := by decide +kernel
theorem d_OM_isClearFrom_242 : decode b_OM_isClearFrom 242 = .ok (.aload_n 0, 1) := by decide +kernel
theorem d_OM_isClearFrom_243 : decode b_OM_isClearFrom 243 = .ok (.getfield 47, 3) := by decide +kernel
theorem d_OM_isClearFrom_246 : decode b_OM_isClearFrom 246 = .ok (.getfield 67, 3) := by decide +kernel
theorem d_OM_isClearFrom_249 : decode b_OM_isClearFrom 249 = .ok (.iload 4, 2) := by decide +kernel
theorem d_OM_isClearFrom_251 : decode b_OM_isClearFrom 251 = .ok (.iaload, 1) := by decide +kernel
theorem d_OM_isClearFrom_252 : decode b_OM_isClearFrom 252 = .ok (.iastore, 1) := by decide +kernel
theorem d_OM_isClearFrom_253 : decode b_OM_isClearFrom 253 = .ok (.aload_n 0, 1) := by decide +kernel
theorem d_OM_isClearFrom_254 : decode b_OM_isClearFrom 254 = .ok (.dup, 1) := by decide +kernel
theorem d_OM_isClearFrom_255 : decode b_OM_isClearFrom 255 = .ok (.getfield 76, 3) := by decide +kernel
theorem d_OM_isClearFrom_258 : decode b_OM_isClearFrom 258 = .ok (.iconst 1, 1) := by decide +kernel
theorem d_OM_isClearFrom_259 : decode b_OM_isClearFrom 259 = .ok (.iadd, 1) := by decide +kernel
theorem d_OM_isClearFrom_260 : decode b_OM_isClearFrom 260 = .ok (.putfield 76, 3) := by decide +kernel
theorem d_OM_isClearFrom_263 : decode b_OM_isClearFrom 263 = .ok (.iinc 3 1, 3) := by decide +kernel
theorem d_OM_isClearFrom_266 : decode b_OM_isClearFrom 266 = .ok (.goto (-236), 3) := by decide +kernel
theorem d_OM_isClearFrom_269 : decode b_OM_isClearFrom 269 = .ok (.iconst 1, 1) := by decide +kernel
theorem d_OM_isClearFrom_270 : decode b_OM_isClearFrom 270 = .ok (.ireturn, 1) := by decide +kernel
theorem d_OM_isNewTaker_0 : decode b_OM_isNewTaker 0 = .ok (.aload_n 0, 1) := by decide +kernel
theorem d_OM_isNewTaker_1 : decode b_OM_isNewTaker 1 = .ok (.getfield 47, 3) := by decide +kernel
theorem d_OM_isNewTaker_4 : decode b_OM_isNewTaker 4 = .ok (.getfield 89, 3) := by decide +kernel
theorem d_OM_isNewTaker_7 : decode b_OM_isNewTaker 7 = .ok (.iload_n 1, 1) := by decide +kernel
theorem d_OM_isNewTaker_8 : decode b_OM_isNewTaker 8 = .ok (.iaload, 1) := by decide +kernel
theorem d_OM_isNewTaker_9 : decode b_OM_isNewTaker 9 = .ok (.istore_n 2, 1) := by decide +kernel
theorem d_OM_isNewTaker_10 : decode b_OM_isNewTaker 10 = .ok (.aload_n 0, 1) := by decide +kernel
theorem d_OM_isNewTaker_11 : decode b_OM_isNewTaker 11 = .ok (.getfield 47, 3) := by decide +kernel
theorem d_OM_isNewTaker_14 : decode b_OM_isNewTaker 14 = .ok (.getfield 83, 3) := by decide +kernel
theorem d_OM_isNewTaker_17 : decode b_OM_isNewTaker 17 = .ok (.iload_n 1, 1) := by decide +kernel
theorem d_OM_isNewTaker_18 : decode b_OM_isNewTaker 18 = .ok (.iaload, 1) := by decide +kernel
theorem d_OM_isNewTaker_19 : decode b_OM_isNewTaker 19 = .ok (.iconst 2, 1) := by decide +kernel
theorem d_OM_isNewTaker_20 : decode b_OM_isNewTaker 20 = .ok (.if_icmp .ne 19, 3) := by decide +kernel
theorem d_OM_isNewTaker_23 : decode b_OM_isNewTaker 23 = .ok (.aload_n 0, 1) := by decide +kernel
theorem d_OM_isNewTaker_24 : decode b_OM_isNewTaker 24 = .ok (.getfield 24, 3) := by decide +kernel
theorem d_OM_isNewTaker_27 : decode b_OM_isNewTaker 27 = .ok (.getfield 92, 3) := by decide +kernel
theorem d_OM_isNewTaker_30 : decode b_OM_isNewTaker 30 = .ok (.ifCond .ne 7, 3) := by decide +kernel
theorem d_OM_isNewTaker_33 : decode b_OM_isNewTaker 33 = .ok (.iconst 1, 1) := by decide +kernel
theorem d_OM_isNewTaker_34 : decode b_OM_isNewTaker 34 = .ok (.goto 4, 3) := by decide +kernel
theorem d_OM_isNewTaker_37 : decode b_OM_isNewTaker 37 = .ok (.iconst 0, 1) := by decide +kernel
theorem d_OM_isNewTaker_38 : decode b_OM_isNewTaker 38 = .ok (.ireturn, 1) := by decide +kernel
theorem d_OM_isNewTaker_39 : decode b_OM_isNewTaker 39 = .ok (.aload_n 0, 1) := by decide +kernel
theorem d_OM_isNewTaker_40 : decode b_OM_isNewTaker 40 = .ok (.getfield 47, 3) := by decide +kernel
theorem d_OM_isNewTaker_43 : decode b_OM_isNewTaker 43 = .ok (.getfield 83, 3) := by decide +kernel
theorem d_OM_isNewTaker_46 : decode b_OM_isNewTaker 46 = .ok (.iload_n 1, 1) := by decide +kernel
theorem d_OM_isNewTaker_47 : decode b_OM_isNewTaker 47 = .ok (.iaload, 1) := by decide +kernel
theorem d_OM_isNewTaker_48 : decode b_OM_isNewTaker 48 = .ok (.ifCond .ne 32, 3) := by decide +kernel
theorem d_OM_isNewTaker_51 : decode b_OM_isNewTaker 51 = .ok (.aload_n 0, 1) := by decide +kernel
theorem d_OM_isNewTaker_52 : decode b_OM_isNewTaker 52 = .ok (.getfield 24, 3) := by decide +kernel
theorem d_OM_isNewTaker_55 : decode b_OM_isNewTaker 55 = .ok (.iload_n 2, 1) := by decide +kernel
theorem d_OM_isNewTaker_56 : decode b_OM_isNewTaker 56 = .ok (.iload_n 2, 1) := by decide +kernel
theorem d_OM_isNewTaker_57 : decode b_OM_isNewTaker 57 = .ok (.invokevirtual 93, 3) := by decide +kernel
theorem d_OM_isNewTaker_60 : decode b_OM_isNewTaker 60 = .ok (.ifCond .ne 7, 3) := by decide +kernel
theorem d_OM_isNewTaker_63 : decode b_OM_isNewTaker 63 = .ok (.iconst 1, 1) := by decide +kernel
theorem d_OM_isNewTaker_64 : decode b_OM_isNewTaker 64 = .ok (.goto 4, 3) := by decide +kernel
theorem d_OM_isNewTaker_67 : decode b_OM_isNewTaker 67 = .ok (.iconst 0, 1) := by decide +kernel
theorem d_OM_isNewTaker_68 : decode b_OM_isNewTaker 68 = .ok (.istore_n 3, 1) := by decide +kernel
theorem d_OM_isNewTaker_69 : decode b_OM_isNewTaker 69 = .ok (.aload_n 0, 1) := by decide +kernel
theorem d_OM_isNewTaker_70 : decode b_OM_isNewTaker 70 = .ok (.getfield 24, 3) := by decide +kernel
theorem d_OM_isNewTaker_73 : decode b_OM_isNewTaker 73 = .ok (.iload_n 2, 1) := by decide +kernel
theorem d_OM_isNewTaker_74 : decode b_OM_isNewTaker 74 = .ok (.iload_n 2, 1) := by decide +kernel
theorem d_OM_isNewTaker_75 : decode b_OM_isNewTaker 75 = .ok (.invokevirtual 97, 3) := by decide +kernel
theorem d_OM_isNewTaker_78 : decode b_OM_isNewTaker 78 = .ok (.iload_n 3, 1) := by decide +kernel
theorem d_OM_isNewTaker_79 : decode b_OM_isNewTaker 79 = .ok (.ireturn, 1) := by decide +kernel
theorem d_OM_isNewTaker_80 : decode b_OM_isNewTaker 80 = .ok (.iconst 1, 1) := by decide +kernel
theorem d_OM_isNewTaker_81 : decode b_OM_isNewTaker 81 = .ok (.istore_n 3, 1) := by decide +kernel
theorem d_OM_isNewTaker_82 : decode b_OM_isNewTaker 82 = .ok (.iload_n 2, 1) := by decide +kernel
theorem d_OM_isNewTaker_83 : decode b_OM_isNewTaker 83 = .ok (.iconst 2, 1) := by decide +kernel
theorem d_OM_isNewTaker_84 : decode b_OM_isNewTaker 84 = .ok (.aload_n 0, 1) := by decide +kernel
theorem d_OM_isNewTaker_85 : decode b_OM_isNewTaker 85 = .ok (.getfield 47, 3) := by decide +kernel
theorem d_OM_isNewTaker_88 : decode b_OM_isNewTaker 88 = .ok (.getfield 101, 3) := by decide +kernel
theorem d_OM_isNewTaker_91 : decode b_OM_isNewTaker 91 = .ok (.iload_n 2, 1) := by decide +kernel
theorem d_OM_isNewTaker_92 : decode b_OM_isNewTaker 92 = .ok (.iaload, 1) := by decide +kernel
theorem d_OM_isNewTaker_93 : decode b_OM_isNewTaker 93 = .ok (.imul, 1) := by decide +kernel
theorem d_OM_isNewTaker_94 : decode b_OM_isNewTaker 94 = .ok (.iadd, 1) := by decide +kernel
theorem d_OM_isNewTaker_95 : decode b_OM_isNewTaker 95 = .ok (.istore 4, 2) := by decide +kernel
theorem d_OM_isNewTaker_97 : decode b_OM_isNewTaker 97 = .ok (.iload_n 2, 1) := by decide +kernel
theorem d_OM_isNewTaker_98 : decode b_OM_isNewTaker 98 = .ok (.iconst 1, 1) := by decide +kernel
theorem d_OM_isNewTaker_99 : decode b_OM_isNewTaker 99 = .ok (.iadd, 1) := by decide +kernel
theorem d_OM_isNewTaker_100 : decode b_OM_isNewTaker 100 = .ok (.istore 5, 2) := by decide +kernel
theorem d_OM_isNewTaker_102 : decode b_OM_isNewTaker 102 = .ok (.iload 5, 2) := by decide +kernel
theorem d_OM_isNewTaker_104 : decode b_OM_isNewTaker 104 = .ok (.iload 4, 2) := by decide +kernel
theorem d_OM_isNewTaker_106 : decode b_OM_isNewTaker 106 = .ok (.if_icmp .ge 80, 3) := by decide +kernel
theorem d_OM_isNewTaker_109 : decode b_OM_isNewTaker 109 = .ok (.iload_n 3, 1) := by decide +kernel
theorem d_OM_isNewTaker_110 : decode b_OM_isNewTaker 110 = .ok (.ifCond .eq 76, 3) := by decide +kernel
theorem d_OM_isNewTaker_113 : decode b_OM_isNewTaker 113 = .ok (.aload_n 0, 1) := by decide +kernel
theorem d_OM_isNewTaker_114 : decode b_OM_isNewTaker 114 = .ok (.getfield 24, 3) := by decide +kernel
theorem d_OM_isNewTaker_117 : decode b_OM_isNewTaker 117 = .ok (.aload_n 0, 1) := by decide +kernel
theorem d_OM_isNewTaker_118 : decode b_OM_isNewTaker 118 = .ok (.getfield 47, 3) := by decide +kernel
theorem d_OM_isNewTaker_121 : decode b_OM_isNewTaker 121 = .ok (.getfield 101, 3) := by decide +kernel
theorem d_OM_isNewTaker_124 : decode b_OM_isNewTaker 124 = .ok (.iload 5, 2) := by decide +kernel
theorem d_OM_isNewTaker_126 : decode b_OM_isNewTaker 126 = .ok (.iaload, 1) := by decide +kernel
theorem d_OM_isNewTaker_127 : decode b_OM_isNewTaker 127 = .ok (.aload_n 0, 1) := by decide +kernel
theorem d_OM_isNewTaker_128 : decode b_OM_isNewTaker 128 = .ok (.getfield 47, 3) := by decide +kernel
theorem d_OM_isNewTaker_131 : decode b_OM_isNewTaker 131 = .ok (.getfield 101, 3) := by decide +kernel
theorem d_OM_isNewTaker_134 : decode b_OM_isNewTaker 134 = .ok (.iload 5, 2) := by decide +kernel
theorem d_OM_isNewTaker_136 : decode b_OM_isNewTaker 136 = .ok (.iconst 1, 1) := by decide +kernel
theorem d_OM_isNewTaker_137 : decode b_OM_isNewTaker 137 = .ok (.iadd, 1) := by decide +kernel
theorem d_OM_isNewTaker_138 : decode b_OM_isNewTaker 138 = .ok (.iaload, 1) := by decide +kernel
theorem d_OM_isNewTaker_139 : decode b_OM_isNewTaker 139 = .ok (.invokevirtual 93, 3) := by decide +kernel
theorem d_OM_isNewTaker_142 : decode b_OM_isNewTaker 142 = .ok (.ifCond .ne 7, 3) := by decide +kernel
theorem d_OM_isNewTaker_145 : decode b_OM_isNewTaker 145 = .ok (.iconst 1, 1) := by decide +kernel
theorem d_OM_isNewTaker_146 : decode b_OM_isNewTaker 146 = .ok (.goto 4, 3) := by decide +kernel
theorem d_OM_isNewTaker_149 : decode b_OM_isNewTaker 149 = .ok (.iconst 0, 1) := by decide +kernel
theorem d_OM_isNewTaker_150 : decode b_OM_isNewTaker 150 = .ok (.istore_n 3, 1) := by decide +kernel
theorem d_OM_isNewTaker_151 : decode b_OM_isNewTaker 151 = .ok (.aload_n 0, 1) := by decide +kernel
theorem d_OM_isNewTaker_152 : decode b_OM_isNewTaker 152 = .ok (.getfield 24, 3) := by decide +kernel
theorem d_OM_isNewTaker_155 : decode b_OM_isNewTaker 155 = .ok (.aload_n 0, 1) := by decide +kernel
theorem d_OM_isNewTaker_156 : decode b_OM_isNewTaker 156 = .ok (.getfield 47, 3) := by decide +kernel
theorem d_OM_isNewTaker_159 : decode b_OM_isNewTaker 159 = .ok (.getfield 101, 3) := by decide +kernel
theorem d_OM_isNewTaker_162 : decode b_OM_isNewTaker 162 = .ok (.iload 5, 2) := by decide +kernel
theorem d_OM_isNewTaker_164 : decode b_OM_isNewTaker 164 = .ok (.iaload, 1) := by decide +kernel
theorem d_OM_isNewTaker_165 : decode b_OM_isNewTaker 165 = .ok (.aload_n 0, 1) := by decide +kernel
theorem d_OM_isNewTaker_166 : decode b_OM_isNewTaker 166 = .ok (.getfield 47, 3) := by decide +kernel
theorem d_OM_isNewTaker_169 : decode b_OM_isNewTaker 169 = .ok (.getfield 101, 3) := by decide +kernel
theorem d_OM_isNewTaker_172 : decode b_OM_isNewTaker 172 = .ok (.iload 5, 2) := by decide +kernel
theorem d_OM_isNewTaker_174 : decode b_OM_isNewTaker 174 = .ok (.iconst 1, 1) := by decide +kernel
theorem d_OM_isNewTaker_175 : decode b_OM_isNewTaker 175 = .ok (.iadd, 1) := by decide +kernel
theorem d_OM_isNewTaker_176 : decode b_OM_isNewTaker 176 = .ok (.iaload, 1) := by decide +kernel
theorem d_OM_isNewTaker_177 : decode b_OM_isNewTaker 177 = .ok (.invokevirtual 97, 3) := by decide +kernel
theorem d_OM_isNewTaker_180 : decode b_OM_isNewTaker 180 = .ok (.iinc 5 2, 3) := by decide +kernel
theorem d_OM_isNewTaker_183 : decode b_OM_isNewTaker 183 = .ok (.goto (-81), 3) := by decide +kernel
theorem d_OM_isNewTaker_186 : decode b_OM_isNewTaker 186 = .ok (.iload_n 3, 1) := by decide +kernel
theorem d_OM_isNewTaker_187 : decode b_OM_isNewTaker 187 = .ok (.ireturn, 1) := by decide +kernel
theorem d_OM_isOfOneMind_0 : decode b_OM_isOfOneMind 0 = .ok (.aload_n 0, 1) := by decide +kernel
theorem d_OM_isOfOneMind_1 : decode b_OM_isOfOneMind 1 = .ok (.aload_n 1, 1) := by decide +kernel
theorem d_OM_isOfOneMind_2 : decode b_OM_isOfOneMind 2 = .ok (.putfield 47, 3) := by decide +kernel
theorem d_OM_isOfOneMind_5 : decode b_OM_isOfOneMind 5 = .ok (.aload_n 0, 1) := by decide +kernel
theorem d_OM_isOfOneMind_6 : decode b_OM_isOfOneMind 6 = .ok (.getfield 28, 3) := by decide +kernel
theorem d_OM_isOfOneMind_9 : decode b_OM_isOfOneMind 9 = .ok (.arraylength, 1) := by decide +kernel
theorem d_OM_isOfOneMind_10 : decode b_OM_isOfOneMind 10 = .ok (.ifCond .ne 30, 3) := by decide +kernel
theorem d_OM_isOfOneMind_13 : decode b_OM_isOfOneMind 13 = .ok (.aload_n 0, 1) := by decide +kernel
theorem d_OM_isOfOneMind_14 : decode b_OM_isOfOneMind 14 = .ok (.sipush 808, 3) := by decide +kernel
theorem d_OM_isOfOneMind_17 : decode b_OM_isOfOneMind 17 = .ok (.newarray .int, 2) := by decide +kernel
theorem d_OM_isOfOneMind_19 : decode b_OM_isOfOneMind 19 = .ok (.putfield 28, 3) := by decide +kernel
theorem d_OM_isOfOneMind_22 : decode b_OM_isOfOneMind 22 = .ok (.aload_n 0, 1) := by decide +kernel
theorem d_OM_isOfOneMind_23 : decode b_OM_isOfOneMind 23 = .ok (.sipush 808, 3) := by decide +kernel
theorem d_OM_isOfOneMind_26 : decode b_OM_isOfOneMind 26 = .ok (.newarray .int, 2) := by decide +kernel
theorem d_OM_isOfOneMind_28 : decode b_OM_isOfOneMind 28 = .ok (.putfield 31, 3) := by decide +kernel
theorem d_OM_isOfOneMind_31 : decode b_OM_isOfOneMind 31 = .ok (.aload_n 0, 1) := by decide +kernel
theorem d_OM_isOfOneMind_32 : decode b_OM_isOfOneMind 32 = .ok (.sipush 809, 3) := by decide +kernel
theorem d_OM_isOfOneMind_35 : decode b_OM_isOfOneMind 35 = .ok (.newarray .int, 2) := by decide +kernel
theorem d_OM_isOfOneMind_37 : decode b_OM_isOfOneMind 37 = .ok (.putfield 34, 3) := by decide +kernel
theorem d_OM_isOfOneMind_40 : decode b_OM_isOfOneMind 40 = .ok (.aload_n 0, 1) := by decide +kernel
theorem d_OM_isOfOneMind_41 : decode b_OM_isOfOneMind 41 = .ok (.getfield 28, 3) := by decide +kernel
theorem d_OM_isOfOneMind_44 : decode b_OM_isOfOneMind 44 = .ok (.iconst (-1), 1) := by decide +kernel
theorem d_OM_isOfOneMind_45 : decode b_OM_isOfOneMind 45 = .ok (.invokestatic 51, 3) := by decide +kernel
theorem d_OM_isOfOneMind_48 : decode b_OM_isOfOneMind 48 = .ok (.aload_n 0, 1) := by decide +kernel
theorem d_OM_isOfOneMind_49 : decode b_OM_isOfOneMind 49 = .ok (.getfield 31, 3) := by decide +kernel
theorem d_OM_isOfOneMind_52 : decode b_OM_isOfOneMind 52 = .ok (.iconst 0, 1) := by decide +kernel
theorem d_OM_isOfOneMind_53 : decode b_OM_isOfOneMind 53 = .ok (.invokestatic 51, 3) := by decide +kernel
theorem d_OM_isOfOneMind_56 : decode b_OM_isOfOneMind 56 = .ok (.aload_n 0, 1) := by decide +kernel
theorem d_OM_isOfOneMind_57 : decode b_OM_isOfOneMind 57 = .ok (.aload_n 1, 1) := by decide +kernel
theorem d_OM_isOfOneMind_58 : decode b_OM_isOfOneMind 58 = .ok (.getfield 57, 3) := by decide +kernel
theorem d_OM_isOfOneMind_61 : decode b_OM_isOfOneMind 61 = .ok (.invokevirtual 60, 3) := by decide +kernel
theorem d_OM_isOfOneMind_64 : decode b_OM_isOfOneMind 64 = .ok (.istore_n 2, 1) := by decide +kernel
theorem d_OM_isOfOneMind_65 : decode b_OM_isOfOneMind 65 = .ok (.iconst 0, 1) := by decide +kernel
theorem d_OM_isOfOneMind_66 : decode b_OM_isOfOneMind 66 = .ok (.istore_n 3, 1) := by decide +kernel
theorem d_OM_isOfOneMind_67 : decode b_OM_isOfOneMind 67 = .ok (.iload_n 3, 1) := by decide +kernel
theorem d_OM_isOfOneMind_68 : decode b_OM_isOfOneMind 68 = .ok (.aload_n 1, 1) := by decide +kernel
theorem d_OM_isOfOneMind_69 : decode b_OM_isOfOneMind 69 = .ok (.getfield 64, 3) := by decide +kernel
theorem d_OM_isOfOneMind_72 : decode b_OM_isOfOneMind 72 = .ok (.if_icmp .ge 54, 3) := by decide +kernel
theorem d_OM_isOfOneMind_75 : decode b_OM_isOfOneMind 75 = .ok (.iload_n 2, 1) := by decide +kernel
theorem d_OM_isOfOneMind_76 : decode b_OM_isOfOneMind 76 = .ok (.ifCond .eq 50, 3) := by decide +kernel
theorem d_OM_isOfOneMind_79 : decode b_OM_isOfOneMind 79 = .ok (.aload_n 1, 1) := by decide +kernel
theorem d_OM_isOfOneMind_80 : decode b_OM_isOfOneMind 80 = .ok (.getfield 67, 3) := by decide +kernel
theorem d_OM_isOfOneMind_83 : decode b_OM_isOfOneMind 83 = .ok (.iload_n 3, 1) := by decide +kernel
theorem d_OM_isOfOneMind_84 : decode b_OM_isOfOneMind 84 = .ok (.iaload, 1) := by decide +kernel
theorem d_OM_isOfOneMind_85 : decode b_OM_isOfOneMind 85 = .ok (.istore 4, 2) := by decide +kernel
theorem d_OM_isOfOneMind_87 : decode b_OM_isOfOneMind 87 = .ok (.aload_n 1, 1) := by decide +kernel
theorem d_OM_isOfOneMind_88 : decode b_OM_isOfOneMind 88 = .ok (.iload_n 3, 1) := by decide +kernel
theorem d_OM_isOfOneMind_89 : decode b_OM_isOfOneMind 89 = .ok (.invokevirtual 70, 3) := by decide +kernel
theorem d_OM_isOfOneMind_92 : decode b_OM_isOfOneMind 92 = .ok (.ifCond .eq 22, 3) := by decide +kernel
theorem d_OM_isOfOneMind_95 : decode b_OM_isOfOneMind 95 = .ok (.aload_n 0, 1) := by decide +kernel
theorem d_OM_isOfOneMind_96 : decode b_OM_isOfOneMind 96 = .ok (.getfield 31, 3) := by decide +kernel
theorem d_OM_isOfOneMind_99 : decode b_OM_isOfOneMind 99 = .ok (.iload 4, 2) := by decide +kernel
theorem d_OM_isOfOneMind_101 : decode b_OM_isOfOneMind 101 = .ok (.iaload, 1) := by decide +kernel
theorem d_OM_isOfOneMind_102 : decode b_OM_isOfOneMind 102 = .ok (.ifCond .ne 12, 3) := by decide +kernel
theorem d_OM_isOfOneMind_105 : decode b_OM_isOfOneMind 105 = .ok (.aload_n 0, 1) := by decide +kernel
theorem d_OM_isOfOneMind_106 : decode b_OM_isOfOneMind 106 = .ok (.iload 4, 2) := by decide +kernel
theorem d_OM_isOfOneMind_108 : decode b_OM_isOfOneMind 108 = .ok (.invokevirtual 60, 3) := by decide +kernel
theorem d_OM_isOfOneMind_111 : decode b_OM_isOfOneMind 111 = .ok (.ifCond .eq 7, 3) := by decide +kernel
theorem d_OM_isOfOneMind_114 : decode b_OM_isOfOneMind 114 = .ok (.iconst 1, 1) := by decide +kernel
theorem d_OM_isOfOneMind_115 : decode b_OM_isOfOneMind 115 = .ok (.goto 4, 3) := by decide +kernel
theorem d_OM_isOfOneMind_118 : decode b_OM_isOfOneMind 118 = .ok (.iconst 0, 1) := by decide +kernel
theorem d_OM_isOfOneMind_119 : decode b_OM_isOfOneMind 119 = .ok (.istore_n 2, 1) := by decide +kernel
theorem d_OM_isOfOneMind_120 : decode b_OM_isOfOneMind 120 = .ok (.iinc 3 1, 3) := by decide +kernel
theorem d_OM_isOfOneMind_123 : decode b_OM_isOfOneMind 123 = .ok (.goto (-56), 3) := by decide +kernel
theorem d_OM_isOfOneMind_126 : decode b_OM_isOfOneMind 126 = .ok (.iload_n 2, 1) := by decide +kernel
theorem d_OM_isOfOneMind_127 : decode b_OM_isOfOneMind 127 = .ok (.ireturn, 1) := by decide +kernel
theorem d_OM_spread_0 : decode b_OM_spread 0 = .ok (.aload_n 0, 1) := by decide +kernel
theorem d_OM_spread_1 : decode b_OM_spread 1 = .ok (.getfield 47, 3) := by decide +kernel
theorem d_OM_spread_4 : decode b_OM_spread 4 = .ok (.getfield 83, 3) := by decide +kernel
theorem d_OM_spread_7 : decode b_OM_spread 7 = .ok (.iload_n 1, 1) := by decide +kernel
theorem d_OM_spread_8 : decode b_OM_spread 8 = .ok (.iaload, 1) := by decide +kernel
theorem d_OM_spread_9 : decode b_OM_spread 9 = .ok (.istore_n 3, 1) := by decide +kernel
theorem d_OM_spread_10 : decode b_OM_spread 10 = .ok (.aload_n 0, 1) := by decide +kernel
theorem d_OM_spread_11 : decode b_OM_spread 11 = .ok (.getfield 47, 3) := by decide +kernel
theorem d_OM_spread_14 : decode b_OM_spread 14 = .ok (.getfield 89, 3) := by decide +kernel
theorem d_OM_spread_17 : decode b_OM_spread 17 = .ok (.iload_n 1, 1) := by decide +kernel
theorem d_OM_spread_18 : decode b_OM_spread 18 = .ok (.iaload, 1) := by decide +kernel
theorem d_OM_spread_19 : decode b_OM_spread 19 = .ok (.istore 4, 2) := by decide +kernel
theorem d_OM_spread_21 : decode b_OM_spread 21 = .ok (.iload_n 3, 1) := by decide +kernel
theorem d_OM_spread_22 : decode b_OM_spread 22 = .ok (.bipush 9, 2) := by decide +kernel
theorem d_OM_spread_24 : decode b_OM_spread 24 = .ok (.if_icmp .eq 21, 3) := by decide +kernel
theorem d_OM_spread_27 : decode b_OM_spread 27 = .ok (.iload_n 3, 1) := by decide +kernel
theorem d_OM_spread_28 : decode b_OM_spread 28 = .ok (.iconst 3, 1) := by decide +kernel
theorem d_OM_spread_29 : decode b_OM_spread 29 = .ok (.if_icmp .ne 17, 3) := by decide +kernel
theorem d_OM_spread_32 : decode b_OM_spread 32 = .ok (.aload_n 0, 1) := by decide +kernel
theorem d_OM_spread_33 : decode b_OM_spread 33 = .ok (.getfield 104, 3) := by decide +kernel
theorem d_OM_spread_36 : decode b_OM_spread 36 = .ok (.iload 4, 2) := by decide +kernel
theorem d_OM_spread_38 : decode b_OM_spread 38 = .ok (.iload_n 2, 1) := by decide +kernel
theorem d_OM_spread_39 : decode b_OM_spread 39 = .ok (.invokevirtual 157, 3) := by decide +kernel
theorem d_OM_spread_42 : decode b_OM_spread 42 = .ok (.ifCond .ne 4, 3) := by decide +kernel
theorem d_OM_spread_45 : decode b_OM_spread 45 = .ok (.return_, 1) := by decide +kernel
theorem d_OM_spread_46 : decode b_OM_spread 46 = .ok (.iload_n 3, 1) := by decide +kernel
theorem d_OM_spread_47 : decode b_OM_spread 47 = .ok (.bipush 6, 2) := by decide +kernel
theorem d_OM_spread_49 : decode b_OM_spread 49 = .ok (.if_icmp .ne 27, 3) := by decide +kernel
theorem d_OM_spread_52 : decode b_OM_spread 52 = .ok (.aload_n 0, 1) := by decide +kernel
theorem d_OM_spread_53 : decode b_OM_spread 53 = .ok (.getfield 34, 3) := by decide +kernel
theorem d_OM_spread_56 : decode b_OM_spread 56 = .ok (.aload_n 0, 1) := by decide +kernel
theorem d_OM_spread_57 : decode b_OM_spread 57 = .ok (.getfield 76, 3) := by decide +kernel
theorem d_OM_spread_60 : decode b_OM_spread 60 = .ok (.iload 4, 2) := by decide +kernel
theorem d_OM_spread_62 : decode b_OM_spread 62 = .ok (.iastore, 1) := by decide +kernel
theorem d_OM_spread_63 : decode b_OM_spread 63 = .ok (.aload_n 0, 1) := by decide +kernel
theorem d_OM_spread_64 : decode b_OM_spread 64 = .ok (.dup, 1) := by decide +kernel
theorem d_OM_spread_65 : decode b_OM_spread 65 = .ok (.getfield 76, 3) := by decide +kernel
theorem d_OM_spread_68 : decode b_OM_spread 68 = .ok (.iconst 1, 1) := by decide +kernel
theorem d_OM_spread_69 : decode b_OM_spread 69 = .ok (.iadd, 1) := by decide +kernel
theorem d_OM_spread_70 : decode b_OM_spread 70 = .ok (.putfield 76, 3) := by decide +kernel
theorem d_OM_spread_73 : decode b_OM_spread 73 = .ok (.goto 45, 3) := by decide +kernel
theorem d_OM_spread_76 : decode b_OM_spread 76 = .ok (.iload_n 3, 1) := by decide +kernel
theorem d_OM_spread_77 : decode b_OM_spread 77 = .ok (.bipush 7, 2) := by decide +kernel
theorem d_OM_spread_79 : decode b_OM_spread 79 = .ok (.if_icmp .ne 39, 3) := by decide +kernel
theorem d_OM_spread_82 : decode b_OM_spread 82 = .ok (.aload_n 0, 1) := by decide +kernel
theorem d_OM_spread_83 : decode b_OM_spread 83 = .ok (.getfield 34, 3) := by decide +kernel
theorem d_OM_spread_86 : decode b_OM_spread 86 = .ok (.aload_n 0, 1) := by decide +kernel
theorem d_OM_spread_87 : decode b_OM_spread 87 = .ok (.getfield 76, 3) := by decide +kernel
theorem d_OM_spread_90 : decode b_OM_spread 90 = .ok (.aload_n 0, 1) := by decide +kernel
theorem d_OM_spread_91 : decode b_OM_spread 91 = .ok (.getfield 15, 3) := by decide +kernel
theorem d_OM_spread_94 : decode b_OM_spread 94 = .ok (.iload 4, 2) := by decide +kernel
theorem d_OM_spread_96 : decode b_OM_spread 96 = .ok (.invokestatic 160, 3) := by decide +kernel
theorem d_OM_spread_99 : decode b_OM_spread 99 = .ok (.iastore, 1) := by decide +kernel
theorem d_OM_spread_100 : decode b_OM_spread 100 = .ok (.aload_n 0, 1) := by decide +kernel
theorem d_OM_spread_101 : decode b_OM_spread 101 = .ok (.dup, 1) := by decide +kernel
theorem d_OM_spread_102 : decode b_OM_spread 102 = .ok (.getfield 76, 3) := by decide +kernel
theorem d_OM_spread_105 : decode b_OM_spread 105 = .ok (.iconst 1, 1) := by decide +kernel
theorem d_OM_spread_106 : decode b_OM_spread 106 = .ok (.iadd, 1) := by decide +kernel
theorem d_OM_spread_107 : decode b_OM_spread 107 = .ok (.putfield 76, 3) := by decide +kernel
theorem d_OM_spread_110 : decode b_OM_spread 110 = .ok (.aload_n 0, 1) := by decide +kernel
theorem d_OM_spread_111 : decode b_OM_spread 111 = .ok (.getfield 15, 3) := by decide +kernel
theorem d_OM_spread_114 : decode b_OM_spread 114 = .ok (.iload 4, 2) := by decide +kernel
theorem d_OM_spread_116 : decode b_OM_spread 116 = .ok (.iload_n 2, 1) := by decide +kernel
theorem d_OM_spread_117 : decode b_OM_spread 117 = .ok (.iastore, 1) := by decide +kernel
theorem d_OM_spread_118 : decode b_OM_spread 118 = .ok (.aload_n 0, 1) := by decide +kernel
theorem d_OM_spread_119 : decode b_OM_spread 119 = .ok (.getfield 34, 3) := by decide +kernel
theorem d_OM_spread_122 : decode b_OM_spread 122 = .ok (.aload_n 0, 1) := by decide +kernel
theorem d_OM_spread_123 : decode b_OM_spread 123 = .ok (.getfield 76, 3) := by decide +kernel
theorem d_OM_spread_126 : decode b_OM_spread 126 = .ok (.aload_n 0, 1) := by decide +kernel
theorem d_OM_spread_127 : decode b_OM_spread 127 = .ok (.getfield 47, 3) := by decide +kernel
theorem d_OM_spread_130 : decode b_OM_spread 130 = .ok (.getfield 67, 3) := by decide +kernel
theorem d_OM_spread_133 : decode b_OM_spread 133 = .ok (.iload_n 1, 1) := by decide +kernel
theorem d_OM_spread_134 : decode b_OM_spread 134 = .ok (.iaload, 1) := by decide +kernel
theorem d_OM_spread_135 : decode b_OM_spread 135 = .ok (.iastore, 1) := by decide +kernel
theorem d_OM_spread_136 : decode b_OM_spread 136 = .ok (.aload_n 0, 1) := by decide +kernel
theorem d_OM_spread_137 : decode b_OM_spread 137 = .ok (.dup, 1) := by decide +kernel
theorem d_OM_spread_138 : decode b_OM_spread 138 = .ok (.getfield 76, 3) := by decide +kernel
theorem d_OM_spread_141 : decode b_OM_spread 141 = .ok (.iconst 1, 1) := by decide +kernel
theorem d_OM_spread_142 : decode b_OM_spread 142 = .ok (.iadd, 1) := by decide +kernel
theorem d_OM_spread_143 : decode b_OM_spread 143 = .ok (.putfield 76, 3) := by decide +kernel
theorem d_OM_spread_146 : decode b_OM_spread 146 = .ok (.return_, 1) := by decide +kernel
