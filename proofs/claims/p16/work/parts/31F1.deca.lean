theorem d_RD_byteAt_0 : decode b_RD_byteAt 0 = .ok (.iload_n 1, 1) := by decide +kernel
theorem d_RD_byteAt_1 : decode b_RD_byteAt 1 = .ok (.aload_n 0, 1) := by decide +kernel
theorem d_RD_byteAt_2 : decode b_RD_byteAt 2 = .ok (.getfield 12, 3) := by decide +kernel
theorem d_RD_byteAt_5 : decode b_RD_byteAt 5 = .ok (.getfield 52, 3) := by decide +kernel
theorem d_RD_byteAt_8 : decode b_RD_byteAt 8 = .ok (.if_icmp .ge 15, 3) := by decide +kernel
theorem d_RD_byteAt_11 : decode b_RD_byteAt 11 = .ok (.aload_n 0, 1) := by decide +kernel
theorem d_RD_byteAt_12 : decode b_RD_byteAt 12 = .ok (.getfield 12, 3) := by decide +kernel
theorem d_RD_byteAt_15 : decode b_RD_byteAt 15 = .ok (.getfield 175, 3) := by decide +kernel
theorem d_RD_byteAt_18 : decode b_RD_byteAt 18 = .ok (.iload_n 1, 1) := by decide +kernel
theorem d_RD_byteAt_19 : decode b_RD_byteAt 19 = .ok (.iaload, 1) := by decide +kernel
theorem d_RD_byteAt_20 : decode b_RD_byteAt 20 = .ok (.goto 4, 3) := by decide +kernel
theorem d_RD_byteAt_23 : decode b_RD_byteAt 23 = .ok (.iconst (-1), 1) := by decide +kernel
theorem d_RD_byteAt_24 : decode b_RD_byteAt 24 = .ok (.ireturn, 1) := by decide +kernel
theorem d_RD_flagOf_0 : decode b_RD_flagOf 0 = .ok (.iload_n 0, 1) := by decide +kernel
theorem d_RD_flagOf_1 : decode b_RD_flagOf 1 = .ok (.lookupswitch 52 #[(85, 49), (105, 43), (109, 45), (115, 47)], 43) := by decide +kernel
theorem d_RD_flagOf_44 : decode b_RD_flagOf 44 = .ok (.iconst 1, 1) := by decide +kernel
theorem d_RD_flagOf_45 : decode b_RD_flagOf 45 = .ok (.ireturn, 1) := by decide +kernel
theorem d_RD_flagOf_46 : decode b_RD_flagOf 46 = .ok (.iconst 2, 1) := by decide +kernel
theorem d_RD_flagOf_47 : decode b_RD_flagOf 47 = .ok (.ireturn, 1) := by decide +kernel
theorem d_RD_flagOf_48 : decode b_RD_flagOf 48 = .ok (.iconst 4, 1) := by decide +kernel
theorem d_RD_flagOf_49 : decode b_RD_flagOf 49 = .ok (.ireturn, 1) := by decide +kernel
theorem d_RD_flagOf_50 : decode b_RD_flagOf 50 = .ok (.bipush 8, 2) := by decide +kernel
theorem d_RD_flagOf_52 : decode b_RD_flagOf 52 = .ok (.ireturn, 1) := by decide +kernel
theorem d_RD_flagOf_53 : decode b_RD_flagOf 53 = .ok (.iconst 0, 1) := by decide +kernel
theorem d_RD_flagOf_54 : decode b_RD_flagOf 54 = .ok (.ireturn, 1) := by decide +kernel
theorem d_RD_flagsTold_0 : decode b_RD_flagsTold 0 = .ok (.iconst 0, 1) := by decide +kernel
theorem d_RD_flagsTold_1 : decode b_RD_flagsTold 1 = .ok (.istore_n 2, 1) := by decide +kernel
theorem d_RD_flagsTold_2 : decode b_RD_flagsTold 2 = .ok (.iconst 0, 1) := by decide +kernel
theorem d_RD_flagsTold_3 : decode b_RD_flagsTold 3 = .ok (.istore_n 3, 1) := by decide +kernel
theorem d_RD_flagsTold_4 : decode b_RD_flagsTold 4 = .ok (.iconst 0, 1) := by decide +kernel
theorem d_RD_flagsTold_5 : decode b_RD_flagsTold 5 = .ok (.istore 4, 2) := by decide +kernel
theorem d_RD_flagsTold_7 : decode b_RD_flagsTold 7 = .ok (.iconst 0, 1) := by decide +kernel
theorem d_RD_flagsTold_8 : decode b_RD_flagsTold 8 = .ok (.istore 5, 2) := by decide +kernel
theorem d_RD_flagsTold_10 : decode b_RD_flagsTold 10 = .ok (.iload 5, 2) := by decide +kernel
theorem d_RD_flagsTold_12 : decode b_RD_flagsTold 12 = .ok (.aload_n 0, 1) := by decide +kernel
theorem d_RD_flagsTold_13 : decode b_RD_flagsTold 13 = .ok (.getfield 12, 3) := by decide +kernel
theorem d_RD_flagsTold_16 : decode b_RD_flagsTold 16 = .ok (.getfield 52, 3) := by decide +kernel
theorem d_RD_flagsTold_19 : decode b_RD_flagsTold 19 = .ok (.if_icmp .gt 127, 3) := by decide +kernel
theorem d_RD_flagsTold_22 : decode b_RD_flagsTold 22 = .ok (.aload_n 0, 1) := by decide +kernel
theorem d_RD_flagsTold_23 : decode b_RD_flagsTold 23 = .ok (.getfield 12, 3) := by decide +kernel
theorem d_RD_flagsTold_26 : decode b_RD_flagsTold 26 = .ok (.iconst 0, 1) := by decide +kernel
theorem d_RD_flagsTold_27 : decode b_RD_flagsTold 27 = .ok (.invokevirtual 79, 3) := by decide +kernel
theorem d_RD_flagsTold_30 : decode b_RD_flagsTold 30 = .ok (.istore 6, 2) := by decide +kernel
theorem d_RD_flagsTold_32 : decode b_RD_flagsTold 32 = .ok (.iload 6, 2) := by decide +kernel
theorem d_RD_flagsTold_34 : decode b_RD_flagsTold 34 = .ok (.bipush 58, 2) := by decide +kernel
theorem d_RD_flagsTold_36 : decode b_RD_flagsTold 36 = .ok (.if_icmp .eq 110, 3) := by decide +kernel
theorem d_RD_flagsTold_39 : decode b_RD_flagsTold 39 = .ok (.iload 6, 2) := by decide +kernel
theorem d_RD_flagsTold_41 : decode b_RD_flagsTold 41 = .ok (.bipush 41, 2) := by decide +kernel
theorem d_RD_flagsTold_43 : decode b_RD_flagsTold 43 = .ok (.if_icmp .ne 6, 3) := by decide +kernel
theorem d_RD_flagsTold_46 : decode b_RD_flagsTold 46 = .ok (.goto 100, 3) := by decide +kernel
theorem d_RD_flagsTold_49 : decode b_RD_flagsTold 49 = .ok (.iload 6, 2) := by decide +kernel
theorem d_RD_flagsTold_51 : decode b_RD_flagsTold 51 = .ok (.invokestatic 181, 3) := by decide +kernel
theorem d_RD_flagsTold_54 : decode b_RD_flagsTold 54 = .ok (.istore 7, 2) := by decide +kernel
theorem d_RD_flagsTold_56 : decode b_RD_flagsTold 56 = .ok (.iload 7, 2) := by decide +kernel
theorem d_RD_flagsTold_58 : decode b_RD_flagsTold 58 = .ok (.ifCond .ne 26, 3) := by decide +kernel
theorem d_RD_flagsTold_61 : decode b_RD_flagsTold 61 = .ok (.iload 4, 2) := by decide +kernel
theorem d_RD_flagsTold_63 : decode b_RD_flagsTold 63 = .ok (.ifCond .ne 10, 3) := by decide +kernel
theorem d_RD_flagsTold_66 : decode b_RD_flagsTold 66 = .ok (.iload 6, 2) := by decide +kernel
theorem d_RD_flagsTold_68 : decode b_RD_flagsTold 68 = .ok (.bipush 45, 2) := by decide +kernel
theorem d_RD_flagsTold_70 : decode b_RD_flagsTold 70 = .ok (.if_icmp .eq 14, 3) := by decide +kernel
theorem d_RD_flagsTold_73 : decode b_RD_flagsTold 73 = .ok (.aload_n 0, 1) := by decide +kernel
theorem d_RD_flagsTold_74 : decode b_RD_flagsTold 74 = .ok (.getfield 12, 3) := by decide +kernel
theorem d_RD_flagsTold_77 : decode b_RD_flagsTold 77 = .ok (.bipush 10, 2) := by decide +kernel
theorem d_RD_flagsTold_79 : decode b_RD_flagsTold 79 = .ok (.iload_n 1, 1) := by decide +kernel
theorem d_RD_flagsTold_80 : decode b_RD_flagsTold 80 = .ok (.invokevirtual 69, 3) := by decide +kernel
theorem d_RD_flagsTold_83 : decode b_RD_flagsTold 83 = .ok (.ireturn, 1) := by decide +kernel
theorem d_RD_flagsTold_84 : decode b_RD_flagsTold 84 = .ok (.iload_n 2, 1) := by decide +kernel
theorem d_RD_flagsTold_85 : decode b_RD_flagsTold 85 = .ok (.iload 4, 2) := by decide +kernel
theorem d_RD_flagsTold_87 : decode b_RD_flagsTold 87 = .ok (.ifCond .eq 7, 3) := by decide +kernel
theorem d_RD_flagsTold_90 : decode b_RD_flagsTold 90 = .ok (.iconst 0, 1) := by decide +kernel
theorem d_RD_flagsTold_91 : decode b_RD_flagsTold 91 = .ok (.goto 5, 3) := by decide +kernel
theorem d_RD_flagsTold_94 : decode b_RD_flagsTold 94 = .ok (.iload 7, 2) := by decide +kernel
theorem d_RD_flagsTold_96 : decode b_RD_flagsTold 96 = .ok (.ior, 1) := by decide +kernel
theorem d_RD_flagsTold_97 : decode b_RD_flagsTold 97 = .ok (.istore_n 2, 1) := by decide +kernel
theorem d_RD_flagsTold_98 : decode b_RD_flagsTold 98 = .ok (.iload_n 3, 1) := by decide +kernel
theorem d_RD_flagsTold_99 : decode b_RD_flagsTold 99 = .ok (.iload 4, 2) := by decide +kernel
theorem d_RD_flagsTold_101 : decode b_RD_flagsTold 101 = .ok (.ifCond .eq 8, 3) := by decide +kernel
theorem d_RD_flagsTold_104 : decode b_RD_flagsTold 104 = .ok (.iload 7, 2) := by decide +kernel
theorem d_RD_flagsTold_106 : decode b_RD_flagsTold 106 = .ok (.goto 4, 3) := by decide +kernel
theorem d_RD_flagsTold_109 : decode b_RD_flagsTold 109 = .ok (.iconst 0, 1) := by decide +kernel
theorem d_RD_flagsTold_110 : decode b_RD_flagsTold 110 = .ok (.ior, 1) := by decide +kernel
theorem d_RD_flagsTold_111 : decode b_RD_flagsTold 111 = .ok (.istore_n 3, 1) := by decide +kernel
theorem d_RD_flagsTold_112 : decode b_RD_flagsTold 112 = .ok (.iload 4, 2) := by decide +kernel
theorem d_RD_flagsTold_114 : decode b_RD_flagsTold 114 = .ok (.iload 7, 2) := by decide +kernel
theorem d_RD_flagsTold_116 : decode b_RD_flagsTold 116 = .ok (.ifCond .ne 7, 3) := by decide +kernel
theorem d_RD_flagsTold_119 : decode b_RD_flagsTold 119 = .ok (.iconst 1, 1) := by decide +kernel
theorem d_RD_flagsTold_120 : decode b_RD_flagsTold 120 = .ok (.goto 4, 3) := by decide +kernel
theorem d_RD_flagsTold_123 : decode b_RD_flagsTold 123 = .ok (.iconst 0, 1) := by decide +kernel
theorem d_RD_flagsTold_124 : decode b_RD_flagsTold 124 = .ok (.ior, 1) := by decide +kernel
theorem d_RD_flagsTold_125 : decode b_RD_flagsTold 125 = .ok (.istore 4, 2) := by decide +kernel
theorem d_RD_flagsTold_127 : decode b_RD_flagsTold 127 = .ok (.aload_n 0, 1) := by decide +kernel
theorem d_RD_flagsTold_128 : decode b_RD_flagsTold 128 = .ok (.getfield 12, 3) := by decide +kernel
theorem d_RD_flagsTold_131 : decode b_RD_flagsTold 131 = .ok (.dup, 1) := by decide +kernel
theorem d_RD_flagsTold_132 : decode b_RD_flagsTold 132 = .ok (.getfield 55, 3) := by decide +kernel
theorem d_RD_flagsTold_135 : decode b_RD_flagsTold 135 = .ok (.iconst 1, 1) := by decide +kernel
theorem d_RD_flagsTold_136 : decode b_RD_flagsTold 136 = .ok (.iadd, 1) := by decide +kernel
theorem d_RD_flagsTold_137 : decode b_RD_flagsTold 137 = .ok (.putfield 55, 3) := by decide +kernel
theorem d_RD_flagsTold_140 : decode b_RD_flagsTold 140 = .ok (.iinc 5 1, 3) := by decide +kernel
theorem d_RD_flagsTold_143 : decode b_RD_flagsTold 143 = .ok (.goto (-133), 3) := by decide +kernel
theorem d_RD_flagsTold_146 : decode b_RD_flagsTold 146 = .ok (.iload 4, 2) := by decide +kernel
theorem d_RD_flagsTold_148 : decode b_RD_flagsTold 148 = .ok (.ifCond .eq 20, 3) := by decide +kernel
theorem d_RD_flagsTold_151 : decode b_RD_flagsTold 151 = .ok (.iload_n 3, 1) := by decide +kernel
theorem d_RD_flagsTold_152 : decode b_RD_flagsTold 152 = .ok (.ifCond .ne 16, 3) := by decide +kernel
theorem d_RD_flagsTold_155 : decode b_RD_flagsTold 155 = .ok (.aload_n 0, 1) := by decide +kernel
theorem d_RD_flagsTold_156 : decode b_RD_flagsTold 156 = .ok (.getfield 12, 3) := by decide +kernel
theorem d_RD_flagsTold_159 : decode b_RD_flagsTold 159 = .ok (.bipush 10, 2) := by decide +kernel
theorem d_RD_flagsTold_161 : decode b_RD_flagsTold 161 = .ok (.iload_n 1, 1) := by decide +kernel
theorem d_RD_flagsTold_162 : decode b_RD_flagsTold 162 = .ok (.invokevirtual 69, 3) := by decide +kernel
theorem d_RD_flagsTold_165 : decode b_RD_flagsTold 165 = .ok (.goto 13, 3) := by decide +kernel
theorem d_RD_flagsTold_168 : decode b_RD_flagsTold 168 = .ok (.aload_n 0, 1) := by decide +kernel
theorem d_RD_flagsTold_169 : decode b_RD_flagsTold 169 = .ok (.getfield 38, 3) := by decide +kernel
theorem d_RD_flagsTold_172 : decode b_RD_flagsTold 172 = .ok (.iload_n 2, 1) := by decide +kernel
theorem d_RD_flagsTold_173 : decode b_RD_flagsTold 173 = .ok (.ior, 1) := by decide +kernel
theorem d_RD_flagsTold_174 : decode b_RD_flagsTold 174 = .ok (.iload_n 3, 1) := by decide +kernel
theorem d_RD_flagsTold_175 : decode b_RD_flagsTold 175 = .ok (.iconst (-1), 1) := by decide +kernel
theorem d_RD_flagsTold_176 : decode b_RD_flagsTold 176 = .ok (.ixor, 1) := by decide +kernel
theorem d_RD_flagsTold_177 : decode b_RD_flagsTold 177 = .ok (.iand, 1) := by decide +kernel
theorem d_RD_flagsTold_178 : decode b_RD_flagsTold 178 = .ok (.ireturn, 1) := by decide +kernel
theorem d_RD_isOn_0 : decode b_RD_isOn 0 = .ok (.aload_n 0, 1) := by decide +kernel
theorem d_RD_isOn_1 : decode b_RD_isOn 1 = .ok (.getfield 38, 3) := by decide +kernel
theorem d_RD_isOn_4 : decode b_RD_isOn 4 = .ok (.iload_n 1, 1) := by decide +kernel
theorem d_RD_isOn_5 : decode b_RD_isOn 5 = .ok (.iand, 1) := by decide +kernel
theorem d_RD_isOn_6 : decode b_RD_isOn 6 = .ok (.ifCond .eq 7, 3) := by decide +kernel
theorem d_RD_isOn_9 : decode b_RD_isOn 9 = .ok (.iconst 1, 1) := by decide +kernel
theorem d_RD_isOn_10 : decode b_RD_isOn 10 = .ok (.goto 4, 3) := by decide +kernel
theorem d_RD_isOn_13 : decode b_RD_isOn 13 = .ok (.iconst 0, 1) := by decide +kernel
theorem d_RD_isOn_14 : decode b_RD_isOn 14 = .ok (.ireturn, 1) := by decide +kernel
theorem d_RD_isRepeat_0 : decode b_RD_isRepeat 0 = .ok (.aload_n 0, 1) := by decide +kernel
theorem d_RD_isRepeat_1 : decode b_RD_isRepeat 1 = .ok (.getfield 12, 3) := by decide +kernel
theorem d_RD_isRepeat_4 : decode b_RD_isRepeat 4 = .ok (.iconst 0, 1) := by decide +kernel
theorem d_RD_isRepeat_5 : decode b_RD_isRepeat 5 = .ok (.invokevirtual 79, 3) := by decide +kernel
theorem d_RD_isRepeat_8 : decode b_RD_isRepeat 8 = .ok (.istore_n 1, 1) := by decide +kernel
theorem d_RD_isRepeat_9 : decode b_RD_isRepeat 9 = .ok (.aload_n 0, 1) := by decide +kernel
theorem d_RD_isRepeat_10 : decode b_RD_isRepeat 10 = .ok (.iload_n 1, 1) := by decide +kernel
theorem d_RD_isRepeat_11 : decode b_RD_isRepeat 11 = .ok (.bipush 43, 2) := by decide +kernel
theorem d_RD_isRepeat_13 : decode b_RD_isRepeat 13 = .ok (.if_icmp .ne 7, 3) := by decide +kernel
theorem d_RD_isRepeat_16 : decode b_RD_isRepeat 16 = .ok (.iconst 1, 1) := by decide +kernel
theorem d_RD_isRepeat_17 : decode b_RD_isRepeat 17 = .ok (.goto 4, 3) := by decide +kernel
theorem d_RD_isRepeat_20 : decode b_RD_isRepeat 20 = .ok (.iconst 0, 1) := by decide +kernel
theorem d_RD_isRepeat_21 : decode b_RD_isRepeat 21 = .ok (.putfield 184, 3) := by decide +kernel
theorem d_RD_isRepeat_24 : decode b_RD_isRepeat 24 = .ok (.aload_n 0, 1) := by decide +kernel
theorem d_RD_isRepeat_25 : decode b_RD_isRepeat 25 = .ok (.iload_n 1, 1) := by decide +kernel
theorem d_RD_isRepeat_26 : decode b_RD_isRepeat 26 = .ok (.bipush 63, 2) := by decide +kernel
theorem d_RD_isRepeat_28 : decode b_RD_isRepeat 28 = .ok (.if_icmp .ne 7, 3) := by decide +kernel
theorem d_RD_isRepeat_31 : decode b_RD_isRepeat 31 = .ok (.iconst 1, 1) := by decide +kernel
theorem d_RD_isRepeat_32 : decode b_RD_isRepeat 32 = .ok (.goto 6, 3) := by decide +kernel
theorem d_RD_isRepeat_35 : decode b_RD_isRepeat 35 = .ok (.sipush 1000, 3) := by decide +kernel
theorem d_RD_isRepeat_38 : decode b_RD_isRepeat 38 = .ok (.putfield 187, 3) := by decide +kernel
theorem d_RD_isRepeat_41 : decode b_RD_isRepeat 41 = .ok (.aload_n 0, 1) := by decide +kernel
theorem d_RD_isRepeat_42 : decode b_RD_isRepeat 42 = .ok (.aload_n 0, 1) := by decide +kernel
theorem d_RD_isRepeat_43 : decode b_RD_isRepeat 43 = .ok (.getfield 12, 3) := by decide +kernel
theorem d_RD_isRepeat_46 : decode b_RD_isRepeat 46 = .ok (.getfield 55, 3) := by decide +kernel
theorem d_RD_isRepeat_49 : decode b_RD_isRepeat 49 = .ok (.iconst 1, 1) := by decide +kernel
theorem d_RD_isRepeat_50 : decode b_RD_isRepeat 50 = .ok (.iadd, 1) := by decide +kernel
theorem d_RD_isRepeat_51 : decode b_RD_isRepeat 51 = .ok (.putfield 190, 3) := by decide +kernel
theorem d_RD_isRepeat_54 : decode b_RD_isRepeat 54 = .ok (.iload_n 1, 1) := by decide +kernel
theorem d_RD_isRepeat_55 : decode b_RD_isRepeat 55 = .ok (.bipush 123, 2) := by decide +kernel
theorem d_RD_isRepeat_57 : decode b_RD_isRepeat 57 = .ok (.if_icmp .eq 27, 3) := by decide +kernel
theorem d_RD_isRepeat_60 : decode b_RD_isRepeat 60 = .ok (.iload_n 1, 1) := by decide +kernel
theorem d_RD_isRepeat_61 : decode b_RD_isRepeat 61 = .ok (.bipush 42, 2) := by decide +kernel
theorem d_RD_isRepeat_63 : decode b_RD_isRepeat 63 = .ok (.if_icmp .eq 15, 3) := by decide +kernel
theorem d_RD_isRepeat_66 : decode b_RD_isRepeat 66 = .ok (.iload_n 1, 1) := by decide +kernel
theorem d_RD_isRepeat_67 : decode b_RD_isRepeat 67 = .ok (.bipush 43, 2) := by decide +kernel
theorem d_RD_isRepeat_69 : decode b_RD_isRepeat 69 = .ok (.if_icmp .eq 9, 3) := by decide +kernel
theorem d_RD_isRepeat_72 : decode b_RD_isRepeat 72 = .ok (.iload_n 1, 1) := by decide +kernel
theorem d_RD_isRepeat_73 : decode b_RD_isRepeat 73 = .ok (.bipush 63, 2) := by decide +kernel
theorem d_RD_isRepeat_75 : decode b_RD_isRepeat 75 = .ok (.if_icmp .ne 7, 3) := by decide +kernel
theorem d_RD_isRepeat_78 : decode b_RD_isRepeat 78 = .ok (.iconst 1, 1) := by decide +kernel
theorem d_RD_isRepeat_79 : decode b_RD_isRepeat 79 = .ok (.goto 4, 3) := by decide +kernel
theorem d_RD_isRepeat_82 : decode b_RD_isRepeat 82 = .ok (.iconst 0, 1) := by decide +kernel
theorem d_RD_isRepeat_83 : decode b_RD_isRepeat 83 = .ok (.ireturn, 1) := by decide +kernel
theorem d_RD_isRepeat_84 : decode b_RD_isRepeat 84 = .ok (.aload_n 0, 1) := by decide +kernel
theorem d_RD_isRepeat_85 : decode b_RD_isRepeat 85 = .ok (.aload_n 0, 1) := by decide +kernel
theorem d_RD_isRepeat_86 : decode b_RD_isRepeat 86 = .ok (.invokevirtual 200, 3) := by decide +kernel
theorem d_RD_isRepeat_89 : decode b_RD_isRepeat 89 = .ok (.putfield 184, 3) := by decide +kernel
theorem d_RD_isRepeat_92 : decode b_RD_isRepeat 92 = .ok (.aload_n 0, 1) := by decide +kernel
theorem d_RD_isRepeat_93 : decode b_RD_isRepeat 93 = .ok (.getfield 184, 3) := by decide +kernel
theorem d_RD_isRepeat_96 : decode b_RD_isRepeat 96 = .ok (.iconst (-1), 1) := by decide +kernel
theorem d_RD_isRepeat_97 : decode b_RD_isRepeat 97 = .ok (.if_icmp .ne 5, 3) := by decide +kernel
theorem d_RD_isRepeat_100 : decode b_RD_isRepeat 100 = .ok (.iconst 0, 1) := by decide +kernel
theorem d_RD_isRepeat_101 : decode b_RD_isRepeat 101 = .ok (.ireturn, 1) := by decide +kernel
theorem d_RD_isRepeat_102 : decode b_RD_isRepeat 102 = .ok (.aload_n 0, 1) := by decide +kernel
theorem d_RD_isRepeat_103 : decode b_RD_isRepeat 103 = .ok (.aload_n 0, 1) := by decide +kernel
theorem d_RD_isRepeat_104 : decode b_RD_isRepeat 104 = .ok (.getfield 184, 3) := by decide +kernel
theorem d_RD_isRepeat_107 : decode b_RD_isRepeat 107 = .ok (.putfield 187, 3) := by decide +kernel
theorem d_RD_isRepeat_110 : decode b_RD_isRepeat 110 = .ok (.aload_n 0, 1) := by decide +kernel
theorem d_RD_isRepeat_111 : decode b_RD_isRepeat 111 = .ok (.aload_n 0, 1) := by decide +kernel
theorem d_RD_isRepeat_112 : decode b_RD_isRepeat 112 = .ok (.getfield 190, 3) := by decide +kernel
theorem d_RD_isRepeat_115 : decode b_RD_isRepeat 115 = .ok (.invokevirtual 203, 3) := by decide +kernel
theorem d_RD_isRepeat_118 : decode b_RD_isRepeat 118 = .ok (.bipush 44, 2) := by decide +kernel
theorem d_RD_isRepeat_120 : decode b_RD_isRepeat 120 = .ok (.if_icmp .ne 40, 3) := by decide +kernel
theorem d_RD_isRepeat_123 : decode b_RD_isRepeat 123 = .ok (.aload_n 0, 1) := by decide +kernel
theorem d_RD_isRepeat_124 : decode b_RD_isRepeat 124 = .ok (.dup, 1) := by decide +kernel
theorem d_RD_isRepeat_125 : decode b_RD_isRepeat 125 = .ok (.getfield 190, 3) := by decide +kernel
theorem d_RD_isRepeat_128 : decode b_RD_isRepeat 128 = .ok (.iconst 1, 1) := by decide +kernel
theorem d_RD_isRepeat_129 : decode b_RD_isRepeat 129 = .ok (.iadd, 1) := by decide +kernel
theorem d_RD_isRepeat_130 : decode b_RD_isRepeat 130 = .ok (.putfield 190, 3) := by decide +kernel
theorem d_RD_isRepeat_133 : decode b_RD_isRepeat 133 = .ok (.aload_n 0, 1) := by decide +kernel
theorem d_RD_isRepeat_134 : decode b_RD_isRepeat 134 = .ok (.aload_n 0, 1) := by decide +kernel
theorem d_RD_isRepeat_135 : decode b_RD_isRepeat 135 = .ok (.aload_n 0, 1) := by decide +kernel
theorem d_RD_isRepeat_136 : decode b_RD_isRepeat 136 = .ok (.getfield 190, 3) := by decide +kernel
theorem d_RD_isRepeat_139 : decode b_RD_isRepeat 139 = .ok (.invokevirtual 203, 3) := by decide +kernel
theorem d_RD_isRepeat_142 : decode b_RD_isRepeat 142 = .ok (.bipush 125, 2) := by decide +kernel
theorem d_RD_isRepeat_144 : decode b_RD_isRepeat 144 = .ok (.if_icmp .ne 9, 3) := by decide +kernel
theorem d_RD_isRepeat_147 : decode b_RD_isRepeat 147 = .ok (.sipush 1000, 3) := by decide +kernel
theorem d_RD_isRepeat_150 : decode b_RD_isRepeat 150 = .ok (.goto 7, 3) := by decide +kernel
theorem d_RD_isRepeat_153 : decode b_RD_isRepeat 153 = .ok (.aload_n 0, 1) := by decide +kernel
theorem d_RD_isRepeat_154 : decode b_RD_isRepeat 154 = .ok (.invokevirtual 200, 3) := by decide +kernel
theorem d_RD_isRepeat_157 : decode b_RD_isRepeat 157 = .ok (.putfield 187, 3) := by decide +kernel
theorem d_RD_isRepeat_160 : decode b_RD_isRepeat 160 = .ok (.aload_n 0, 1) := by decide +kernel
theorem d_RD_isRepeat_161 : decode b_RD_isRepeat 161 = .ok (.dup, 1) := by decide +kernel
theorem d_RD_isRepeat_162 : decode b_RD_isRepeat 162 = .ok (.getfield 190, 3) := by decide +kernel
theorem d_RD_isRepeat_165 : decode b_RD_isRepeat 165 = .ok (.iconst 1, 1) := by decide +kernel
theorem d_RD_isRepeat_166 : decode b_RD_isRepeat 166 = .ok (.iadd, 1) := by decide +kernel
theorem d_RD_isRepeat_167 : decode b_RD_isRepeat 167 = .ok (.putfield 190, 3) := by decide +kernel
theorem d_RD_isRepeat_170 : decode b_RD_isRepeat 170 = .ok (.aload_n 0, 1) := by decide +kernel
theorem d_RD_isRepeat_171 : decode b_RD_isRepeat 171 = .ok (.getfield 187, 3) := by decide +kernel
theorem d_RD_isRepeat_174 : decode b_RD_isRepeat 174 = .ok (.iconst (-1), 1) := by decide +kernel
theorem d_RD_isRepeat_175 : decode b_RD_isRepeat 175 = .ok (.if_icmp .eq 22, 3) := by decide +kernel
theorem d_RD_isRepeat_178 : decode b_RD_isRepeat 178 = .ok (.aload_n 0, 1) := by decide +kernel
theorem d_RD_isRepeat_179 : decode b_RD_isRepeat 179 = .ok (.aload_n 0, 1) := by decide +kernel
theorem d_RD_isRepeat_180 : decode b_RD_isRepeat 180 = .ok (.getfield 190, 3) := by decide +kernel
theorem d_RD_isRepeat_183 : decode b_RD_isRepeat 183 = .ok (.iconst 1, 1) := by decide +kernel
theorem d_RD_isRepeat_184 : decode b_RD_isRepeat 184 = .ok (.isub, 1) := by decide +kernel
theorem d_RD_isRepeat_185 : decode b_RD_isRepeat 185 = .ok (.invokevirtual 203, 3) := by decide +kernel
theorem d_RD_isRepeat_188 : decode b_RD_isRepeat 188 = .ok (.bipush 125, 2) := by decide +kernel
theorem d_RD_isRepeat_190 : decode b_RD_isRepeat 190 = .ok (.if_icmp .ne 7, 3) := by decide +kernel
theorem d_RD_isRepeat_193 : decode b_RD_isRepeat 193 = .ok (.iconst 1, 1) := by decide +kernel
theorem d_RD_isRepeat_194 : decode b_RD_isRepeat 194 = .ok (.goto 4, 3) := by decide +kernel
theorem d_RD_isRepeat_197 : decode b_RD_isRepeat 197 = .ok (.iconst 0, 1) := by decide +kernel
theorem d_RD_isRepeat_198 : decode b_RD_isRepeat 198 = .ok (.ireturn, 1) := by decide +kernel
theorem d_RD_isTaken_0 : decode b_RD_isTaken 0 = .ok (.iconst 0, 1) := by decide +kernel
theorem d_RD_isTaken_1 : decode b_RD_isTaken 1 = .ok (.istore_n 3, 1) := by decide +kernel
theorem d_RD_isTaken_2 : decode b_RD_isTaken 2 = .ok (.iconst 1, 1) := by decide +kernel
theorem d_RD_isTaken_3 : decode b_RD_isTaken 3 = .ok (.istore 4, 2) := by decide +kernel
theorem d_RD_isTaken_5 : decode b_RD_isTaken 5 = .ok (.iload 4, 2) := by decide +kernel
theorem d_RD_isTaken_7 : decode b_RD_isTaken 7 = .ok (.aload_n 0, 1) := by decide +kernel
theorem d_RD_isTaken_8 : decode b_RD_isTaken 8 = .ok (.getfield 42, 3) := by decide +kernel
theorem d_RD_isTaken_11 : decode b_RD_isTaken 11 = .ok (.if_icmp .gt 88, 3) := by decide +kernel
theorem d_RD_isTaken_14 : decode b_RD_isTaken 14 = .ok (.iload_n 3, 1) := by decide +kernel
theorem d_RD_isTaken_15 : decode b_RD_isTaken 15 = .ok (.ifCond .ne 84, 3) := by decide +kernel
theorem d_RD_isTaken_18 : decode b_RD_isTaken 18 = .ok (.aload_n 0, 1) := by decide +kernel
theorem d_RD_isTaken_19 : decode b_RD_isTaken 19 = .ok (.getfield 31, 3) := by decide +kernel
theorem d_RD_isTaken_22 : decode b_RD_isTaken 22 = .ok (.iload 4, 2) := by decide +kernel
theorem d_RD_isTaken_24 : decode b_RD_isTaken 24 = .ok (.iaload, 1) := by decide +kernel
theorem d_RD_isTaken_25 : decode b_RD_isTaken 25 = .ok (.iload_n 2, 1) := by decide +kernel
theorem d_RD_isTaken_26 : decode b_RD_isTaken 26 = .ok (.if_icmp .ne 7, 3) := by decide +kernel
theorem d_RD_isTaken_29 : decode b_RD_isTaken 29 = .ok (.iconst 1, 1) := by decide +kernel
theorem d_RD_isTaken_30 : decode b_RD_isTaken 30 = .ok (.goto 4, 3) := by decide +kernel
theorem d_RD_isTaken_33 : decode b_RD_isTaken 33 = .ok (.iconst 0, 1) := by decide +kernel
theorem d_RD_isTaken_34 : decode b_RD_isTaken 34 = .ok (.istore_n 3, 1) := by decide +kernel
theorem d_RD_isTaken_35 : decode b_RD_isTaken 35 = .ok (.iconst 0, 1) := by decide +kernel
theorem d_RD_isTaken_36 : decode b_RD_isTaken 36 = .ok (.istore 5, 2) := by decide +kernel
theorem d_RD_isTaken_38 : decode b_RD_isTaken 38 = .ok (.iload 5, 2) := by decide +kernel
theorem d_RD_isTaken_40 : decode b_RD_isTaken 40 = .ok (.iload_n 2, 1) := by decide +kernel
theorem d_RD_isTaken_41 : decode b_RD_isTaken 41 = .ok (.if_icmp .ge 52, 3) := by decide +kernel
theorem d_RD_isTaken_44 : decode b_RD_isTaken 44 = .ok (.iload_n 3, 1) := by decide +kernel
theorem d_RD_isTaken_45 : decode b_RD_isTaken 45 = .ok (.ifCond .eq 48, 3) := by decide +kernel
theorem d_RD_isTaken_48 : decode b_RD_isTaken 48 = .ok (.aload_n 0, 1) := by decide +kernel
theorem d_RD_isTaken_49 : decode b_RD_isTaken 49 = .ok (.getfield 12, 3) := by decide +kernel
theorem d_RD_isTaken_52 : decode b_RD_isTaken 52 = .ok (.getfield 175, 3) := by decide +kernel
theorem d_RD_isTaken_55 : decode b_RD_isTaken 55 = .ok (.aload_n 0, 1) := by decide +kernel
theorem d_RD_isTaken_56 : decode b_RD_isTaken 56 = .ok (.getfield 27, 3) := by decide +kernel
theorem d_RD_isTaken_59 : decode b_RD_isTaken 59 = .ok (.iload 4, 2) := by decide +kernel
theorem d_RD_isTaken_61 : decode b_RD_isTaken 61 = .ok (.iaload, 1) := by decide +kernel
theorem d_RD_isTaken_62 : decode b_RD_isTaken 62 = .ok (.iload 5, 2) := by decide +kernel
theorem d_RD_isTaken_64 : decode b_RD_isTaken 64 = .ok (.iadd, 1) := by decide +kernel
theorem d_RD_isTaken_65 : decode b_RD_isTaken 65 = .ok (.iaload, 1) := by decide +kernel
theorem d_RD_isTaken_66 : decode b_RD_isTaken 66 = .ok (.aload_n 0, 1) := by decide +kernel
theorem d_RD_isTaken_67 : decode b_RD_isTaken 67 = .ok (.getfield 12, 3) := by decide +kernel
theorem d_RD_isTaken_70 : decode b_RD_isTaken 70 = .ok (.getfield 175, 3) := by decide +kernel
theorem d_RD_isTaken_73 : decode b_RD_isTaken 73 = .ok (.iload_n 1, 1) := by decide +kernel
theorem d_RD_isTaken_74 : decode b_RD_isTaken 74 = .ok (.iload 5, 2) := by decide +kernel
theorem d_RD_isTaken_76 : decode b_RD_isTaken 76 = .ok (.iadd, 1) := by decide +kernel
theorem d_RD_isTaken_77 : decode b_RD_isTaken 77 = .ok (.iaload, 1) := by decide +kernel
theorem d_RD_isTaken_78 : decode b_RD_isTaken 78 = .ok (.if_icmp .ne 7, 3) := by decide +kernel
theorem d_RD_isTaken_81 : decode b_RD_isTaken 81 = .ok (.iconst 1, 1) := by decide +kernel
theorem d_RD_isTaken_82 : decode b_RD_isTaken 82 = .ok (.goto 4, 3) := by decide +kernel
theorem d_RD_isTaken_85 : decode b_RD_isTaken 85 = .ok (.iconst 0, 1) := by decide +kernel
theorem d_RD_isTaken_86 : decode b_RD_isTaken 86 = .ok (.istore_n 3, 1) := by decide +kernel
theorem d_RD_isTaken_87 : decode b_RD_isTaken 87 = .ok (.iinc 5 1, 3) := by decide +kernel
theorem d_RD_isTaken_90 : decode b_RD_isTaken 90 = .ok (.goto (-52), 3) := by decide +kernel
theorem d_RD_isTaken_93 : decode b_RD_isTaken 93 = .ok (.iinc 4 1, 3) := by decide +kernel
theorem d_RD_isTaken_96 : decode b_RD_isTaken 96 = .ok (.goto (-91), 3) := by decide +kernel
theorem d_RD_isTaken_99 : decode b_RD_isTaken 99 = .ok (.iload_n 3, 1) := by decide +kernel
theorem d_RD_isTaken_100 : decode b_RD_isTaken 100 = .ok (.ireturn, 1) := by decide +kernel
theorem d_RD_nameLengthAt_0 : decode b_RD_nameLengthAt 0 = .ok (.iconst 0, 1) := by decide +kernel
theorem d_RD_nameLengthAt_1 : decode b_RD_nameLengthAt 1 = .ok (.istore_n 2, 1) := by decide +kernel
theorem d_RD_nameLengthAt_2 : decode b_RD_nameLengthAt 2 = .ok (.iload_n 1, 1) := by decide +kernel
theorem d_RD_nameLengthAt_3 : decode b_RD_nameLengthAt 3 = .ok (.istore_n 3, 1) := by decide +kernel
theorem d_RD_nameLengthAt_4 : decode b_RD_nameLengthAt 4 = .ok (.iload_n 3, 1) := by decide +kernel
theorem d_RD_nameLengthAt_5 : decode b_RD_nameLengthAt 5 = .ok (.aload_n 0, 1) := by decide +kernel
theorem d_RD_nameLengthAt_6 : decode b_RD_nameLengthAt 6 = .ok (.getfield 12, 3) := by decide +kernel
theorem d_RD_nameLengthAt_9 : decode b_RD_nameLengthAt 9 = .ok (.getfield 52, 3) := by decide +kernel
theorem d_RD_nameLengthAt_12 : decode b_RD_nameLengthAt 12 = .ok (.if_icmp .ge 33, 3) := by decide +kernel
theorem d_RD_nameLengthAt_15 : decode b_RD_nameLengthAt 15 = .ok (.iload_n 2, 1) := by decide +kernel
theorem d_RD_nameLengthAt_16 : decode b_RD_nameLengthAt 16 = .ok (.bipush 12, 2) := by decide +kernel
theorem d_RD_nameLengthAt_18 : decode b_RD_nameLengthAt 18 = .ok (.if_icmp .gt 27, 3) := by decide +kernel
theorem d_RD_nameLengthAt_21 : decode b_RD_nameLengthAt 21 = .ok (.aload_n 0, 1) := by decide +kernel
theorem d_RD_nameLengthAt_22 : decode b_RD_nameLengthAt 22 = .ok (.getfield 12, 3) := by decide +kernel
theorem d_RD_nameLengthAt_25 : decode b_RD_nameLengthAt 25 = .ok (.getfield 175, 3) := by decide +kernel
theorem d_RD_nameLengthAt_28 : decode b_RD_nameLengthAt 28 = .ok (.iload_n 3, 1) := by decide +kernel
theorem d_RD_nameLengthAt_29 : decode b_RD_nameLengthAt 29 = .ok (.iaload, 1) := by decide +kernel
theorem d_RD_nameLengthAt_30 : decode b_RD_nameLengthAt 30 = .ok (.invokestatic 178, 3) := by decide +kernel
theorem d_RD_nameLengthAt_33 : decode b_RD_nameLengthAt 33 = .ok (.ifCond .eq 12, 3) := by decide +kernel
theorem d_RD_nameLengthAt_36 : decode b_RD_nameLengthAt 36 = .ok (.iinc 2 1, 3) := by decide +kernel
theorem d_RD_nameLengthAt_39 : decode b_RD_nameLengthAt 39 = .ok (.iinc 3 1, 3) := by decide +kernel
theorem d_RD_nameLengthAt_42 : decode b_RD_nameLengthAt 42 = .ok (.goto (-38), 3) := by decide +kernel
theorem d_RD_nameLengthAt_45 : decode b_RD_nameLengthAt 45 = .ok (.iload_n 1, 1) := by decide +kernel
theorem d_RD_nameLengthAt_46 : decode b_RD_nameLengthAt 46 = .ok (.iload_n 2, 1) := by decide +kernel
theorem d_RD_nameLengthAt_47 : decode b_RD_nameLengthAt 47 = .ok (.iadd, 1) := by decide +kernel
theorem d_RD_nameLengthAt_48 : decode b_RD_nameLengthAt 48 = .ok (.aload_n 0, 1) := by decide +kernel
theorem d_RD_nameLengthAt_49 : decode b_RD_nameLengthAt 49 = .ok (.getfield 12, 3) := by decide +kernel
theorem d_RD_nameLengthAt_52 : decode b_RD_nameLengthAt 52 = .ok (.getfield 52, 3) := by decide +kernel
theorem d_RD_nameLengthAt_55 : decode b_RD_nameLengthAt 55 = .ok (.if_icmp .ge 23, 3) := by decide +kernel
theorem d_RD_nameLengthAt_58 : decode b_RD_nameLengthAt 58 = .ok (.aload_n 0, 1) := by decide +kernel
theorem d_RD_nameLengthAt_59 : decode b_RD_nameLengthAt 59 = .ok (.getfield 12, 3) := by decide +kernel
theorem d_RD_nameLengthAt_62 : decode b_RD_nameLengthAt 62 = .ok (.getfield 175, 3) := by decide +kernel
theorem d_RD_nameLengthAt_65 : decode b_RD_nameLengthAt 65 = .ok (.iload_n 1, 1) := by decide +kernel
theorem d_RD_nameLengthAt_66 : decode b_RD_nameLengthAt 66 = .ok (.iload_n 2, 1) := by decide +kernel
theorem d_RD_nameLengthAt_67 : decode b_RD_nameLengthAt 67 = .ok (.iadd, 1) := by decide +kernel
theorem d_RD_nameLengthAt_68 : decode b_RD_nameLengthAt 68 = .ok (.iaload, 1) := by decide +kernel
theorem d_RD_nameLengthAt_69 : decode b_RD_nameLengthAt 69 = .ok (.bipush 62, 2) := by decide +kernel
theorem d_RD_nameLengthAt_71 : decode b_RD_nameLengthAt 71 = .ok (.if_icmp .ne 7, 3) := by decide +kernel
theorem d_RD_nameLengthAt_74 : decode b_RD_nameLengthAt 74 = .ok (.iconst 1, 1) := by decide +kernel
theorem d_RD_nameLengthAt_75 : decode b_RD_nameLengthAt 75 = .ok (.goto 4, 3) := by decide +kernel
theorem d_RD_nameLengthAt_78 : decode b_RD_nameLengthAt 78 = .ok (.iconst 0, 1) := by decide +kernel
theorem d_RD_nameLengthAt_79 : decode b_RD_nameLengthAt 79 = .ok (.istore_n 3, 1) := by decide +kernel
theorem d_RD_nameLengthAt_80 : decode b_RD_nameLengthAt 80 = .ok (.iload_n 3, 1) := by decide +kernel
theorem d_RD_nameLengthAt_81 : decode b_RD_nameLengthAt 81 = .ok (.ifCond .eq 13, 3) := by decide +kernel
theorem d_RD_nameLengthAt_84 : decode b_RD_nameLengthAt 84 = .ok (.iload_n 2, 1) := by decide +kernel
theorem d_RD_nameLengthAt_85 : decode b_RD_nameLengthAt 85 = .ok (.bipush 12, 2) := by decide +kernel
theorem d_RD_nameLengthAt_87 : decode b_RD_nameLengthAt 87 = .ok (.if_icmp .gt 7, 3) := by decide +kernel
theorem d_RD_nameLengthAt_90 : decode b_RD_nameLengthAt 90 = .ok (.iload_n 2, 1) := by decide +kernel
theorem d_RD_nameLengthAt_91 : decode b_RD_nameLengthAt 91 = .ok (.goto 4, 3) := by decide +kernel
theorem d_RD_nameLengthAt_94 : decode b_RD_nameLengthAt 94 = .ok (.iconst 0, 1) := by decide +kernel
theorem d_RD_nameLengthAt_95 : decode b_RD_nameLengthAt 95 = .ok (.ireturn, 1) := by decide +kernel
theorem d_RD_number_0 : decode b_RD_number 0 = .ok (.iconst (-1), 1) := by decide +kernel
theorem d_RD_number_1 : decode b_RD_number 1 = .ok (.istore_n 1, 1) := by decide +kernel
theorem d_RD_number_2 : decode b_RD_number 2 = .ok (.iconst 0, 1) := by decide +kernel
theorem d_RD_number_3 : decode b_RD_number 3 = .ok (.istore_n 2, 1) := by decide +kernel
theorem d_RD_number_4 : decode b_RD_number 4 = .ok (.iload_n 2, 1) := by decide +kernel
theorem d_RD_number_5 : decode b_RD_number 5 = .ok (.iconst 3, 1) := by decide +kernel
theorem d_RD_number_6 : decode b_RD_number 6 = .ok (.if_icmp .ge 57, 3) := by decide +kernel
theorem d_RD_number_9 : decode b_RD_number 9 = .ok (.aload_n 0, 1) := by decide +kernel
theorem d_RD_number_10 : decode b_RD_number 10 = .ok (.aload_n 0, 1) := by decide +kernel
theorem d_RD_number_11 : decode b_RD_number 11 = .ok (.getfield 190, 3) := by decide +kernel
theorem d_RD_number_14 : decode b_RD_number 14 = .ok (.invokevirtual 203, 3) := by decide +kernel
theorem d_RD_number_17 : decode b_RD_number 17 = .ok (.istore_n 3, 1) := by decide +kernel
theorem d_RD_number_18 : decode b_RD_number 18 = .ok (.iload_n 3, 1) := by decide +kernel
theorem d_RD_number_19 : decode b_RD_number 19 = .ok (.bipush 48, 2) := by decide +kernel
theorem d_RD_number_21 : decode b_RD_number 21 = .ok (.if_icmp .lt 42, 3) := by decide +kernel
theorem d_RD_number_24 : decode b_RD_number 24 = .ok (.iload_n 3, 1) := by decide +kernel
theorem d_RD_number_25 : decode b_RD_number 25 = .ok (.bipush 57, 2) := by decide +kernel
theorem d_RD_number_27 : decode b_RD_number 27 = .ok (.if_icmp .le 6, 3) := by decide +kernel
theorem d_RD_number_30 : decode b_RD_number 30 = .ok (.goto 33, 3) := by decide +kernel
theorem d_RD_number_33 : decode b_RD_number 33 = .ok (.bipush 10, 2) := by decide +kernel
theorem d_RD_number_35 : decode b_RD_number 35 = .ok (.iload_n 1, 1) := by decide +kernel
theorem d_RD_number_36 : decode b_RD_number 36 = .ok (.iconst 0, 1) := by decide +kernel
theorem d_RD_number_37 : decode b_RD_number 37 = .ok (.invokestatic 206, 3) := by decide +kernel
theorem d_RD_number_40 : decode b_RD_number 40 = .ok (.imul, 1) := by decide +kernel
theorem d_RD_number_41 : decode b_RD_number 41 = .ok (.iload_n 3, 1) := by decide +kernel
theorem d_RD_number_42 : decode b_RD_number 42 = .ok (.iadd, 1) := by decide +kernel
theorem d_RD_number_43 : decode b_RD_number 43 = .ok (.bipush 48, 2) := by decide +kernel
theorem d_RD_number_45 : decode b_RD_number 45 = .ok (.isub, 1) := by decide +kernel
theorem d_RD_number_46 : decode b_RD_number 46 = .ok (.istore_n 1, 1) := by decide +kernel
theorem d_RD_number_47 : decode b_RD_number 47 = .ok (.aload_n 0, 1) := by decide +kernel
theorem d_RD_number_48 : decode b_RD_number 48 = .ok (.dup, 1) := by decide +kernel
theorem d_RD_number_49 : decode b_RD_number 49 = .ok (.getfield 190, 3) := by decide +kernel
theorem d_RD_number_52 : decode b_RD_number 52 = .ok (.iconst 1, 1) := by decide +kernel
theorem d_RD_number_53 : decode b_RD_number 53 = .ok (.iadd, 1) := by decide +kernel
theorem d_RD_number_54 : decode b_RD_number 54 = .ok (.putfield 190, 3) := by decide +kernel
theorem d_RD_number_57 : decode b_RD_number 57 = .ok (.iinc 2 1, 3) := by decide +kernel
theorem d_RD_number_60 : decode b_RD_number 60 = .ok (.goto (-56), 3) := by decide +kernel
theorem d_RD_number_63 : decode b_RD_number 63 = .ok (.iload_n 1, 1) := by decide +kernel
theorem d_RD_number_64 : decode b_RD_number 64 = .ok (.ireturn, 1) := by decide +kernel
