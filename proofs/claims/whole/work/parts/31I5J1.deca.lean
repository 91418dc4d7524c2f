theorem d_PR_addPair_0 : decode b_PR_addPair 0 = .ok (.aload_n 0, 1) := by decide +kernel
theorem d_PR_addPair_1 : decode b_PR_addPair 1 = .ok (.iload_n 1, 1) := by decide +kernel
theorem d_PR_addPair_2 : decode b_PR_addPair 2 = .ok (.lload_n 2, 1) := by decide +kernel
theorem d_PR_addPair_3 : decode b_PR_addPair 3 = .ok (.invokestatic 96, 3) := by decide +kernel
theorem d_PR_addPair_6 : decode b_PR_addPair 6 = .ok (.iload 4, 2) := by decide +kernel
theorem d_PR_addPair_8 : decode b_PR_addPair 8 = .ok (.invokevirtual 84, 3) := by decide +kernel
theorem d_PR_addPair_11 : decode b_PR_addPair 11 = .ok (.istore 5, 2) := by decide +kernel
theorem d_PR_addPair_13 : decode b_PR_addPair 13 = .ok (.lload_n 2, 1) := by decide +kernel
theorem d_PR_addPair_14 : decode b_PR_addPair 14 = .ok (.invokestatic 96, 3) := by decide +kernel
theorem d_PR_addPair_17 : decode b_PR_addPair 17 = .ok (.lload_n 2, 1) := by decide +kernel
theorem d_PR_addPair_18 : decode b_PR_addPair 18 = .ok (.invokestatic 124, 3) := by decide +kernel
theorem d_PR_addPair_21 : decode b_PR_addPair 21 = .ok (.if_icmp .ne 8, 3) := by decide +kernel
theorem d_PR_addPair_24 : decode b_PR_addPair 24 = .ok (.iload 5, 2) := by decide +kernel
theorem d_PR_addPair_26 : decode b_PR_addPair 26 = .ok (.goto 14, 3) := by decide +kernel
theorem d_PR_addPair_29 : decode b_PR_addPair 29 = .ok (.aload_n 0, 1) := by decide +kernel
theorem d_PR_addPair_30 : decode b_PR_addPair 30 = .ok (.iload_n 1, 1) := by decide +kernel
theorem d_PR_addPair_31 : decode b_PR_addPair 31 = .ok (.lload_n 2, 1) := by decide +kernel
theorem d_PR_addPair_32 : decode b_PR_addPair 32 = .ok (.invokestatic 124, 3) := by decide +kernel
theorem d_PR_addPair_35 : decode b_PR_addPair 35 = .ok (.iload 4, 2) := by decide +kernel
theorem d_PR_addPair_37 : decode b_PR_addPair 37 = .ok (.invokevirtual 84, 3) := by decide +kernel
theorem d_PR_addPair_40 : decode b_PR_addPair 40 = .ok (.istore 6, 2) := by decide +kernel
theorem d_PR_addPair_42 : decode b_PR_addPair 42 = .ok (.iload 5, 2) := by decide +kernel
theorem d_PR_addPair_44 : decode b_PR_addPair 44 = .ok (.iload 6, 2) := by decide +kernel
theorem d_PR_addPair_46 : decode b_PR_addPair 46 = .ok (.invokestatic 88, 3) := by decide +kernel
theorem d_PR_addPair_49 : decode b_PR_addPair 49 = .ok (.lreturn, 1) := by decide +kernel
theorem d_PR_build_0 : decode b_PR_build 0 = .ok (.aload_n 0, 1) := by decide +kernel
theorem d_PR_build_1 : decode b_PR_build 1 = .ok (.iload_n 3, 1) := by decide +kernel
theorem d_PR_build_2 : decode b_PR_build 2 = .ok (.putfield 30, 3) := by decide +kernel
theorem d_PR_build_5 : decode b_PR_build 5 = .ok (.aload_n 0, 1) := by decide +kernel
theorem d_PR_build_6 : decode b_PR_build 6 = .ok (.iload 4, 2) := by decide +kernel
theorem d_PR_build_8 : decode b_PR_build 8 = .ok (.putfield 34, 3) := by decide +kernel
theorem d_PR_build_11 : decode b_PR_build 11 = .ok (.aload_n 0, 1) := by decide +kernel
theorem d_PR_build_12 : decode b_PR_build 12 = .ok (.aload_n 2, 1) := by decide +kernel
theorem d_PR_build_13 : decode b_PR_build 13 = .ok (.getfield 37, 3) := by decide +kernel
theorem d_PR_build_16 : decode b_PR_build 16 = .ok (.putfield 42, 3) := by decide +kernel
theorem d_PR_build_19 : decode b_PR_build 19 = .ok (.aload_n 0, 1) := by decide +kernel
theorem d_PR_build_20 : decode b_PR_build 20 = .ok (.iconst 2, 1) := by decide +kernel
theorem d_PR_build_21 : decode b_PR_build 21 = .ok (.aload_n 0, 1) := by decide +kernel
theorem d_PR_build_22 : decode b_PR_build 22 = .ok (.getfield 42, 3) := by decide +kernel
theorem d_PR_build_25 : decode b_PR_build 25 = .ok (.iconst 1, 1) := by decide +kernel
theorem d_PR_build_26 : decode b_PR_build 26 = .ok (.iadd, 1) := by decide +kernel
theorem d_PR_build_27 : decode b_PR_build 27 = .ok (.imul, 1) := by decide +kernel
theorem d_PR_build_28 : decode b_PR_build 28 = .ok (.putfield 43, 3) := by decide +kernel
theorem d_PR_build_31 : decode b_PR_build 31 = .ok (.aload_n 0, 1) := by decide +kernel
theorem d_PR_build_32 : decode b_PR_build 32 = .ok (.aload_n 1, 1) := by decide +kernel
theorem d_PR_build_33 : decode b_PR_build 33 = .ok (.getfield 46, 3) := by decide +kernel
theorem d_PR_build_36 : decode b_PR_build 36 = .ok (.putfield 51, 3) := by decide +kernel
theorem d_PR_build_39 : decode b_PR_build 39 = .ok (.aload_n 0, 1) := by decide +kernel
theorem d_PR_build_40 : decode b_PR_build 40 = .ok (.iconst 0, 1) := by decide +kernel
theorem d_PR_build_41 : decode b_PR_build 41 = .ok (.putfield 52, 3) := by decide +kernel
theorem d_PR_build_44 : decode b_PR_build 44 = .ok (.iconst 1, 1) := by decide +kernel
theorem d_PR_build_45 : decode b_PR_build 45 = .ok (.istore 5, 2) := by decide +kernel
theorem d_PR_build_47 : decode b_PR_build 47 = .ok (.iload 5, 2) := by decide +kernel
theorem d_PR_build_49 : decode b_PR_build 49 = .ok (.aload_n 0, 1) := by decide +kernel
theorem d_PR_build_50 : decode b_PR_build 50 = .ok (.getfield 42, 3) := by decide +kernel
theorem d_PR_build_53 : decode b_PR_build 53 = .ok (.if_icmp .gt 56, 3) := by decide +kernel
theorem d_PR_build_56 : decode b_PR_build 56 = .ok (.aload_n 0, 1) := by decide +kernel
theorem d_PR_build_57 : decode b_PR_build 57 = .ok (.getfield 27, 3) := by decide +kernel
theorem d_PR_build_60 : decode b_PR_build 60 = .ok (.iload 5, 2) := by decide +kernel
theorem d_PR_build_62 : decode b_PR_build 62 = .ok (.aload_n 2, 1) := by decide +kernel
theorem d_PR_build_63 : decode b_PR_build 63 = .ok (.getfield 55, 3) := by decide +kernel
theorem d_PR_build_66 : decode b_PR_build 66 = .ok (.iload 5, 2) := by decide +kernel
theorem d_PR_build_68 : decode b_PR_build 68 = .ok (.iaload, 1) := by decide +kernel
theorem d_PR_build_69 : decode b_PR_build 69 = .ok (.iastore, 1) := by decide +kernel
theorem d_PR_build_70 : decode b_PR_build 70 = .ok (.aload_n 2, 1) := by decide +kernel
theorem d_PR_build_71 : decode b_PR_build 71 = .ok (.getfield 56, 3) := by decide +kernel
theorem d_PR_build_74 : decode b_PR_build 74 = .ok (.getfield 60, 3) := by decide +kernel
theorem d_PR_build_77 : decode b_PR_build 77 = .ok (.aload_n 2, 1) := by decide +kernel
theorem d_PR_build_78 : decode b_PR_build 78 = .ok (.getfield 65, 3) := by decide +kernel
theorem d_PR_build_81 : decode b_PR_build 81 = .ok (.iload 5, 2) := by decide +kernel
theorem d_PR_build_83 : decode b_PR_build 83 = .ok (.iaload, 1) := by decide +kernel
theorem d_PR_build_84 : decode b_PR_build 84 = .ok (.aload_n 0, 1) := by decide +kernel
theorem d_PR_build_85 : decode b_PR_build 85 = .ok (.getfield 24, 3) := by decide +kernel
theorem d_PR_build_88 : decode b_PR_build 88 = .ok (.iload 5, 2) := by decide +kernel
theorem d_PR_build_90 : decode b_PR_build 90 = .ok (.bipush 12, 2) := by decide +kernel
theorem d_PR_build_92 : decode b_PR_build 92 = .ok (.imul, 1) := by decide +kernel
theorem d_PR_build_93 : decode b_PR_build 93 = .ok (.aload_n 0, 1) := by decide +kernel
theorem d_PR_build_94 : decode b_PR_build 94 = .ok (.getfield 27, 3) := by decide +kernel
theorem d_PR_build_97 : decode b_PR_build 97 = .ok (.iload 5, 2) := by decide +kernel
theorem d_PR_build_99 : decode b_PR_build 99 = .ok (.iaload, 1) := by decide +kernel
theorem d_PR_build_100 : decode b_PR_build 100 = .ok (.invokestatic 68, 3) := by decide +kernel
theorem d_PR_build_103 : decode b_PR_build 103 = .ok (.iinc 5 1, 3) := by decide +kernel
theorem d_PR_build_106 : decode b_PR_build 106 = .ok (.goto (-59), 3) := by decide +kernel
theorem d_PR_build_109 : decode b_PR_build 109 = .ok (.aload_n 0, 1) := by decide +kernel
theorem d_PR_build_110 : decode b_PR_build 110 = .ok (.iconst 0, 1) := by decide +kernel
theorem d_PR_build_111 : decode b_PR_build 111 = .ok (.putfield 74, 3) := by decide +kernel
theorem d_PR_build_114 : decode b_PR_build 114 = .ok (.aload_n 0, 1) := by decide +kernel
theorem d_PR_build_115 : decode b_PR_build 115 = .ok (.iconst 0, 1) := by decide +kernel
theorem d_PR_build_116 : decode b_PR_build 116 = .ok (.putfield 77, 3) := by decide +kernel
theorem d_PR_build_119 : decode b_PR_build 119 = .ok (.aload_n 0, 1) := by decide +kernel
theorem d_PR_build_120 : decode b_PR_build 120 = .ok (.iconst 0, 1) := by decide +kernel
theorem d_PR_build_121 : decode b_PR_build 121 = .ok (.putfield 80, 3) := by decide +kernel
theorem d_PR_build_124 : decode b_PR_build 124 = .ok (.aload_n 0, 1) := by decide +kernel
theorem d_PR_build_125 : decode b_PR_build 125 = .ok (.bipush 9, 2) := by decide +kernel
theorem d_PR_build_127 : decode b_PR_build 127 = .ok (.iconst 0, 1) := by decide +kernel
theorem d_PR_build_128 : decode b_PR_build 128 = .ok (.iconst 0, 1) := by decide +kernel
theorem d_PR_build_129 : decode b_PR_build 129 = .ok (.invokevirtual 84, 3) := by decide +kernel
theorem d_PR_build_132 : decode b_PR_build 132 = .ok (.pop, 1) := by decide +kernel
theorem d_PR_build_133 : decode b_PR_build 133 = .ok (.aload_n 0, 1) := by decide +kernel
theorem d_PR_build_134 : decode b_PR_build 134 = .ok (.bipush 8, 2) := by decide +kernel
theorem d_PR_build_136 : decode b_PR_build 136 = .ok (.iconst 0, 1) := by decide +kernel
theorem d_PR_build_137 : decode b_PR_build 137 = .ok (.iconst 0, 1) := by decide +kernel
theorem d_PR_build_138 : decode b_PR_build 138 = .ok (.invokevirtual 84, 3) := by decide +kernel
theorem d_PR_build_141 : decode b_PR_build 141 = .ok (.istore 5, 2) := by decide +kernel
theorem d_PR_build_143 : decode b_PR_build 143 = .ok (.aload_n 0, 1) := by decide +kernel
theorem d_PR_build_144 : decode b_PR_build 144 = .ok (.aload_n 0, 1) := by decide +kernel
theorem d_PR_build_145 : decode b_PR_build 145 = .ok (.aload_n 1, 1) := by decide +kernel
theorem d_PR_build_146 : decode b_PR_build 146 = .ok (.iload 5, 2) := by decide +kernel
theorem d_PR_build_148 : decode b_PR_build 148 = .ok (.iload 5, 2) := by decide +kernel
theorem d_PR_build_150 : decode b_PR_build 150 = .ok (.invokestatic 88, 3) := by decide +kernel
theorem d_PR_build_153 : decode b_PR_build 153 = .ok (.iconst 0, 1) := by decide +kernel
theorem d_PR_build_154 : decode b_PR_build 154 = .ok (.invokevirtual 92, 3) := by decide +kernel
theorem d_PR_build_157 : decode b_PR_build 157 = .ok (.invokestatic 96, 3) := by decide +kernel
theorem d_PR_build_160 : decode b_PR_build 160 = .ok (.putfield 100, 3) := by decide +kernel
theorem d_PR_build_163 : decode b_PR_build 163 = .ok (.return_, 1) := by decide +kernel
theorem d_PR_fork_0 : decode b_PR_fork 0 = .ok (.aload_n 0, 1) := by decide +kernel
theorem d_PR_fork_1 : decode b_PR_fork 1 = .ok (.bipush 6, 2) := by decide +kernel
theorem d_PR_fork_3 : decode b_PR_fork 3 = .ok (.lload_n 1, 1) := by decide +kernel
theorem d_PR_fork_4 : decode b_PR_fork 4 = .ok (.invokestatic 96, 3) := by decide +kernel
theorem d_PR_fork_7 : decode b_PR_fork 7 = .ok (.lload_n 3, 1) := by decide +kernel
theorem d_PR_fork_8 : decode b_PR_fork 8 = .ok (.invokestatic 96, 3) := by decide +kernel
theorem d_PR_fork_11 : decode b_PR_fork 11 = .ok (.invokevirtual 84, 3) := by decide +kernel
theorem d_PR_fork_14 : decode b_PR_fork 14 = .ok (.istore 5, 2) := by decide +kernel
theorem d_PR_fork_16 : decode b_PR_fork 16 = .ok (.lload_n 1, 1) := by decide +kernel
theorem d_PR_fork_17 : decode b_PR_fork 17 = .ok (.invokestatic 96, 3) := by decide +kernel
theorem d_PR_fork_20 : decode b_PR_fork 20 = .ok (.lload_n 1, 1) := by decide +kernel
theorem d_PR_fork_21 : decode b_PR_fork 21 = .ok (.invokestatic 124, 3) := by decide +kernel
theorem d_PR_fork_24 : decode b_PR_fork 24 = .ok (.if_icmp .ne 18, 3) := by decide +kernel
theorem d_PR_fork_27 : decode b_PR_fork 27 = .ok (.lload_n 3, 1) := by decide +kernel
theorem d_PR_fork_28 : decode b_PR_fork 28 = .ok (.invokestatic 96, 3) := by decide +kernel
theorem d_PR_fork_31 : decode b_PR_fork 31 = .ok (.lload_n 3, 1) := by decide +kernel
theorem d_PR_fork_32 : decode b_PR_fork 32 = .ok (.invokestatic 124, 3) := by decide +kernel
theorem d_PR_fork_35 : decode b_PR_fork 35 = .ok (.if_icmp .ne 7, 3) := by decide +kernel
theorem d_PR_fork_38 : decode b_PR_fork 38 = .ok (.iconst 1, 1) := by decide +kernel
theorem d_PR_fork_39 : decode b_PR_fork 39 = .ok (.goto 4, 3) := by decide +kernel
theorem d_PR_fork_42 : decode b_PR_fork 42 = .ok (.iconst 0, 1) := by decide +kernel
theorem d_PR_fork_43 : decode b_PR_fork 43 = .ok (.istore 6, 2) := by decide +kernel
theorem d_PR_fork_45 : decode b_PR_fork 45 = .ok (.iload 5, 2) := by decide +kernel
theorem d_PR_fork_47 : decode b_PR_fork 47 = .ok (.iload 6, 2) := by decide +kernel
theorem d_PR_fork_49 : decode b_PR_fork 49 = .ok (.ifCond .eq 8, 3) := by decide +kernel
theorem d_PR_fork_52 : decode b_PR_fork 52 = .ok (.iload 5, 2) := by decide +kernel
theorem d_PR_fork_54 : decode b_PR_fork 54 = .ok (.goto 17, 3) := by decide +kernel
theorem d_PR_fork_57 : decode b_PR_fork 57 = .ok (.aload_n 0, 1) := by decide +kernel
theorem d_PR_fork_58 : decode b_PR_fork 58 = .ok (.bipush 6, 2) := by decide +kernel
theorem d_PR_fork_60 : decode b_PR_fork 60 = .ok (.lload_n 1, 1) := by decide +kernel
theorem d_PR_fork_61 : decode b_PR_fork 61 = .ok (.invokestatic 124, 3) := by decide +kernel
theorem d_PR_fork_64 : decode b_PR_fork 64 = .ok (.lload_n 3, 1) := by decide +kernel
theorem d_PR_fork_65 : decode b_PR_fork 65 = .ok (.invokestatic 124, 3) := by decide +kernel
theorem d_PR_fork_68 : decode b_PR_fork 68 = .ok (.invokevirtual 84, 3) := by decide +kernel
theorem d_PR_fork_71 : decode b_PR_fork 71 = .ok (.invokestatic 88, 3) := by decide +kernel
theorem d_PR_fork_74 : decode b_PR_fork 74 = .ok (.lreturn, 1) := by decide +kernel
theorem d_PR_loop_0 : decode b_PR_loop 0 = .ok (.aload_n 0, 1) := by decide +kernel
theorem d_PR_loop_1 : decode b_PR_loop 1 = .ok (.bipush 6, 2) := by decide +kernel
theorem d_PR_loop_3 : decode b_PR_loop 3 = .ok (.iconst 0, 1) := by decide +kernel
theorem d_PR_loop_4 : decode b_PR_loop 4 = .ok (.iconst 0, 1) := by decide +kernel
theorem d_PR_loop_5 : decode b_PR_loop 5 = .ok (.invokevirtual 84, 3) := by decide +kernel
theorem d_PR_loop_8 : decode b_PR_loop 8 = .ok (.istore 5, 2) := by decide +kernel
theorem d_PR_loop_10 : decode b_PR_loop 10 = .ok (.aload_n 0, 1) := by decide +kernel
theorem d_PR_loop_11 : decode b_PR_loop 11 = .ok (.aload_n 1, 1) := by decide +kernel
theorem d_PR_loop_12 : decode b_PR_loop 12 = .ok (.aload_n 1, 1) := by decide +kernel
theorem d_PR_loop_13 : decode b_PR_loop 13 = .ok (.getfield 159, 3) := by decide +kernel
theorem d_PR_loop_16 : decode b_PR_loop 16 = .ok (.ifCond .eq 7, 3) := by decide +kernel
theorem d_PR_loop_19 : decode b_PR_loop 19 = .ok (.iconst 0, 1) := by decide +kernel
theorem d_PR_loop_20 : decode b_PR_loop 20 = .ok (.goto 5, 3) := by decide +kernel
theorem d_PR_loop_23 : decode b_PR_loop 23 = .ok (.iload 5, 2) := by decide +kernel
theorem d_PR_loop_25 : decode b_PR_loop 25 = .ok (.iload 5, 2) := by decide +kernel
theorem d_PR_loop_27 : decode b_PR_loop 27 = .ok (.invokestatic 88, 3) := by decide +kernel
theorem d_PR_loop_30 : decode b_PR_loop 30 = .ok (.iload 4, 2) := by decide +kernel
theorem d_PR_loop_32 : decode b_PR_loop 32 = .ok (.invokevirtual 153, 3) := by decide +kernel
theorem d_PR_loop_35 : decode b_PR_loop 35 = .ok (.invokestatic 96, 3) := by decide +kernel
theorem d_PR_loop_38 : decode b_PR_loop 38 = .ok (.istore 6, 2) := by decide +kernel
theorem d_PR_loop_40 : decode b_PR_loop 40 = .ok (.aload_n 0, 1) := by decide +kernel
theorem d_PR_loop_41 : decode b_PR_loop 41 = .ok (.getfield 15, 3) := by decide +kernel
theorem d_PR_loop_44 : decode b_PR_loop 44 = .ok (.iload 5, 2) := by decide +kernel
theorem d_PR_loop_46 : decode b_PR_loop 46 = .ok (.aload_n 1, 1) := by decide +kernel
theorem d_PR_loop_47 : decode b_PR_loop 47 = .ok (.getfield 156, 3) := by decide +kernel
theorem d_PR_loop_50 : decode b_PR_loop 50 = .ok (.ifCond .eq 10, 3) := by decide +kernel
theorem d_PR_loop_53 : decode b_PR_loop 53 = .ok (.lload_n 2, 1) := by decide +kernel
theorem d_PR_loop_54 : decode b_PR_loop 54 = .ok (.invokestatic 124, 3) := by decide +kernel
theorem d_PR_loop_57 : decode b_PR_loop 57 = .ok (.goto 5, 3) := by decide +kernel
theorem d_PR_loop_60 : decode b_PR_loop 60 = .ok (.iload 6, 2) := by decide +kernel
theorem d_PR_loop_62 : decode b_PR_loop 62 = .ok (.iastore, 1) := by decide +kernel
theorem d_PR_loop_63 : decode b_PR_loop 63 = .ok (.aload_n 0, 1) := by decide +kernel
theorem d_PR_loop_64 : decode b_PR_loop 64 = .ok (.getfield 18, 3) := by decide +kernel
theorem d_PR_loop_67 : decode b_PR_loop 67 = .ok (.iload 5, 2) := by decide +kernel
theorem d_PR_loop_69 : decode b_PR_loop 69 = .ok (.aload_n 1, 1) := by decide +kernel
theorem d_PR_loop_70 : decode b_PR_loop 70 = .ok (.getfield 156, 3) := by decide +kernel
theorem d_PR_loop_73 : decode b_PR_loop 73 = .ok (.ifCond .eq 8, 3) := by decide +kernel
theorem d_PR_loop_76 : decode b_PR_loop 76 = .ok (.iload 6, 2) := by decide +kernel
theorem d_PR_loop_78 : decode b_PR_loop 78 = .ok (.goto 7, 3) := by decide +kernel
theorem d_PR_loop_81 : decode b_PR_loop 81 = .ok (.lload_n 2, 1) := by decide +kernel
theorem d_PR_loop_82 : decode b_PR_loop 82 = .ok (.invokestatic 124, 3) := by decide +kernel
theorem d_PR_loop_85 : decode b_PR_loop 85 = .ok (.iastore, 1) := by decide +kernel
theorem d_PR_loop_86 : decode b_PR_loop 86 = .ok (.lload_n 2, 1) := by decide +kernel
theorem d_PR_loop_87 : decode b_PR_loop 87 = .ok (.invokestatic 96, 3) := by decide +kernel
theorem d_PR_loop_90 : decode b_PR_loop 90 = .ok (.lload_n 2, 1) := by decide +kernel
theorem d_PR_loop_91 : decode b_PR_loop 91 = .ok (.invokestatic 124, 3) := by decide +kernel
theorem d_PR_loop_94 : decode b_PR_loop 94 = .ok (.if_icmp .ne 11, 3) := by decide +kernel
theorem d_PR_loop_97 : decode b_PR_loop 97 = .ok (.iload 5, 2) := by decide +kernel
theorem d_PR_loop_99 : decode b_PR_loop 99 = .ok (.iload 5, 2) := by decide +kernel
theorem d_PR_loop_101 : decode b_PR_loop 101 = .ok (.invokestatic 88, 3) := by decide +kernel
theorem d_PR_loop_104 : decode b_PR_loop 104 = .ok (.lreturn, 1) := by decide +kernel
theorem d_PR_loop_105 : decode b_PR_loop 105 = .ok (.aload_n 1, 1) := by decide +kernel
theorem d_PR_loop_106 : decode b_PR_loop 106 = .ok (.getfield 156, 3) := by decide +kernel
theorem d_PR_loop_109 : decode b_PR_loop 109 = .ok (.ifCond .eq 18, 3) := by decide +kernel
theorem d_PR_loop_112 : decode b_PR_loop 112 = .ok (.aload_n 0, 1) := by decide +kernel
theorem d_PR_loop_113 : decode b_PR_loop 113 = .ok (.bipush 6, 2) := by decide +kernel
theorem d_PR_loop_115 : decode b_PR_loop 115 = .ok (.lload_n 2, 1) := by decide +kernel
theorem d_PR_loop_116 : decode b_PR_loop 116 = .ok (.invokestatic 96, 3) := by decide +kernel
theorem d_PR_loop_119 : decode b_PR_loop 119 = .ok (.iload 6, 2) := by decide +kernel
theorem d_PR_loop_121 : decode b_PR_loop 121 = .ok (.invokevirtual 84, 3) := by decide +kernel
theorem d_PR_loop_124 : decode b_PR_loop 124 = .ok (.goto 15, 3) := by decide +kernel
theorem d_PR_loop_127 : decode b_PR_loop 127 = .ok (.aload_n 0, 1) := by decide +kernel
theorem d_PR_loop_128 : decode b_PR_loop 128 = .ok (.bipush 6, 2) := by decide +kernel
theorem d_PR_loop_130 : decode b_PR_loop 130 = .ok (.iload 6, 2) := by decide +kernel
theorem d_PR_loop_132 : decode b_PR_loop 132 = .ok (.lload_n 2, 1) := by decide +kernel
theorem d_PR_loop_133 : decode b_PR_loop 133 = .ok (.invokestatic 96, 3) := by decide +kernel
theorem d_PR_loop_136 : decode b_PR_loop 136 = .ok (.invokevirtual 84, 3) := by decide +kernel
theorem d_PR_loop_139 : decode b_PR_loop 139 = .ok (.istore 7, 2) := by decide +kernel
theorem d_PR_loop_141 : decode b_PR_loop 141 = .ok (.iload 7, 2) := by decide +kernel
theorem d_PR_loop_143 : decode b_PR_loop 143 = .ok (.iload 5, 2) := by decide +kernel
theorem d_PR_loop_145 : decode b_PR_loop 145 = .ok (.invokestatic 88, 3) := by decide +kernel
theorem d_PR_loop_148 : decode b_PR_loop 148 = .ok (.lreturn, 1) := by decide +kernel
theorem d_PR_once_0 : decode b_PR_once 0 = .ok (.aload_n 1, 1) := by decide +kernel
theorem d_PR_once_1 : decode b_PR_once 1 = .ok (.getfield 162, 3) := by decide +kernel
theorem d_PR_once_4 : decode b_PR_once 4 = .ok (.iconst 4, 1) := by decide +kernel
theorem d_PR_once_5 : decode b_PR_once 5 = .ok (.if_icmp .ne 21, 3) := by decide +kernel
theorem d_PR_once_8 : decode b_PR_once 8 = .ok (.aload_n 1, 1) := by decide +kernel
theorem d_PR_once_9 : decode b_PR_once 9 = .ok (.getfield 165, 3) := by decide +kernel
theorem d_PR_once_12 : decode b_PR_once 12 = .ok (.ifCond .ne 14, 3) := by decide +kernel
theorem d_PR_once_15 : decode b_PR_once 15 = .ok (.aload_n 0, 1) := by decide +kernel
theorem d_PR_once_16 : decode b_PR_once 16 = .ok (.aload_n 1, 1) := by decide +kernel
theorem d_PR_once_17 : decode b_PR_once 17 = .ok (.lload_n 2, 1) := by decide +kernel
theorem d_PR_once_18 : decode b_PR_once 18 = .ok (.iload 4, 2) := by decide +kernel
theorem d_PR_once_20 : decode b_PR_once 20 = .ok (.iconst 1, 1) := by decide +kernel
theorem d_PR_once_21 : decode b_PR_once 21 = .ok (.iadd, 1) := by decide +kernel
theorem d_PR_once_22 : decode b_PR_once 22 = .ok (.invokevirtual 92, 3) := by decide +kernel
theorem d_PR_once_25 : decode b_PR_once 25 = .ok (.lreturn, 1) := by decide +kernel
theorem d_PR_once_26 : decode b_PR_once 26 = .ok (.aload_n 1, 1) := by decide +kernel
theorem d_PR_once_27 : decode b_PR_once 27 = .ok (.getfield 162, 3) := by decide +kernel
theorem d_PR_once_30 : decode b_PR_once 30 = .ok (.iconst 4, 1) := by decide +kernel
theorem d_PR_once_31 : decode b_PR_once 31 = .ok (.if_icmp .ne 44, 3) := by decide +kernel
theorem d_PR_once_34 : decode b_PR_once 34 = .ok (.aload_n 0, 1) := by decide +kernel
theorem d_PR_once_35 : decode b_PR_once 35 = .ok (.aload_n 1, 1) := by decide +kernel
theorem d_PR_once_36 : decode b_PR_once 36 = .ok (.aload_n 0, 1) := by decide +kernel
theorem d_PR_once_37 : decode b_PR_once 37 = .ok (.bipush 7, 2) := by decide +kernel
theorem d_PR_once_39 : decode b_PR_once 39 = .ok (.lload_n 2, 1) := by decide +kernel
theorem d_PR_once_40 : decode b_PR_once 40 = .ok (.iconst 2, 1) := by decide +kernel
theorem d_PR_once_41 : decode b_PR_once 41 = .ok (.aload_n 1, 1) := by decide +kernel
theorem d_PR_once_42 : decode b_PR_once 42 = .ok (.getfield 165, 3) := by decide +kernel
theorem d_PR_once_45 : decode b_PR_once 45 = .ok (.imul, 1) := by decide +kernel
theorem d_PR_once_46 : decode b_PR_once 46 = .ok (.iconst 1, 1) := by decide +kernel
theorem d_PR_once_47 : decode b_PR_once 47 = .ok (.iadd, 1) := by decide +kernel
theorem d_PR_once_48 : decode b_PR_once 48 = .ok (.invokevirtual 168, 3) := by decide +kernel
theorem d_PR_once_51 : decode b_PR_once 51 = .ok (.iload 4, 2) := by decide +kernel
theorem d_PR_once_53 : decode b_PR_once 53 = .ok (.iconst 1, 1) := by decide +kernel
theorem d_PR_once_54 : decode b_PR_once 54 = .ok (.iadd, 1) := by decide +kernel
theorem d_PR_once_55 : decode b_PR_once 55 = .ok (.invokevirtual 92, 3) := by decide +kernel
theorem d_PR_once_58 : decode b_PR_once 58 = .ok (.lstore 5, 2) := by decide +kernel
theorem d_PR_once_60 : decode b_PR_once 60 = .ok (.aload_n 0, 1) := by decide +kernel
theorem d_PR_once_61 : decode b_PR_once 61 = .ok (.bipush 7, 2) := by decide +kernel
theorem d_PR_once_63 : decode b_PR_once 63 = .ok (.lload 5, 2) := by decide +kernel
theorem d_PR_once_65 : decode b_PR_once 65 = .ok (.iconst 2, 1) := by decide +kernel
theorem d_PR_once_66 : decode b_PR_once 66 = .ok (.aload_n 1, 1) := by decide +kernel
theorem d_PR_once_67 : decode b_PR_once 67 = .ok (.getfield 165, 3) := by decide +kernel
theorem d_PR_once_70 : decode b_PR_once 70 = .ok (.imul, 1) := by decide +kernel
theorem d_PR_once_71 : decode b_PR_once 71 = .ok (.invokevirtual 168, 3) := by decide +kernel
theorem d_PR_once_74 : decode b_PR_once 74 = .ok (.lreturn, 1) := by decide +kernel
theorem d_PR_once_75 : decode b_PR_once 75 = .ok (.aload_n 1, 1) := by decide +kernel
theorem d_PR_once_76 : decode b_PR_once 76 = .ok (.getfield 162, 3) := by decide +kernel
theorem d_PR_once_79 : decode b_PR_once 79 = .ok (.iconst 3, 1) := by decide +kernel
theorem d_PR_once_80 : decode b_PR_once 80 = .ok (.if_icmp .ne 14, 3) := by decide +kernel
theorem d_PR_once_83 : decode b_PR_once 83 = .ok (.aload_n 0, 1) := by decide +kernel
theorem d_PR_once_84 : decode b_PR_once 84 = .ok (.iconst 3, 1) := by decide +kernel
theorem d_PR_once_85 : decode b_PR_once 85 = .ok (.lload_n 2, 1) := by decide +kernel
theorem d_PR_once_86 : decode b_PR_once 86 = .ok (.aload_n 1, 1) := by decide +kernel
theorem d_PR_once_87 : decode b_PR_once 87 = .ok (.getfield 165, 3) := by decide +kernel
theorem d_PR_once_90 : decode b_PR_once 90 = .ok (.invokevirtual 168, 3) := by decide +kernel
theorem d_PR_once_93 : decode b_PR_once 93 = .ok (.lreturn, 1) := by decide +kernel
theorem d_PR_once_94 : decode b_PR_once 94 = .ok (.aload_n 0, 1) := by decide +kernel
theorem d_PR_once_95 : decode b_PR_once 95 = .ok (.aload_n 1, 1) := by decide +kernel
theorem d_PR_once_96 : decode b_PR_once 96 = .ok (.getfield 162, 3) := by decide +kernel
theorem d_PR_once_99 : decode b_PR_once 99 = .ok (.lload_n 2, 1) := by decide +kernel
theorem d_PR_once_100 : decode b_PR_once 100 = .ok (.invokestatic 124, 3) := by decide +kernel
theorem d_PR_once_103 : decode b_PR_once 103 = .ok (.aload_n 1, 1) := by decide +kernel
theorem d_PR_once_104 : decode b_PR_once 104 = .ok (.getfield 162, 3) := by decide +kernel
theorem d_PR_once_107 : decode b_PR_once 107 = .ok (.iconst 1, 1) := by decide +kernel
theorem d_PR_once_108 : decode b_PR_once 108 = .ok (.if_icmp .ne 11, 3) := by decide +kernel
theorem d_PR_once_111 : decode b_PR_once 111 = .ok (.aload_n 0, 1) := by decide +kernel
theorem d_PR_once_112 : decode b_PR_once 112 = .ok (.aload_n 1, 1) := by decide +kernel
theorem d_PR_once_113 : decode b_PR_once 113 = .ok (.invokevirtual 172, 3) := by decide +kernel
theorem d_PR_once_116 : decode b_PR_once 116 = .ok (.goto 7, 3) := by decide +kernel
theorem d_PR_once_119 : decode b_PR_once 119 = .ok (.aload_n 1, 1) := by decide +kernel
theorem d_PR_once_120 : decode b_PR_once 120 = .ok (.getfield 165, 3) := by decide +kernel
theorem d_PR_once_123 : decode b_PR_once 123 = .ok (.invokevirtual 84, 3) := by decide +kernel
theorem d_PR_once_126 : decode b_PR_once 126 = .ok (.istore 5, 2) := by decide +kernel
theorem d_PR_once_128 : decode b_PR_once 128 = .ok (.iload 5, 2) := by decide +kernel
theorem d_PR_once_130 : decode b_PR_once 130 = .ok (.iload 5, 2) := by decide +kernel
theorem d_PR_once_132 : decode b_PR_once 132 = .ok (.invokestatic 88, 3) := by decide +kernel
theorem d_PR_once_135 : decode b_PR_once 135 = .ok (.lreturn, 1) := by decide +kernel
theorem d_PR_recordOf_0 : decode b_PR_recordOf 0 = .ok (.aload_n 1, 1) := by decide +kernel
theorem d_PR_recordOf_1 : decode b_PR_recordOf 1 = .ok (.getfield 176, 3) := by decide +kernel
theorem d_PR_recordOf_4 : decode b_PR_recordOf 4 = .ok (.iconst (-1), 1) := by decide +kernel
theorem d_PR_recordOf_5 : decode b_PR_recordOf 5 = .ok (.if_icmp .ne 112, 3) := by decide +kernel
theorem d_PR_recordOf_8 : decode b_PR_recordOf 8 = .ok (.aload_n 1, 1) := by decide +kernel
theorem d_PR_recordOf_9 : decode b_PR_recordOf 9 = .ok (.getfield 179, 3) := by decide +kernel
theorem d_PR_recordOf_12 : decode b_PR_recordOf 12 = .ok (.ifnull 105, 3) := by decide +kernel
theorem d_PR_recordOf_15 : decode b_PR_recordOf 15 = .ok (.aload_n 1, 1) := by decide +kernel
theorem d_PR_recordOf_16 : decode b_PR_recordOf 16 = .ok (.getfield 179, 3) := by decide +kernel
theorem d_PR_recordOf_19 : decode b_PR_recordOf 19 = .ok (.arraylength, 1) := by decide +kernel
theorem d_PR_recordOf_20 : decode b_PR_recordOf 20 = .ok (.istore_n 2, 1) := by decide +kernel
theorem d_PR_recordOf_21 : decode b_PR_recordOf 21 = .ok (.aload_n 0, 1) := by decide +kernel
theorem d_PR_recordOf_22 : decode b_PR_recordOf 22 = .ok (.getfield 77, 3) := by decide +kernel
theorem d_PR_recordOf_25 : decode b_PR_recordOf 25 = .ok (.iload_n 2, 1) := by decide +kernel
theorem d_PR_recordOf_26 : decode b_PR_recordOf 26 = .ok (.iadd, 1) := by decide +kernel
theorem d_PR_recordOf_27 : decode b_PR_recordOf 27 = .ok (.iconst 1, 1) := by decide +kernel
theorem d_PR_recordOf_28 : decode b_PR_recordOf 28 = .ok (.iadd, 1) := by decide +kernel
theorem d_PR_recordOf_29 : decode b_PR_recordOf 29 = .ok (.aload_n 0, 1) := by decide +kernel
theorem d_PR_recordOf_30 : decode b_PR_recordOf 30 = .ok (.getfield 21, 3) := by decide +kernel
theorem d_PR_recordOf_33 : decode b_PR_recordOf 33 = .ok (.arraylength, 1) := by decide +kernel
theorem d_PR_recordOf_34 : decode b_PR_recordOf 34 = .ok (.if_icmp .le 32, 3) := by decide +kernel
theorem d_PR_recordOf_37 : decode b_PR_recordOf 37 = .ok (.aload_n 0, 1) := by decide +kernel
theorem d_PR_recordOf_38 : decode b_PR_recordOf 38 = .ok (.aload_n 0, 1) := by decide +kernel
theorem d_PR_recordOf_39 : decode b_PR_recordOf 39 = .ok (.getfield 21, 3) := by decide +kernel
theorem d_PR_recordOf_42 : decode b_PR_recordOf 42 = .ok (.aload_n 0, 1) := by decide +kernel
theorem d_PR_recordOf_43 : decode b_PR_recordOf 43 = .ok (.getfield 77, 3) := by decide +kernel
theorem d_PR_recordOf_46 : decode b_PR_recordOf 46 = .ok (.iload_n 2, 1) := by decide +kernel
theorem d_PR_recordOf_47 : decode b_PR_recordOf 47 = .ok (.iadd, 1) := by decide +kernel
theorem d_PR_recordOf_48 : decode b_PR_recordOf 48 = .ok (.iconst 1, 1) := by decide +kernel
theorem d_PR_recordOf_49 : decode b_PR_recordOf 49 = .ok (.iadd, 1) := by decide +kernel
theorem d_PR_recordOf_50 : decode b_PR_recordOf 50 = .ok (.iconst 2, 1) := by decide +kernel
theorem d_PR_recordOf_51 : decode b_PR_recordOf 51 = .ok (.aload_n 0, 1) := by decide +kernel
theorem d_PR_recordOf_52 : decode b_PR_recordOf 52 = .ok (.getfield 21, 3) := by decide +kernel
theorem d_PR_recordOf_55 : decode b_PR_recordOf 55 = .ok (.arraylength, 1) := by decide +kernel
theorem d_PR_recordOf_56 : decode b_PR_recordOf 56 = .ok (.imul, 1) := by decide +kernel
theorem d_PR_recordOf_57 : decode b_PR_recordOf 57 = .ok (.invokestatic 180, 3) := by decide +kernel
theorem d_PR_recordOf_60 : decode b_PR_recordOf 60 = .ok (.invokestatic 186, 3) := by decide +kernel
theorem d_PR_recordOf_63 : decode b_PR_recordOf 63 = .ok (.putfield 21, 3) := by decide +kernel
theorem d_PR_recordOf_66 : decode b_PR_recordOf 66 = .ok (.aload_n 0, 1) := by decide +kernel
theorem d_PR_recordOf_67 : decode b_PR_recordOf 67 = .ok (.getfield 21, 3) := by decide +kernel
theorem d_PR_recordOf_70 : decode b_PR_recordOf 70 = .ok (.aload_n 0, 1) := by decide +kernel
theorem d_PR_recordOf_71 : decode b_PR_recordOf 71 = .ok (.getfield 77, 3) := by decide +kernel
theorem d_PR_recordOf_74 : decode b_PR_recordOf 74 = .ok (.iload_n 2, 1) := by decide +kernel
theorem d_PR_recordOf_75 : decode b_PR_recordOf 75 = .ok (.iconst 2, 1) := by decide +kernel
theorem d_PR_recordOf_76 : decode b_PR_recordOf 76 = .ok (.idiv, 1) := by decide +kernel
theorem d_PR_recordOf_77 : decode b_PR_recordOf 77 = .ok (.iastore, 1) := by decide +kernel
theorem d_PR_recordOf_78 : decode b_PR_recordOf 78 = .ok (.aload_n 1, 1) := by decide +kernel
theorem d_PR_recordOf_79 : decode b_PR_recordOf 79 = .ok (.getfield 179, 3) := by decide +kernel
theorem d_PR_recordOf_82 : decode b_PR_recordOf 82 = .ok (.iconst 0, 1) := by decide +kernel
theorem d_PR_recordOf_83 : decode b_PR_recordOf 83 = .ok (.aload_n 0, 1) := by decide +kernel
theorem d_PR_recordOf_84 : decode b_PR_recordOf 84 = .ok (.getfield 21, 3) := by decide +kernel
theorem d_PR_recordOf_87 : decode b_PR_recordOf 87 = .ok (.aload_n 0, 1) := by decide +kernel
theorem d_PR_recordOf_88 : decode b_PR_recordOf 88 = .ok (.getfield 77, 3) := by decide +kernel
theorem d_PR_recordOf_91 : decode b_PR_recordOf 91 = .ok (.iconst 1, 1) := by decide +kernel
theorem d_PR_recordOf_92 : decode b_PR_recordOf 92 = .ok (.iadd, 1) := by decide +kernel
theorem d_PR_recordOf_93 : decode b_PR_recordOf 93 = .ok (.iload_n 2, 1) := by decide +kernel
theorem d_PR_recordOf_94 : decode b_PR_recordOf 94 = .ok (.invokestatic 68, 3) := by decide +kernel
theorem d_PR_recordOf_97 : decode b_PR_recordOf 97 = .ok (.aload_n 1, 1) := by decide +kernel
theorem d_PR_recordOf_98 : decode b_PR_recordOf 98 = .ok (.aload_n 0, 1) := by decide +kernel
theorem d_PR_recordOf_99 : decode b_PR_recordOf 99 = .ok (.getfield 77, 3) := by decide +kernel
theorem d_PR_recordOf_102 : decode b_PR_recordOf 102 = .ok (.putfield 176, 3) := by decide +kernel
theorem d_PR_recordOf_105 : decode b_PR_recordOf 105 = .ok (.aload_n 0, 1) := by decide +kernel
theorem d_PR_recordOf_106 : decode b_PR_recordOf 106 = .ok (.dup, 1) := by decide +kernel
theorem d_PR_recordOf_107 : decode b_PR_recordOf 107 = .ok (.getfield 77, 3) := by decide +kernel
theorem d_PR_recordOf_110 : decode b_PR_recordOf 110 = .ok (.iload_n 2, 1) := by decide +kernel
theorem d_PR_recordOf_111 : decode b_PR_recordOf 111 = .ok (.iconst 1, 1) := by decide +kernel
theorem d_PR_recordOf_112 : decode b_PR_recordOf 112 = .ok (.iadd, 1) := by decide +kernel
theorem d_PR_recordOf_113 : decode b_PR_recordOf 113 = .ok (.iadd, 1) := by decide +kernel
theorem d_PR_recordOf_114 : decode b_PR_recordOf 114 = .ok (.putfield 77, 3) := by decide +kernel
theorem d_PR_recordOf_117 : decode b_PR_recordOf 117 = .ok (.aload_n 1, 1) := by decide +kernel
theorem d_PR_recordOf_118 : decode b_PR_recordOf 118 = .ok (.getfield 176, 3) := by decide +kernel
theorem d_PR_recordOf_121 : decode b_PR_recordOf 121 = .ok (.iconst 0, 1) := by decide +kernel
theorem d_PR_recordOf_122 : decode b_PR_recordOf 122 = .ok (.invokestatic 180, 3) := by decide +kernel
theorem d_PR_recordOf_125 : decode b_PR_recordOf 125 = .ok (.ireturn, 1) := by decide +kernel
theorem d_PR_repeated_0 : decode b_PR_repeated 0 = .ok (.aload_n 1, 1) := by decide +kernel
theorem d_PR_repeated_1 : decode b_PR_repeated 1 = .ok (.getfield 46, 3) := by decide +kernel
theorem d_PR_repeated_4 : decode b_PR_repeated 4 = .ok (.ifCond .ne 5, 3) := by decide +kernel
theorem d_PR_repeated_7 : decode b_PR_repeated 7 = .ok (.lload_n 2, 1) := by decide +kernel
theorem d_PR_repeated_8 : decode b_PR_repeated 8 = .ok (.lreturn, 1) := by decide +kernel
theorem d_PR_repeated_9 : decode b_PR_repeated 9 = .ok (.lload_n 2, 1) := by decide +kernel
theorem d_PR_repeated_10 : decode b_PR_repeated 10 = .ok (.lstore 5, 2) := by decide +kernel
theorem d_PR_repeated_12 : decode b_PR_repeated 12 = .ok (.aload_n 1, 1) := by decide +kernel
theorem d_PR_repeated_13 : decode b_PR_repeated 13 = .ok (.getfield 144, 3) := by decide +kernel
theorem d_PR_repeated_16 : decode b_PR_repeated 16 = .ok (.sipush 1000, 3) := by decide +kernel
theorem d_PR_repeated_19 : decode b_PR_repeated 19 = .ok (.if_icmp .ne 16, 3) := by decide +kernel
theorem d_PR_repeated_22 : decode b_PR_repeated 22 = .ok (.aload_n 0, 1) := by decide +kernel
theorem d_PR_repeated_23 : decode b_PR_repeated 23 = .ok (.aload_n 1, 1) := by decide +kernel
theorem d_PR_repeated_24 : decode b_PR_repeated 24 = .ok (.lload_n 2, 1) := by decide +kernel
theorem d_PR_repeated_25 : decode b_PR_repeated 25 = .ok (.iload 4, 2) := by decide +kernel
theorem d_PR_repeated_27 : decode b_PR_repeated 27 = .ok (.invokevirtual 147, 3) := by decide +kernel
theorem d_PR_repeated_30 : decode b_PR_repeated 30 = .ok (.lstore 5, 2) := by decide +kernel
theorem d_PR_repeated_32 : decode b_PR_repeated 32 = .ok (.goto 61, 3) := by decide +kernel
theorem d_PR_repeated_35 : decode b_PR_repeated 35 = .ok (.aload_n 1, 1) := by decide +kernel
theorem d_PR_repeated_36 : decode b_PR_repeated 36 = .ok (.getfield 150, 3) := by decide +kernel
theorem d_PR_repeated_39 : decode b_PR_repeated 39 = .ok (.istore 7, 2) := by decide +kernel
theorem d_PR_repeated_41 : decode b_PR_repeated 41 = .ok (.iload 7, 2) := by decide +kernel
theorem d_PR_repeated_43 : decode b_PR_repeated 43 = .ok (.aload_n 1, 1) := by decide +kernel
theorem d_PR_repeated_44 : decode b_PR_repeated 44 = .ok (.getfield 144, 3) := by decide +kernel
theorem d_PR_repeated_47 : decode b_PR_repeated 47 = .ok (.if_icmp .ge 46, 3) := by decide +kernel
theorem d_PR_repeated_50 : decode b_PR_repeated 50 = .ok (.aload_n 0, 1) := by decide +kernel
theorem d_PR_repeated_51 : decode b_PR_repeated 51 = .ok (.aload_n 1, 1) := by decide +kernel
theorem d_PR_repeated_52 : decode b_PR_repeated 52 = .ok (.lload 5, 2) := by decide +kernel
theorem d_PR_repeated_54 : decode b_PR_repeated 54 = .ok (.iload 4, 2) := by decide +kernel
theorem d_PR_repeated_56 : decode b_PR_repeated 56 = .ok (.invokevirtual 153, 3) := by decide +kernel
theorem d_PR_repeated_59 : decode b_PR_repeated 59 = .ok (.lstore 8, 2) := by decide +kernel
theorem d_PR_repeated_61 : decode b_PR_repeated 61 = .ok (.aload_n 1, 1) := by decide +kernel
theorem d_PR_repeated_62 : decode b_PR_repeated 62 = .ok (.getfield 156, 3) := by decide +kernel
theorem d_PR_repeated_65 : decode b_PR_repeated 65 = .ok (.ifCond .eq 13, 3) := by decide +kernel
theorem d_PR_repeated_68 : decode b_PR_repeated 68 = .ok (.aload_n 0, 1) := by decide +kernel
theorem d_PR_repeated_69 : decode b_PR_repeated 69 = .ok (.lload_n 2, 1) := by decide +kernel
theorem d_PR_repeated_70 : decode b_PR_repeated 70 = .ok (.lload 8, 2) := by decide +kernel
theorem d_PR_repeated_72 : decode b_PR_repeated 72 = .ok (.invokevirtual 137, 3) := by decide +kernel
theorem d_PR_repeated_75 : decode b_PR_repeated 75 = .ok (.goto 10, 3) := by decide +kernel
theorem d_PR_repeated_78 : decode b_PR_repeated 78 = .ok (.aload_n 0, 1) := by decide +kernel
theorem d_PR_repeated_79 : decode b_PR_repeated 79 = .ok (.lload 8, 2) := by decide +kernel
theorem d_PR_repeated_81 : decode b_PR_repeated 81 = .ok (.lload_n 2, 1) := by decide +kernel
theorem d_PR_repeated_82 : decode b_PR_repeated 82 = .ok (.invokevirtual 137, 3) := by decide +kernel
theorem d_PR_repeated_85 : decode b_PR_repeated 85 = .ok (.lstore 5, 2) := by decide +kernel
theorem d_PR_repeated_87 : decode b_PR_repeated 87 = .ok (.iinc 7 1, 3) := by decide +kernel
theorem d_PR_repeated_90 : decode b_PR_repeated 90 = .ok (.goto (-49), 3) := by decide +kernel
theorem d_PR_repeated_93 : decode b_PR_repeated 93 = .ok (.iconst 0, 1) := by decide +kernel
theorem d_PR_repeated_94 : decode b_PR_repeated 94 = .ok (.istore 7, 2) := by decide +kernel
theorem d_PR_repeated_96 : decode b_PR_repeated 96 = .ok (.iload 7, 2) := by decide +kernel
theorem d_PR_repeated_98 : decode b_PR_repeated 98 = .ok (.aload_n 1, 1) := by decide +kernel
theorem d_PR_repeated_99 : decode b_PR_repeated 99 = .ok (.getfield 150, 3) := by decide +kernel
theorem d_PR_repeated_102 : decode b_PR_repeated 102 = .ok (.if_icmp .ge 20, 3) := by decide +kernel
theorem d_PR_repeated_105 : decode b_PR_repeated 105 = .ok (.aload_n 0, 1) := by decide +kernel
theorem d_PR_repeated_106 : decode b_PR_repeated 106 = .ok (.aload_n 1, 1) := by decide +kernel
theorem d_PR_repeated_107 : decode b_PR_repeated 107 = .ok (.lload 5, 2) := by decide +kernel
theorem d_PR_repeated_109 : decode b_PR_repeated 109 = .ok (.iload 4, 2) := by decide +kernel
theorem d_PR_repeated_111 : decode b_PR_repeated 111 = .ok (.invokevirtual 153, 3) := by decide +kernel
theorem d_PR_repeated_114 : decode b_PR_repeated 114 = .ok (.lstore 5, 2) := by decide +kernel
theorem d_PR_repeated_116 : decode b_PR_repeated 116 = .ok (.iinc 7 1, 3) := by decide +kernel
theorem d_PR_repeated_119 : decode b_PR_repeated 119 = .ok (.goto (-23), 3) := by decide +kernel
theorem d_PR_repeated_122 : decode b_PR_repeated 122 = .ok (.lload 5, 2) := by decide +kernel
theorem d_PR_repeated_124 : decode b_PR_repeated 124 = .ok (.lreturn, 1) := by decide +kernel
theorem d_PR_row_0 : decode b_PR_row 0 = .ok (.lload_n 2, 1) := by decide +kernel
theorem d_PR_row_1 : decode b_PR_row 1 = .ok (.lstore 5, 2) := by decide +kernel
theorem d_PR_row_3 : decode b_PR_row 3 = .ok (.aload_n 1, 1) := by decide +kernel
theorem d_PR_row_4 : decode b_PR_row 4 = .ok (.getfield 127, 3) := by decide +kernel
theorem d_PR_row_7 : decode b_PR_row 7 = .ok (.astore 7, 2) := by decide +kernel
theorem d_PR_row_9 : decode b_PR_row 9 = .ok (.aload 7, 2) := by decide +kernel
theorem d_PR_row_11 : decode b_PR_row 11 = .ok (.ifnull 25, 3) := by decide +kernel
theorem d_PR_row_14 : decode b_PR_row 14 = .ok (.aload_n 0, 1) := by decide +kernel
theorem d_PR_row_15 : decode b_PR_row 15 = .ok (.aload 7, 2) := by decide +kernel
theorem d_PR_row_17 : decode b_PR_row 17 = .ok (.lload 5, 2) := by decide +kernel
theorem d_PR_row_19 : decode b_PR_row 19 = .ok (.iload 4, 2) := by decide +kernel
theorem d_PR_row_21 : decode b_PR_row 21 = .ok (.invokevirtual 141, 3) := by decide +kernel
theorem d_PR_row_24 : decode b_PR_row 24 = .ok (.lstore 5, 2) := by decide +kernel
theorem d_PR_row_26 : decode b_PR_row 26 = .ok (.aload 7, 2) := by decide +kernel
theorem d_PR_row_28 : decode b_PR_row 28 = .ok (.getfield 134, 3) := by decide +kernel
theorem d_PR_row_31 : decode b_PR_row 31 = .ok (.astore 7, 2) := by decide +kernel
theorem d_PR_row_33 : decode b_PR_row 33 = .ok (.goto (-24), 3) := by decide +kernel
theorem d_PR_row_36 : decode b_PR_row 36 = .ok (.lload 5, 2) := by decide +kernel
theorem d_PR_row_38 : decode b_PR_row 38 = .ok (.lreturn, 1) := by decide +kernel
theorem d_PR_rows_0 : decode b_PR_rows 0 = .ok (.aload_n 1, 1) := by decide +kernel
theorem d_PR_rows_1 : decode b_PR_rows 1 = .ok (.getfield 127, 3) := by decide +kernel
theorem d_PR_rows_4 : decode b_PR_rows 4 = .ok (.ifnull 10, 3) := by decide +kernel
theorem d_PR_rows_7 : decode b_PR_rows 7 = .ok (.iload 4, 2) := by decide +kernel
theorem d_PR_rows_9 : decode b_PR_rows 9 = .ok (.bipush 30, 2) := by decide +kernel
theorem d_PR_rows_11 : decode b_PR_rows 11 = .ok (.if_icmp .le 5, 3) := by decide +kernel
theorem d_PR_rows_14 : decode b_PR_rows 14 = .ok (.lload_n 2, 1) := by decide +kernel
theorem d_PR_rows_15 : decode b_PR_rows 15 = .ok (.lreturn, 1) := by decide +kernel
theorem d_PR_rows_16 : decode b_PR_rows 16 = .ok (.aload_n 0, 1) := by decide +kernel
theorem d_PR_rows_17 : decode b_PR_rows 17 = .ok (.aload_n 1, 1) := by decide +kernel
theorem d_PR_rows_18 : decode b_PR_rows 18 = .ok (.getfield 127, 3) := by decide +kernel
theorem d_PR_rows_21 : decode b_PR_rows 21 = .ok (.lload_n 2, 1) := by decide +kernel
theorem d_PR_rows_22 : decode b_PR_rows 22 = .ok (.iload 4, 2) := by decide +kernel
theorem d_PR_rows_24 : decode b_PR_rows 24 = .ok (.invokevirtual 131, 3) := by decide +kernel
theorem d_PR_rows_27 : decode b_PR_rows 27 = .ok (.lstore 5, 2) := by decide +kernel
theorem d_PR_rows_29 : decode b_PR_rows 29 = .ok (.aload_n 1, 1) := by decide +kernel
theorem d_PR_rows_30 : decode b_PR_rows 30 = .ok (.getfield 127, 3) := by decide +kernel
theorem d_PR_rows_33 : decode b_PR_rows 33 = .ok (.getfield 134, 3) := by decide +kernel
theorem d_PR_rows_36 : decode b_PR_rows 36 = .ok (.astore 7, 2) := by decide +kernel
theorem d_PR_rows_38 : decode b_PR_rows 38 = .ok (.aload 7, 2) := by decide +kernel
theorem d_PR_rows_40 : decode b_PR_rows 40 = .ok (.ifnull 30, 3) := by decide +kernel
theorem d_PR_rows_43 : decode b_PR_rows 43 = .ok (.aload_n 0, 1) := by decide +kernel
theorem d_PR_rows_44 : decode b_PR_rows 44 = .ok (.aload_n 0, 1) := by decide +kernel
theorem d_PR_rows_45 : decode b_PR_rows 45 = .ok (.aload 7, 2) := by decide +kernel
theorem d_PR_rows_47 : decode b_PR_rows 47 = .ok (.lload_n 2, 1) := by decide +kernel
theorem d_PR_rows_48 : decode b_PR_rows 48 = .ok (.iload 4, 2) := by decide +kernel
theorem d_PR_rows_50 : decode b_PR_rows 50 = .ok (.invokevirtual 131, 3) := by decide +kernel
theorem d_PR_rows_53 : decode b_PR_rows 53 = .ok (.lload 5, 2) := by decide +kernel
theorem d_PR_rows_55 : decode b_PR_rows 55 = .ok (.invokevirtual 137, 3) := by decide +kernel
theorem d_PR_rows_58 : decode b_PR_rows 58 = .ok (.lstore 5, 2) := by decide +kernel
theorem d_PR_rows_60 : decode b_PR_rows 60 = .ok (.aload 7, 2) := by decide +kernel
theorem d_PR_rows_62 : decode b_PR_rows 62 = .ok (.getfield 134, 3) := by decide +kernel
theorem d_PR_rows_65 : decode b_PR_rows 65 = .ok (.astore 7, 2) := by decide +kernel
theorem d_PR_rows_67 : decode b_PR_rows 67 = .ok (.goto (-29), 3) := by decide +kernel
theorem d_PR_rows_70 : decode b_PR_rows 70 = .ok (.lload 5, 2) := by decide +kernel
theorem d_PR_rows_72 : decode b_PR_rows 72 = .ok (.lreturn, 1) := by decide +kernel
