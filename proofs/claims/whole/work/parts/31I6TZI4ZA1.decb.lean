theorem d_MO_writeTemplate_49 : decode b_MO_writeTemplate 49 = .ok (.bipush 100, 2) := by decide +kernel
theorem d_MO_writeTemplate_51 : decode b_MO_writeTemplate 51 = .ok (.if_icmp .ne 12, 3) := by decide +kernel
theorem d_MO_writeTemplate_54 : decode b_MO_writeTemplate 54 = .ok (.aload_n 0, 1) := by decide +kernel
theorem d_MO_writeTemplate_55 : decode b_MO_writeTemplate 55 = .ok (.bipush 36, 2) := by decide +kernel
theorem d_MO_writeTemplate_57 : decode b_MO_writeTemplate 57 = .ok (.invokevirtual 600, 3) := by decide +kernel
theorem d_MO_writeTemplate_60 : decode b_MO_writeTemplate 60 = .ok (.goto 39, 3) := by decide +kernel
theorem d_MO_writeTemplate_63 : decode b_MO_writeTemplate 63 = .ok (.aload_n 0, 1) := by decide +kernel
theorem d_MO_writeTemplate_64 : decode b_MO_writeTemplate 64 = .ok (.getfield 190, 3) := by decide +kernel
theorem d_MO_writeTemplate_67 : decode b_MO_writeTemplate 67 = .ok (.iconst 2, 1) := by decide +kernel
theorem d_MO_writeTemplate_68 : decode b_MO_writeTemplate 68 = .ok (.iload 4, 2) := by decide +kernel
theorem d_MO_writeTemplate_70 : decode b_MO_writeTemplate 70 = .ok (.imul, 1) := by decide +kernel
theorem d_MO_writeTemplate_71 : decode b_MO_writeTemplate 71 = .ok (.iaload, 1) := by decide +kernel
theorem d_MO_writeTemplate_72 : decode b_MO_writeTemplate 72 = .ok (.ifCond .lt 27, 3) := by decide +kernel
theorem d_MO_writeTemplate_75 : decode b_MO_writeTemplate 75 = .ok (.aload_n 0, 1) := by decide +kernel
theorem d_MO_writeTemplate_76 : decode b_MO_writeTemplate 76 = .ok (.aload_n 0, 1) := by decide +kernel
theorem d_MO_writeTemplate_77 : decode b_MO_writeTemplate 77 = .ok (.getfield 190, 3) := by decide +kernel
theorem d_MO_writeTemplate_80 : decode b_MO_writeTemplate 80 = .ok (.iconst 2, 1) := by decide +kernel
theorem d_MO_writeTemplate_81 : decode b_MO_writeTemplate 81 = .ok (.iload 4, 2) := by decide +kernel
theorem d_MO_writeTemplate_83 : decode b_MO_writeTemplate 83 = .ok (.imul, 1) := by decide +kernel
theorem d_MO_writeTemplate_84 : decode b_MO_writeTemplate 84 = .ok (.iaload, 1) := by decide +kernel
theorem d_MO_writeTemplate_85 : decode b_MO_writeTemplate 85 = .ok (.aload_n 0, 1) := by decide +kernel
theorem d_MO_writeTemplate_86 : decode b_MO_writeTemplate 86 = .ok (.getfield 190, 3) := by decide +kernel
theorem d_MO_writeTemplate_89 : decode b_MO_writeTemplate 89 = .ok (.iconst 2, 1) := by decide +kernel
theorem d_MO_writeTemplate_90 : decode b_MO_writeTemplate 90 = .ok (.iload 4, 2) := by decide +kernel
theorem d_MO_writeTemplate_92 : decode b_MO_writeTemplate 92 = .ok (.imul, 1) := by decide +kernel
theorem d_MO_writeTemplate_93 : decode b_MO_writeTemplate 93 = .ok (.iconst 1, 1) := by decide +kernel
theorem d_MO_writeTemplate_94 : decode b_MO_writeTemplate 94 = .ok (.iadd, 1) := by decide +kernel
theorem d_MO_writeTemplate_95 : decode b_MO_writeTemplate 95 = .ok (.iaload, 1) := by decide +kernel
theorem d_MO_writeTemplate_96 : decode b_MO_writeTemplate 96 = .ok (.invokevirtual 609, 3) := by decide +kernel
theorem d_MO_writeTemplate_99 : decode b_MO_writeTemplate 99 = .ok (.iload_n 3, 1) := by decide +kernel
theorem d_MO_writeTemplate_100 : decode b_MO_writeTemplate 100 = .ok (.aload_n 0, 1) := by decide +kernel
theorem d_MO_writeTemplate_101 : decode b_MO_writeTemplate 101 = .ok (.getfield 603, 3) := by decide +kernel
theorem d_MO_writeTemplate_104 : decode b_MO_writeTemplate 104 = .ok (.iconst 1, 1) := by decide +kernel
theorem d_MO_writeTemplate_105 : decode b_MO_writeTemplate 105 = .ok (.isub, 1) := by decide +kernel
theorem d_MO_writeTemplate_106 : decode b_MO_writeTemplate 106 = .ok (.iadd, 1) := by decide +kernel
theorem d_MO_writeTemplate_107 : decode b_MO_writeTemplate 107 = .ok (.istore_n 3, 1) := by decide +kernel
theorem d_MO_writeTemplate_108 : decode b_MO_writeTemplate 108 = .ok (.iinc 3 1, 3) := by decide +kernel
theorem d_MO_writeTemplate_111 : decode b_MO_writeTemplate 111 = .ok (.goto (-109), 3) := by decide +kernel
theorem d_MO_writeTemplate_114 : decode b_MO_writeTemplate 114 = .ok (.return_, 1) := by decide +kernel
