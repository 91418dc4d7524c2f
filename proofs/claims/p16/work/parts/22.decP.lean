theorem d_PW_init_0 : decode b_PW_init 0 = .ok (.aload_n 0, 1) := by decide +kernel
theorem d_PW_init_1 : decode b_PW_init 1 = .ok (.invokespecial 3, 3) := by decide +kernel
theorem d_PW_init_4 : decode b_PW_init 4 = .ok (.aload_n 0, 1) := by decide +kernel
theorem d_PW_init_5 : decode b_PW_init 5 = .ok (.bipush 20, 2) := by decide +kernel
theorem d_PW_init_7 : decode b_PW_init 7 = .ok (.newarray .int, 2) := by decide +kernel
theorem d_PW_init_9 : decode b_PW_init 9 = .ok (.putfield 9, 3) := by decide +kernel
theorem d_PW_init_12 : decode b_PW_init 12 = .ok (.aload_n 0, 1) := by decide +kernel
theorem d_PW_init_13 : decode b_PW_init 13 = .ok (.new 13, 3) := by decide +kernel
theorem d_PW_init_16 : decode b_PW_init 16 = .ok (.dup, 1) := by decide +kernel
theorem d_PW_init_17 : decode b_PW_init 17 = .ok (.sipush 2000, 3) := by decide +kernel
theorem d_PW_init_20 : decode b_PW_init 20 = .ok (.invokespecial 15, 3) := by decide +kernel
theorem d_PW_init_23 : decode b_PW_init 23 = .ok (.putfield 18, 3) := by decide +kernel
theorem d_PW_init_26 : decode b_PW_init 26 = .ok (.aload_n 0, 1) := by decide +kernel
theorem d_PW_init_27 : decode b_PW_init 27 = .ok (.new 22, 3) := by decide +kernel
theorem d_PW_init_30 : decode b_PW_init 30 = .ok (.dup, 1) := by decide +kernel
theorem d_PW_init_31 : decode b_PW_init 31 = .ok (.invokespecial 24, 3) := by decide +kernel
theorem d_PW_init_34 : decode b_PW_init 34 = .ok (.putfield 25, 3) := by decide +kernel
theorem d_PW_init_37 : decode b_PW_init 37 = .ok (.aload_n 0, 1) := by decide +kernel
theorem d_PW_init_38 : decode b_PW_init 38 = .ok (.bipush 6, 2) := by decide +kernel
theorem d_PW_init_40 : decode b_PW_init 40 = .ok (.anewarray 29, 3) := by decide +kernel
theorem d_PW_init_43 : decode b_PW_init 43 = .ok (.putfield 31, 3) := by decide +kernel
theorem d_PW_init_46 : decode b_PW_init 46 = .ok (.aload_n 0, 1) := by decide +kernel
theorem d_PW_init_47 : decode b_PW_init 47 = .ok (.new 35, 3) := by decide +kernel
theorem d_PW_init_50 : decode b_PW_init 50 = .ok (.dup, 1) := by decide +kernel
theorem d_PW_init_51 : decode b_PW_init 51 = .ok (.invokespecial 37, 3) := by decide +kernel
theorem d_PW_init_54 : decode b_PW_init 54 = .ok (.putfield 38, 3) := by decide +kernel
theorem d_PW_init_57 : decode b_PW_init 57 = .ok (.aload_n 0, 1) := by decide +kernel
theorem d_PW_init_58 : decode b_PW_init 58 = .ok (.bipush 20, 2) := by decide +kernel
theorem d_PW_init_60 : decode b_PW_init 60 = .ok (.newarray .int, 2) := by decide +kernel
theorem d_PW_init_62 : decode b_PW_init 62 = .ok (.putfield 42, 3) := by decide +kernel
theorem d_PW_init_65 : decode b_PW_init 65 = .ok (.aload_n 0, 1) := by decide +kernel
theorem d_PW_init_66 : decode b_PW_init 66 = .ok (.new 45, 3) := by decide +kernel
theorem d_PW_init_69 : decode b_PW_init 69 = .ok (.dup, 1) := by decide +kernel
theorem d_PW_init_70 : decode b_PW_init 70 = .ok (.invokespecial 47, 3) := by decide +kernel
theorem d_PW_init_73 : decode b_PW_init 73 = .ok (.putfield 48, 3) := by decide +kernel
theorem d_PW_init_76 : decode b_PW_init 76 = .ok (.aload_n 0, 1) := by decide +kernel
theorem d_PW_init_77 : decode b_PW_init 77 = .ok (.new 52, 3) := by decide +kernel
theorem d_PW_init_80 : decode b_PW_init 80 = .ok (.dup, 1) := by decide +kernel
theorem d_PW_init_81 : decode b_PW_init 81 = .ok (.invokespecial 54, 3) := by decide +kernel
theorem d_PW_init_84 : decode b_PW_init 84 = .ok (.putfield 55, 3) := by decide +kernel
theorem d_PW_init_87 : decode b_PW_init 87 = .ok (.aload_n 0, 1) := by decide +kernel
theorem d_PW_init_88 : decode b_PW_init 88 = .ok (.new 59, 3) := by decide +kernel
theorem d_PW_init_91 : decode b_PW_init 91 = .ok (.dup, 1) := by decide +kernel
theorem d_PW_init_92 : decode b_PW_init 92 = .ok (.invokespecial 61, 3) := by decide +kernel
theorem d_PW_init_95 : decode b_PW_init 95 = .ok (.putfield 62, 3) := by decide +kernel
theorem d_PW_init_98 : decode b_PW_init 98 = .ok (.aload_n 0, 1) := by decide +kernel
theorem d_PW_init_99 : decode b_PW_init 99 = .ok (.new 66, 3) := by decide +kernel
theorem d_PW_init_102 : decode b_PW_init 102 = .ok (.dup, 1) := by decide +kernel
theorem d_PW_init_103 : decode b_PW_init 103 = .ok (.invokespecial 68, 3) := by decide +kernel
theorem d_PW_init_106 : decode b_PW_init 106 = .ok (.putfield 69, 3) := by decide +kernel
theorem d_PW_init_109 : decode b_PW_init 109 = .ok (.aload_n 0, 1) := by decide +kernel
theorem d_PW_init_110 : decode b_PW_init 110 = .ok (.bipush 20, 2) := by decide +kernel
theorem d_PW_init_112 : decode b_PW_init 112 = .ok (.newarray .int, 2) := by decide +kernel
theorem d_PW_init_114 : decode b_PW_init 114 = .ok (.putfield 73, 3) := by decide +kernel
theorem d_PW_init_117 : decode b_PW_init 117 = .ok (.aload_n 0, 1) := by decide +kernel
theorem d_PW_init_118 : decode b_PW_init 118 = .ok (.new 13, 3) := by decide +kernel
theorem d_PW_init_121 : decode b_PW_init 121 = .ok (.dup, 1) := by decide +kernel
theorem d_PW_init_122 : decode b_PW_init 122 = .ok (.sipush 4002, 3) := by decide +kernel
theorem d_PW_init_125 : decode b_PW_init 125 = .ok (.invokespecial 15, 3) := by decide +kernel
theorem d_PW_init_128 : decode b_PW_init 128 = .ok (.putfield 76, 3) := by decide +kernel
theorem d_PW_init_131 : decode b_PW_init 131 = .ok (.aload_n 0, 1) := by decide +kernel
theorem d_PW_init_132 : decode b_PW_init 132 = .ok (.new 13, 3) := by decide +kernel
theorem d_PW_init_135 : decode b_PW_init 135 = .ok (.dup, 1) := by decide +kernel
theorem d_PW_init_136 : decode b_PW_init 136 = .ok (.sipush 4004, 3) := by decide +kernel
theorem d_PW_init_139 : decode b_PW_init 139 = .ok (.invokespecial 15, 3) := by decide +kernel
theorem d_PW_init_142 : decode b_PW_init 142 = .ok (.putfield 79, 3) := by decide +kernel
theorem d_PW_init_145 : decode b_PW_init 145 = .ok (.aload_n 0, 1) := by decide +kernel
theorem d_PW_init_146 : decode b_PW_init 146 = .ok (.new 13, 3) := by decide +kernel
theorem d_PW_init_149 : decode b_PW_init 149 = .ok (.dup, 1) := by decide +kernel
theorem d_PW_init_150 : decode b_PW_init 150 = .ok (.sipush 2000, 3) := by decide +kernel
theorem d_PW_init_153 : decode b_PW_init 153 = .ok (.invokespecial 15, 3) := by decide +kernel
theorem d_PW_init_156 : decode b_PW_init 156 = .ok (.putfield 82, 3) := by decide +kernel
theorem d_PW_init_159 : decode b_PW_init 159 = .ok (.aload_n 0, 1) := by decide +kernel
theorem d_PW_init_160 : decode b_PW_init 160 = .ok (.new 13, 3) := by decide +kernel
theorem d_PW_init_163 : decode b_PW_init 163 = .ok (.dup, 1) := by decide +kernel
theorem d_PW_init_164 : decode b_PW_init 164 = .ok (.sipush 6000, 3) := by decide +kernel
theorem d_PW_init_167 : decode b_PW_init 167 = .ok (.invokespecial 15, 3) := by decide +kernel
theorem d_PW_init_170 : decode b_PW_init 170 = .ok (.putfield 85, 3) := by decide +kernel
theorem d_PW_init_173 : decode b_PW_init 173 = .ok (.aload_n 0, 1) := by decide +kernel
theorem d_PW_init_174 : decode b_PW_init 174 = .ok (.new 13, 3) := by decide +kernel
theorem d_PW_init_177 : decode b_PW_init 177 = .ok (.dup, 1) := by decide +kernel
theorem d_PW_init_178 : decode b_PW_init 178 = .ok (.sipush 6000, 3) := by decide +kernel
theorem d_PW_init_181 : decode b_PW_init 181 = .ok (.invokespecial 15, 3) := by decide +kernel
theorem d_PW_init_184 : decode b_PW_init 184 = .ok (.putfield 88, 3) := by decide +kernel
theorem d_PW_init_187 : decode b_PW_init 187 = .ok (.aload_n 0, 1) := by decide +kernel
theorem d_PW_init_188 : decode b_PW_init 188 = .ok (.getfield 73, 3) := by decide +kernel
theorem d_PW_init_191 : decode b_PW_init 191 = .ok (.iconst (-1), 1) := by decide +kernel
theorem d_PW_init_192 : decode b_PW_init 192 = .ok (.invokestatic 91, 3) := by decide +kernel
theorem d_PW_init_195 : decode b_PW_init 195 = .ok (.return_, 1) := by decide +kernel
