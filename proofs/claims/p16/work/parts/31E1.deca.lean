theorem d_PA_push_0 : decode b_PA_push 0 = .ok (.aload_n 1, 1) := by decide +kernel
theorem d_PA_push_1 : decode b_PA_push 1 = .ok (.aload_n 0, 1) := by decide +kernel
theorem d_PA_push_2 : decode b_PA_push 2 = .ok (.getfield 31, 3) := by decide +kernel
theorem d_PA_push_5 : decode b_PA_push 5 = .ok (.putfield 35, 3) := by decide +kernel
theorem d_PA_push_8 : decode b_PA_push 8 = .ok (.aload_n 0, 1) := by decide +kernel
theorem d_PA_push_9 : decode b_PA_push 9 = .ok (.aload_n 1, 1) := by decide +kernel
theorem d_PA_push_10 : decode b_PA_push 10 = .ok (.putfield 31, 3) := by decide +kernel
theorem d_PA_push_13 : decode b_PA_push 13 = .ok (.return_, 1) := by decide +kernel
theorem d_PA_pushInLastRow_0 : decode b_PA_pushInLastRow 0 = .ok (.aload_n 0, 1) := by decide +kernel
theorem d_PA_pushInLastRow_1 : decode b_PA_pushInLastRow 1 = .ok (.getfield 31, 3) := by decide +kernel
theorem d_PA_pushInLastRow_4 : decode b_PA_pushInLastRow 4 = .ok (.ifnull 51, 3) := by decide +kernel
theorem d_PA_pushInLastRow_7 : decode b_PA_pushInLastRow 7 = .ok (.aload_n 0, 1) := by decide +kernel
theorem d_PA_pushInLastRow_8 : decode b_PA_pushInLastRow 8 = .ok (.getfield 31, 3) := by decide +kernel
theorem d_PA_pushInLastRow_11 : decode b_PA_pushInLastRow 11 = .ok (.aload_n 1, 1) := by decide +kernel
theorem d_PA_pushInLastRow_12 : decode b_PA_pushInLastRow 12 = .ok (.invokevirtual 38, 3) := by decide +kernel
theorem d_PA_pushInLastRow_15 : decode b_PA_pushInLastRow 15 = .ok (.aload_n 0, 1) := by decide +kernel
theorem d_PA_pushInLastRow_16 : decode b_PA_pushInLastRow 16 = .ok (.getfield 31, 3) := by decide +kernel
theorem d_PA_pushInLastRow_19 : decode b_PA_pushInLastRow 19 = .ok (.ldc 42, 2) := by decide +kernel
theorem d_PA_pushInLastRow_21 : decode b_PA_pushInLastRow 21 = .ok (.aload_n 0, 1) := by decide +kernel
theorem d_PA_pushInLastRow_22 : decode b_PA_pushInLastRow 22 = .ok (.getfield 31, 3) := by decide +kernel
theorem d_PA_pushInLastRow_25 : decode b_PA_pushInLastRow 25 = .ok (.getfield 24, 3) := by decide +kernel
theorem d_PA_pushInLastRow_28 : decode b_PA_pushInLastRow 28 = .ok (.aload_n 1, 1) := by decide +kernel
theorem d_PA_pushInLastRow_29 : decode b_PA_pushInLastRow 29 = .ok (.getfield 24, 3) := by decide +kernel
theorem d_PA_pushInLastRow_32 : decode b_PA_pushInLastRow 32 = .ok (.iadd, 1) := by decide +kernel
theorem d_PA_pushInLastRow_33 : decode b_PA_pushInLastRow 33 = .ok (.invokestatic 43, 3) := by decide +kernel
theorem d_PA_pushInLastRow_36 : decode b_PA_pushInLastRow 36 = .ok (.putfield 24, 3) := by decide +kernel
theorem d_PA_pushInLastRow_39 : decode b_PA_pushInLastRow 39 = .ok (.aload_n 0, 1) := by decide +kernel
theorem d_PA_pushInLastRow_40 : decode b_PA_pushInLastRow 40 = .ok (.getfield 31, 3) := by decide +kernel
theorem d_PA_pushInLastRow_43 : decode b_PA_pushInLastRow 43 = .ok (.dup, 1) := by decide +kernel
theorem d_PA_pushInLastRow_44 : decode b_PA_pushInLastRow 44 = .ok (.getfield 27, 3) := by decide +kernel
theorem d_PA_pushInLastRow_47 : decode b_PA_pushInLastRow 47 = .ok (.aload_n 1, 1) := by decide +kernel
theorem d_PA_pushInLastRow_48 : decode b_PA_pushInLastRow 48 = .ok (.getfield 27, 3) := by decide +kernel
theorem d_PA_pushInLastRow_51 : decode b_PA_pushInLastRow 51 = .ok (.iand, 1) := by decide +kernel
theorem d_PA_pushInLastRow_52 : decode b_PA_pushInLastRow 52 = .ok (.putfield 27, 3) := by decide +kernel
theorem d_PA_pushInLastRow_55 : decode b_PA_pushInLastRow 55 = .ok (.return_, 1) := by decide +kernel
theorem d_PA_repeat_0 : decode b_PA_repeat 0 = .ok (.aload_n 0, 1) := by decide +kernel
theorem d_PA_repeat_1 : decode b_PA_repeat 1 = .ok (.iload_n 1, 1) := by decide +kernel
theorem d_PA_repeat_2 : decode b_PA_repeat 2 = .ok (.putfield 49, 3) := by decide +kernel
theorem d_PA_repeat_5 : decode b_PA_repeat 5 = .ok (.aload_n 0, 1) := by decide +kernel
theorem d_PA_repeat_6 : decode b_PA_repeat 6 = .ok (.iload_n 2, 1) := by decide +kernel
theorem d_PA_repeat_7 : decode b_PA_repeat 7 = .ok (.putfield 52, 3) := by decide +kernel
theorem d_PA_repeat_10 : decode b_PA_repeat 10 = .ok (.aload_n 0, 1) := by decide +kernel
theorem d_PA_repeat_11 : decode b_PA_repeat 11 = .ok (.iload_n 3, 1) := by decide +kernel
theorem d_PA_repeat_12 : decode b_PA_repeat 12 = .ok (.putfield 55, 3) := by decide +kernel
theorem d_PA_repeat_15 : decode b_PA_repeat 15 = .ok (.iload_n 2, 1) := by decide +kernel
theorem d_PA_repeat_16 : decode b_PA_repeat 16 = .ok (.sipush 1000, 3) := by decide +kernel
theorem d_PA_repeat_19 : decode b_PA_repeat 19 = .ok (.if_icmp .ne 9, 3) := by decide +kernel
theorem d_PA_repeat_22 : decode b_PA_repeat 22 = .ok (.iload_n 1, 1) := by decide +kernel
theorem d_PA_repeat_23 : decode b_PA_repeat 23 = .ok (.iconst 1, 1) := by decide +kernel
theorem d_PA_repeat_24 : decode b_PA_repeat 24 = .ok (.iadd, 1) := by decide +kernel
theorem d_PA_repeat_25 : decode b_PA_repeat 25 = .ok (.goto 4, 3) := by decide +kernel
theorem d_PA_repeat_28 : decode b_PA_repeat 28 = .ok (.iload_n 2, 1) := by decide +kernel
theorem d_PA_repeat_29 : decode b_PA_repeat 29 = .ok (.istore 4, 2) := by decide +kernel
theorem d_PA_repeat_31 : decode b_PA_repeat 31 = .ok (.iload_n 2, 1) := by decide +kernel
theorem d_PA_repeat_32 : decode b_PA_repeat 32 = .ok (.sipush 1000, 3) := by decide +kernel
theorem d_PA_repeat_35 : decode b_PA_repeat 35 = .ok (.if_icmp .ne 7, 3) := by decide +kernel
theorem d_PA_repeat_38 : decode b_PA_repeat 38 = .ok (.iconst 1, 1) := by decide +kernel
theorem d_PA_repeat_39 : decode b_PA_repeat 39 = .ok (.goto 6, 3) := by decide +kernel
theorem d_PA_repeat_42 : decode b_PA_repeat 42 = .ok (.iload_n 2, 1) := by decide +kernel
theorem d_PA_repeat_43 : decode b_PA_repeat 43 = .ok (.iload_n 1, 1) := by decide +kernel
theorem d_PA_repeat_44 : decode b_PA_repeat 44 = .ok (.isub, 1) := by decide +kernel
theorem d_PA_repeat_45 : decode b_PA_repeat 45 = .ok (.istore 5, 2) := by decide +kernel
theorem d_PA_repeat_47 : decode b_PA_repeat 47 = .ok (.aload_n 0, 1) := by decide +kernel
theorem d_PA_repeat_48 : decode b_PA_repeat 48 = .ok (.aload_n 0, 1) := by decide +kernel
theorem d_PA_repeat_49 : decode b_PA_repeat 49 = .ok (.getfield 27, 3) := by decide +kernel
theorem d_PA_repeat_52 : decode b_PA_repeat 52 = .ok (.putfield 58, 3) := by decide +kernel
theorem d_PA_repeat_55 : decode b_PA_repeat 55 = .ok (.aload_n 0, 1) := by decide +kernel
theorem d_PA_repeat_56 : decode b_PA_repeat 56 = .ok (.ldc 42, 2) := by decide +kernel
theorem d_PA_repeat_58 : decode b_PA_repeat 58 = .ok (.iload 4, 2) := by decide +kernel
theorem d_PA_repeat_60 : decode b_PA_repeat 60 = .ok (.aload_n 0, 1) := by decide +kernel
theorem d_PA_repeat_61 : decode b_PA_repeat 61 = .ok (.getfield 24, 3) := by decide +kernel
theorem d_PA_repeat_64 : decode b_PA_repeat 64 = .ok (.imul, 1) := by decide +kernel
theorem d_PA_repeat_65 : decode b_PA_repeat 65 = .ok (.iload 5, 2) := by decide +kernel
theorem d_PA_repeat_67 : decode b_PA_repeat 67 = .ok (.iadd, 1) := by decide +kernel
theorem d_PA_repeat_68 : decode b_PA_repeat 68 = .ok (.invokestatic 43, 3) := by decide +kernel
theorem d_PA_repeat_71 : decode b_PA_repeat 71 = .ok (.putfield 24, 3) := by decide +kernel
theorem d_PA_repeat_74 : decode b_PA_repeat 74 = .ok (.aload_n 0, 1) := by decide +kernel
theorem d_PA_repeat_75 : decode b_PA_repeat 75 = .ok (.dup, 1) := by decide +kernel
theorem d_PA_repeat_76 : decode b_PA_repeat 76 = .ok (.getfield 27, 3) := by decide +kernel
theorem d_PA_repeat_79 : decode b_PA_repeat 79 = .ok (.iload_n 1, 1) := by decide +kernel
theorem d_PA_repeat_80 : decode b_PA_repeat 80 = .ok (.ifCond .ne 7, 3) := by decide +kernel
theorem d_PA_repeat_83 : decode b_PA_repeat 83 = .ok (.iconst 1, 1) := by decide +kernel
theorem d_PA_repeat_84 : decode b_PA_repeat 84 = .ok (.goto 4, 3) := by decide +kernel
theorem d_PA_repeat_87 : decode b_PA_repeat 87 = .ok (.iconst 0, 1) := by decide +kernel
theorem d_PA_repeat_88 : decode b_PA_repeat 88 = .ok (.ior, 1) := by decide +kernel
theorem d_PA_repeat_89 : decode b_PA_repeat 89 = .ok (.putfield 27, 3) := by decide +kernel
theorem d_PA_repeat_92 : decode b_PA_repeat 92 = .ok (.return_, 1) := by decide +kernel
