theorem d_PA_closeRows_0 : decode b_PA_closeRows 0 = .ok (.aload_n 0, 1) := by decide +kernel
theorem d_PA_closeRows_1 : decode b_PA_closeRows 1 = .ok (.getfield 31, 3) := by decide +kernel
theorem d_PA_closeRows_4 : decode b_PA_closeRows 4 = .ok (.astore_n 1, 1) := by decide +kernel
theorem d_PA_closeRows_5 : decode b_PA_closeRows 5 = .ok (.aload_n 1, 1) := by decide +kernel
theorem d_PA_closeRows_6 : decode b_PA_closeRows 6 = .ok (.ifnull 57, 3) := by decide +kernel
theorem d_PA_closeRows_9 : decode b_PA_closeRows 9 = .ok (.aload_n 1, 1) := by decide +kernel
theorem d_PA_closeRows_10 : decode b_PA_closeRows 10 = .ok (.getfield 35, 3) := by decide +kernel
theorem d_PA_closeRows_13 : decode b_PA_closeRows 13 = .ok (.ifnonnull 7, 3) := by decide +kernel
theorem d_PA_closeRows_16 : decode b_PA_closeRows 16 = .ok (.iconst 0, 1) := by decide +kernel
theorem d_PA_closeRows_17 : decode b_PA_closeRows 17 = .ok (.goto 4, 3) := by decide +kernel
theorem d_PA_closeRows_20 : decode b_PA_closeRows 20 = .ok (.iconst 1, 1) := by decide +kernel
theorem d_PA_closeRows_21 : decode b_PA_closeRows 21 = .ok (.istore_n 2, 1) := by decide +kernel
theorem d_PA_closeRows_22 : decode b_PA_closeRows 22 = .ok (.aload_n 0, 1) := by decide +kernel
theorem d_PA_closeRows_23 : decode b_PA_closeRows 23 = .ok (.ldc 42, 2) := by decide +kernel
theorem d_PA_closeRows_25 : decode b_PA_closeRows 25 = .ok (.aload_n 0, 1) := by decide +kernel
theorem d_PA_closeRows_26 : decode b_PA_closeRows 26 = .ok (.getfield 24, 3) := by decide +kernel
theorem d_PA_closeRows_29 : decode b_PA_closeRows 29 = .ok (.aload_n 1, 1) := by decide +kernel
theorem d_PA_closeRows_30 : decode b_PA_closeRows 30 = .ok (.getfield 24, 3) := by decide +kernel
theorem d_PA_closeRows_33 : decode b_PA_closeRows 33 = .ok (.iadd, 1) := by decide +kernel
theorem d_PA_closeRows_34 : decode b_PA_closeRows 34 = .ok (.iload_n 2, 1) := by decide +kernel
theorem d_PA_closeRows_35 : decode b_PA_closeRows 35 = .ok (.iadd, 1) := by decide +kernel
theorem d_PA_closeRows_36 : decode b_PA_closeRows 36 = .ok (.invokestatic 43, 3) := by decide +kernel
theorem d_PA_closeRows_39 : decode b_PA_closeRows 39 = .ok (.putfield 24, 3) := by decide +kernel
theorem d_PA_closeRows_42 : decode b_PA_closeRows 42 = .ok (.aload_n 0, 1) := by decide +kernel
theorem d_PA_closeRows_43 : decode b_PA_closeRows 43 = .ok (.dup, 1) := by decide +kernel
theorem d_PA_closeRows_44 : decode b_PA_closeRows 44 = .ok (.getfield 27, 3) := by decide +kernel
theorem d_PA_closeRows_47 : decode b_PA_closeRows 47 = .ok (.aload_n 1, 1) := by decide +kernel
theorem d_PA_closeRows_48 : decode b_PA_closeRows 48 = .ok (.getfield 27, 3) := by decide +kernel
theorem d_PA_closeRows_51 : decode b_PA_closeRows 51 = .ok (.ior, 1) := by decide +kernel
theorem d_PA_closeRows_52 : decode b_PA_closeRows 52 = .ok (.putfield 27, 3) := by decide +kernel
theorem d_PA_closeRows_55 : decode b_PA_closeRows 55 = .ok (.aload_n 1, 1) := by decide +kernel
theorem d_PA_closeRows_56 : decode b_PA_closeRows 56 = .ok (.getfield 35, 3) := by decide +kernel
theorem d_PA_closeRows_59 : decode b_PA_closeRows 59 = .ok (.astore_n 1, 1) := by decide +kernel
theorem d_PA_closeRows_60 : decode b_PA_closeRows 60 = .ok (.goto (-55), 3) := by decide +kernel
theorem d_PA_closeRows_63 : decode b_PA_closeRows 63 = .ok (.return_, 1) := by decide +kernel
