theorem d_MK_arrive_0 : decode b_MK_arrive 0 = .ok (.aload_n 0, 1) := by decide +kernel
theorem d_MK_arrive_1 : decode b_MK_arrive 1 = .ok (.getfield 32, 3) := by decide +kernel
theorem d_MK_arrive_4 : decode b_MK_arrive 4 = .ok (.iconst 2, 1) := by decide +kernel
theorem d_MK_arrive_5 : decode b_MK_arrive 5 = .ok (.if_icmp .ne 14, 3) := by decide +kernel
theorem d_MK_arrive_8 : decode b_MK_arrive 8 = .ok (.iload_n 1, 1) := by decide +kernel
theorem d_MK_arrive_9 : decode b_MK_arrive 9 = .ok (.aload_n 0, 1) := by decide +kernel
theorem d_MK_arrive_10 : decode b_MK_arrive 10 = .ok (.getfield 28, 3) := by decide +kernel
theorem d_MK_arrive_13 : decode b_MK_arrive 13 = .ok (.getfield 55, 3) := by decide +kernel
theorem d_MK_arrive_16 : decode b_MK_arrive 16 = .ok (.if_icmp .lt 20, 3) := by decide +kernel
theorem d_MK_arrive_19 : decode b_MK_arrive 19 = .ok (.aload_n 0, 1) := by decide +kernel
theorem d_MK_arrive_20 : decode b_MK_arrive 20 = .ok (.getfield 70, 3) := by decide +kernel
theorem d_MK_arrive_23 : decode b_MK_arrive 23 = .ok (.ifCond .eq 14, 3) := by decide +kernel
theorem d_MK_arrive_26 : decode b_MK_arrive 26 = .ok (.iload_n 1, 1) := by decide +kernel
theorem d_MK_arrive_27 : decode b_MK_arrive 27 = .ok (.aload_n 0, 1) := by decide +kernel
theorem d_MK_arrive_28 : decode b_MK_arrive 28 = .ok (.getfield 9, 3) := by decide +kernel
theorem d_MK_arrive_31 : decode b_MK_arrive 31 = .ok (.iconst 1, 1) := by decide +kernel
theorem d_MK_arrive_32 : decode b_MK_arrive 32 = .ok (.iaload, 1) := by decide +kernel
theorem d_MK_arrive_33 : decode b_MK_arrive 33 = .ok (.if_icmp .gt 4, 3) := by decide +kernel
theorem d_MK_arrive_36 : decode b_MK_arrive 36 = .ok (.return_, 1) := by decide +kernel
theorem d_MK_arrive_37 : decode b_MK_arrive 37 = .ok (.aload_n 0, 1) := by decide +kernel
theorem d_MK_arrive_38 : decode b_MK_arrive 38 = .ok (.getfield 15, 3) := by decide +kernel
theorem d_MK_arrive_41 : decode b_MK_arrive 41 = .ok (.iconst 0, 1) := by decide +kernel
theorem d_MK_arrive_42 : decode b_MK_arrive 42 = .ok (.aload_n 0, 1) := by decide +kernel
theorem d_MK_arrive_43 : decode b_MK_arrive 43 = .ok (.getfield 9, 3) := by decide +kernel
theorem d_MK_arrive_46 : decode b_MK_arrive 46 = .ok (.iconst 0, 1) := by decide +kernel
theorem d_MK_arrive_47 : decode b_MK_arrive 47 = .ok (.aload_n 0, 1) := by decide +kernel
theorem d_MK_arrive_48 : decode b_MK_arrive 48 = .ok (.getfield 24, 3) := by decide +kernel
theorem d_MK_arrive_51 : decode b_MK_arrive 51 = .ok (.getfield 83, 3) := by decide +kernel
theorem d_MK_arrive_54 : decode b_MK_arrive 54 = .ok (.invokestatic 132, 3) := by decide +kernel
theorem d_MK_arrive_57 : decode b_MK_arrive 57 = .ok (.aload_n 0, 1) := by decide +kernel
theorem d_MK_arrive_58 : decode b_MK_arrive 58 = .ok (.getfield 9, 3) := by decide +kernel
theorem d_MK_arrive_61 : decode b_MK_arrive 61 = .ok (.iconst 1, 1) := by decide +kernel
theorem d_MK_arrive_62 : decode b_MK_arrive 62 = .ok (.iload_n 1, 1) := by decide +kernel
theorem d_MK_arrive_63 : decode b_MK_arrive 63 = .ok (.iastore, 1) := by decide +kernel
theorem d_MK_arrive_64 : decode b_MK_arrive 64 = .ok (.aload_n 0, 1) := by decide +kernel
theorem d_MK_arrive_65 : decode b_MK_arrive 65 = .ok (.iconst 1, 1) := by decide +kernel
theorem d_MK_arrive_66 : decode b_MK_arrive 66 = .ok (.putfield 70, 3) := by decide +kernel
theorem d_MK_arrive_69 : decode b_MK_arrive 69 = .ok (.return_, 1) := by decide +kernel
theorem d_MK_begin_0 : decode b_MK_begin 0 = .ok (.aload_n 0, 1) := by decide +kernel
theorem d_MK_begin_1 : decode b_MK_begin 1 = .ok (.aload_n 1, 1) := by decide +kernel
theorem d_MK_begin_2 : decode b_MK_begin 2 = .ok (.putfield 24, 3) := by decide +kernel
theorem d_MK_begin_5 : decode b_MK_begin 5 = .ok (.aload_n 0, 1) := by decide +kernel
theorem d_MK_begin_6 : decode b_MK_begin 6 = .ok (.aload_n 2, 1) := by decide +kernel
theorem d_MK_begin_7 : decode b_MK_begin 7 = .ok (.putfield 28, 3) := by decide +kernel
theorem d_MK_begin_10 : decode b_MK_begin 10 = .ok (.aload_n 0, 1) := by decide +kernel
theorem d_MK_begin_11 : decode b_MK_begin 11 = .ok (.iload_n 3, 1) := by decide +kernel
theorem d_MK_begin_12 : decode b_MK_begin 12 = .ok (.putfield 32, 3) := by decide +kernel
theorem d_MK_begin_15 : decode b_MK_begin 15 = .ok (.aload_n 0, 1) := by decide +kernel
theorem d_MK_begin_16 : decode b_MK_begin 16 = .ok (.aload 5, 2) := by decide +kernel
theorem d_MK_begin_18 : decode b_MK_begin 18 = .ok (.putfield 9, 3) := by decide +kernel
theorem d_MK_begin_21 : decode b_MK_begin 21 = .ok (.aload_n 0, 1) := by decide +kernel
theorem d_MK_begin_22 : decode b_MK_begin 22 = .ok (.iload_n 3, 1) := by decide +kernel
theorem d_MK_begin_23 : decode b_MK_begin 23 = .ok (.iconst 2, 1) := by decide +kernel
theorem d_MK_begin_24 : decode b_MK_begin 24 = .ok (.if_icmp .eq 12, 3) := by decide +kernel
theorem d_MK_begin_27 : decode b_MK_begin 27 = .ok (.aload_n 1, 1) := by decide +kernel
theorem d_MK_begin_28 : decode b_MK_begin 28 = .ok (.bipush 16, 2) := by decide +kernel
theorem d_MK_begin_30 : decode b_MK_begin 30 = .ok (.invokevirtual 36, 3) := by decide +kernel
theorem d_MK_begin_33 : decode b_MK_begin 33 = .ok (.ifCond .ne 7, 3) := by decide +kernel
theorem d_MK_begin_36 : decode b_MK_begin 36 = .ok (.iconst 1, 1) := by decide +kernel
theorem d_MK_begin_37 : decode b_MK_begin 37 = .ok (.goto 4, 3) := by decide +kernel
theorem d_MK_begin_40 : decode b_MK_begin 40 = .ok (.iconst 0, 1) := by decide +kernel
theorem d_MK_begin_41 : decode b_MK_begin 41 = .ok (.putfield 42, 3) := by decide +kernel
theorem d_MK_begin_44 : decode b_MK_begin 44 = .ok (.aload_n 0, 1) := by decide +kernel
theorem d_MK_begin_45 : decode b_MK_begin 45 = .ok (.aload_n 1, 1) := by decide +kernel
theorem d_MK_begin_46 : decode b_MK_begin 46 = .ok (.getfield 46, 3) := by decide +kernel
theorem d_MK_begin_49 : decode b_MK_begin 49 = .ok (.bipush 31, 2) := by decide +kernel
theorem d_MK_begin_51 : decode b_MK_begin 51 = .ok (.iadd, 1) := by decide +kernel
theorem d_MK_begin_52 : decode b_MK_begin 52 = .ok (.iconst 5, 1) := by decide +kernel
theorem d_MK_begin_53 : decode b_MK_begin 53 = .ok (.ishr, 1) := by decide +kernel
theorem d_MK_begin_54 : decode b_MK_begin 54 = .ok (.putfield 49, 3) := by decide +kernel
theorem d_MK_begin_57 : decode b_MK_begin 57 = .ok (.aload_n 0, 1) := by decide +kernel
theorem d_MK_begin_58 : decode b_MK_begin 58 = .ok (.iload 4, 2) := by decide +kernel
theorem d_MK_begin_60 : decode b_MK_begin 60 = .ok (.putfield 52, 3) := by decide +kernel
theorem d_MK_begin_63 : decode b_MK_begin 63 = .ok (.aload_n 2, 1) := by decide +kernel
theorem d_MK_begin_64 : decode b_MK_begin 64 = .ok (.getfield 55, 3) := by decide +kernel
theorem d_MK_begin_67 : decode b_MK_begin 67 = .ok (.iconst 1, 1) := by decide +kernel
theorem d_MK_begin_68 : decode b_MK_begin 68 = .ok (.iadd, 1) := by decide +kernel
theorem d_MK_begin_69 : decode b_MK_begin 69 = .ok (.aload_n 0, 1) := by decide +kernel
theorem d_MK_begin_70 : decode b_MK_begin 70 = .ok (.getfield 49, 3) := by decide +kernel
theorem d_MK_begin_73 : decode b_MK_begin 73 = .ok (.imul, 1) := by decide +kernel
theorem d_MK_begin_74 : decode b_MK_begin 74 = .ok (.istore 6, 2) := by decide +kernel
theorem d_MK_begin_76 : decode b_MK_begin 76 = .ok (.iload 6, 2) := by decide +kernel
theorem d_MK_begin_78 : decode b_MK_begin 78 = .ok (.aload_n 0, 1) := by decide +kernel
theorem d_MK_begin_79 : decode b_MK_begin 79 = .ok (.getfield 18, 3) := by decide +kernel
theorem d_MK_begin_82 : decode b_MK_begin 82 = .ok (.arraylength, 1) := by decide +kernel
theorem d_MK_begin_83 : decode b_MK_begin 83 = .ok (.if_icmp .le 26, 3) := by decide +kernel
theorem d_MK_begin_86 : decode b_MK_begin 86 = .ok (.aload_n 0, 1) := by decide +kernel
theorem d_MK_begin_87 : decode b_MK_begin 87 = .ok (.iload 6, 2) := by decide +kernel
theorem d_MK_begin_89 : decode b_MK_begin 89 = .ok (.ldc 60, 2) := by decide +kernel
theorem d_MK_begin_91 : decode b_MK_begin 91 = .ok (.iconst 2, 1) := by decide +kernel
theorem d_MK_begin_92 : decode b_MK_begin 92 = .ok (.aload_n 0, 1) := by decide +kernel
theorem d_MK_begin_93 : decode b_MK_begin 93 = .ok (.getfield 18, 3) := by decide +kernel
theorem d_MK_begin_96 : decode b_MK_begin 96 = .ok (.arraylength, 1) := by decide +kernel
theorem d_MK_begin_97 : decode b_MK_begin 97 = .ok (.imul, 1) := by decide +kernel
theorem d_MK_begin_98 : decode b_MK_begin 98 = .ok (.invokestatic 61, 3) := by decide +kernel
theorem d_MK_begin_101 : decode b_MK_begin 101 = .ok (.invokestatic 67, 3) := by decide +kernel
theorem d_MK_begin_104 : decode b_MK_begin 104 = .ok (.newarray .int, 2) := by decide +kernel
theorem d_MK_begin_106 : decode b_MK_begin 106 = .ok (.putfield 18, 3) := by decide +kernel
theorem d_MK_begin_109 : decode b_MK_begin 109 = .ok (.return_, 1) := by decide +kernel
theorem d_MK_find_0 : decode b_MK_find 0 = .ok (.aload_n 0, 1) := by decide +kernel
theorem d_MK_find_1 : decode b_MK_find 1 = .ok (.iconst 0, 1) := by decide +kernel
theorem d_MK_find_2 : decode b_MK_find 2 = .ok (.putfield 70, 3) := by decide +kernel
theorem d_MK_find_5 : decode b_MK_find 5 = .ok (.aload_n 0, 1) := by decide +kernel
theorem d_MK_find_6 : decode b_MK_find 6 = .ok (.getfield 32, 3) := by decide +kernel
theorem d_MK_find_9 : decode b_MK_find 9 = .ok (.ifCond .ne 13, 3) := by decide +kernel
theorem d_MK_find_12 : decode b_MK_find 12 = .ok (.aload_n 0, 1) := by decide +kernel
theorem d_MK_find_13 : decode b_MK_find 13 = .ok (.getfield 28, 3) := by decide +kernel
theorem d_MK_find_16 : decode b_MK_find 16 = .ok (.getfield 55, 3) := by decide +kernel
theorem d_MK_find_19 : decode b_MK_find 19 = .ok (.goto 4, 3) := by decide +kernel
theorem d_MK_find_22 : decode b_MK_find 22 = .ok (.iload_n 1, 1) := by decide +kernel
theorem d_MK_find_23 : decode b_MK_find 23 = .ok (.istore_n 2, 1) := by decide +kernel
theorem d_MK_find_24 : decode b_MK_find 24 = .ok (.iload_n 1, 1) := by decide +kernel
theorem d_MK_find_25 : decode b_MK_find 25 = .ok (.istore_n 3, 1) := by decide +kernel
theorem d_MK_find_26 : decode b_MK_find 26 = .ok (.iload_n 3, 1) := by decide +kernel
theorem d_MK_find_27 : decode b_MK_find 27 = .ok (.iload_n 2, 1) := by decide +kernel
theorem d_MK_find_28 : decode b_MK_find 28 = .ok (.if_icmp .gt 21, 3) := by decide +kernel
theorem d_MK_find_31 : decode b_MK_find 31 = .ok (.aload_n 0, 1) := by decide +kernel
theorem d_MK_find_32 : decode b_MK_find 32 = .ok (.getfield 70, 3) := by decide +kernel
theorem d_MK_find_35 : decode b_MK_find 35 = .ok (.ifCond .ne 14, 3) := by decide +kernel
theorem d_MK_find_38 : decode b_MK_find 38 = .ok (.aload_n 0, 1) := by decide +kernel
theorem d_MK_find_39 : decode b_MK_find 39 = .ok (.iload_n 3, 1) := by decide +kernel
theorem d_MK_find_40 : decode b_MK_find 40 = .ok (.invokevirtual 73, 3) := by decide +kernel
theorem d_MK_find_43 : decode b_MK_find 43 = .ok (.iinc 3 1, 3) := by decide +kernel
theorem d_MK_find_46 : decode b_MK_find 46 = .ok (.goto (-20), 3) := by decide +kernel
theorem d_MK_find_49 : decode b_MK_find 49 = .ok (.aload_n 0, 1) := by decide +kernel
theorem d_MK_find_50 : decode b_MK_find 50 = .ok (.getfield 70, 3) := by decide +kernel
theorem d_MK_find_53 : decode b_MK_find 53 = .ok (.ifCond .ne 5, 3) := by decide +kernel
theorem d_MK_find_56 : decode b_MK_find 56 = .ok (.iconst (-1), 1) := by decide +kernel
theorem d_MK_find_57 : decode b_MK_find 57 = .ok (.ireturn, 1) := by decide +kernel
theorem d_MK_find_58 : decode b_MK_find 58 = .ok (.aload_n 0, 1) := by decide +kernel
theorem d_MK_find_59 : decode b_MK_find 59 = .ok (.getfield 9, 3) := by decide +kernel
theorem d_MK_find_62 : decode b_MK_find 62 = .ok (.iconst 1, 1) := by decide +kernel
theorem d_MK_find_63 : decode b_MK_find 63 = .ok (.iaload, 1) := by decide +kernel
theorem d_MK_find_64 : decode b_MK_find 64 = .ok (.istore_n 3, 1) := by decide +kernel
theorem d_MK_find_65 : decode b_MK_find 65 = .ok (.iload_n 3, 1) := by decide +kernel
theorem d_MK_find_66 : decode b_MK_find 66 = .ok (.aload_n 0, 1) := by decide +kernel
theorem d_MK_find_67 : decode b_MK_find 67 = .ok (.getfield 52, 3) := by decide +kernel
theorem d_MK_find_70 : decode b_MK_find 70 = .ok (.if_icmp .ge 25, 3) := by decide +kernel
theorem d_MK_find_73 : decode b_MK_find 73 = .ok (.aload_n 0, 1) := by decide +kernel
theorem d_MK_find_74 : decode b_MK_find 74 = .ok (.getfield 18, 3) := by decide +kernel
theorem d_MK_find_77 : decode b_MK_find 77 = .ok (.iload_n 3, 1) := by decide +kernel
theorem d_MK_find_78 : decode b_MK_find 78 = .ok (.aload_n 0, 1) := by decide +kernel
theorem d_MK_find_79 : decode b_MK_find 79 = .ok (.getfield 49, 3) := by decide +kernel
theorem d_MK_find_82 : decode b_MK_find 82 = .ok (.imul, 1) := by decide +kernel
theorem d_MK_find_83 : decode b_MK_find 83 = .ok (.iload_n 3, 1) := by decide +kernel
theorem d_MK_find_84 : decode b_MK_find 84 = .ok (.iconst 1, 1) := by decide +kernel
theorem d_MK_find_85 : decode b_MK_find 85 = .ok (.iadd, 1) := by decide +kernel
theorem d_MK_find_86 : decode b_MK_find 86 = .ok (.aload_n 0, 1) := by decide +kernel
theorem d_MK_find_87 : decode b_MK_find 87 = .ok (.getfield 49, 3) := by decide +kernel
theorem d_MK_find_90 : decode b_MK_find 90 = .ok (.imul, 1) := by decide +kernel
theorem d_MK_find_91 : decode b_MK_find 91 = .ok (.iconst 0, 1) := by decide +kernel
theorem d_MK_find_92 : decode b_MK_find 92 = .ok (.invokestatic 77, 3) := by decide +kernel
theorem d_MK_find_95 : decode b_MK_find 95 = .ok (.iload_n 3, 1) := by decide +kernel
theorem d_MK_find_96 : decode b_MK_find 96 = .ok (.ireturn, 1) := by decide +kernel
theorem d_MK_mark_0 : decode b_MK_mark 0 = .ok (.aload_n 0, 1) := by decide +kernel
theorem d_MK_mark_1 : decode b_MK_mark 1 = .ok (.dup, 1) := by decide +kernel
theorem d_MK_mark_2 : decode b_MK_mark 2 = .ok (.getfield 143, 3) := by decide +kernel
theorem d_MK_mark_5 : decode b_MK_mark 5 = .ok (.lconst 1, 1) := by decide +kernel
theorem d_MK_mark_6 : decode b_MK_mark 6 = .ok (.ladd, 1) := by decide +kernel
theorem d_MK_mark_7 : decode b_MK_mark 7 = .ok (.putfield 143, 3) := by decide +kernel
theorem d_MK_mark_10 : decode b_MK_mark 10 = .ok (.iload_n 2, 1) := by decide +kernel
theorem d_MK_mark_11 : decode b_MK_mark 11 = .ok (.aload_n 0, 1) := by decide +kernel
theorem d_MK_mark_12 : decode b_MK_mark 12 = .ok (.getfield 52, 3) := by decide +kernel
theorem d_MK_mark_15 : decode b_MK_mark 15 = .ok (.if_icmp .lt 35, 3) := by decide +kernel
theorem d_MK_mark_18 : decode b_MK_mark 18 = .ok (.aload_n 0, 1) := by decide +kernel
theorem d_MK_mark_19 : decode b_MK_mark 19 = .ok (.getfield 18, 3) := by decide +kernel
theorem d_MK_mark_22 : decode b_MK_mark 22 = .ok (.aload_n 0, 1) := by decide +kernel
theorem d_MK_mark_23 : decode b_MK_mark 23 = .ok (.getfield 52, 3) := by decide +kernel
theorem d_MK_mark_26 : decode b_MK_mark 26 = .ok (.aload_n 0, 1) := by decide +kernel
theorem d_MK_mark_27 : decode b_MK_mark 27 = .ok (.getfield 49, 3) := by decide +kernel
theorem d_MK_mark_30 : decode b_MK_mark 30 = .ok (.imul, 1) := by decide +kernel
theorem d_MK_mark_31 : decode b_MK_mark 31 = .ok (.iload_n 2, 1) := by decide +kernel
theorem d_MK_mark_32 : decode b_MK_mark 32 = .ok (.iconst 1, 1) := by decide +kernel
theorem d_MK_mark_33 : decode b_MK_mark 33 = .ok (.iadd, 1) := by decide +kernel
theorem d_MK_mark_34 : decode b_MK_mark 34 = .ok (.aload_n 0, 1) := by decide +kernel
theorem d_MK_mark_35 : decode b_MK_mark 35 = .ok (.getfield 49, 3) := by decide +kernel
theorem d_MK_mark_38 : decode b_MK_mark 38 = .ok (.imul, 1) := by decide +kernel
theorem d_MK_mark_39 : decode b_MK_mark 39 = .ok (.iconst 0, 1) := by decide +kernel
theorem d_MK_mark_40 : decode b_MK_mark 40 = .ok (.invokestatic 77, 3) := by decide +kernel
theorem d_MK_mark_43 : decode b_MK_mark 43 = .ok (.aload_n 0, 1) := by decide +kernel
theorem d_MK_mark_44 : decode b_MK_mark 44 = .ok (.iload_n 2, 1) := by decide +kernel
theorem d_MK_mark_45 : decode b_MK_mark 45 = .ok (.iconst 1, 1) := by decide +kernel
theorem d_MK_mark_46 : decode b_MK_mark 46 = .ok (.iadd, 1) := by decide +kernel
theorem d_MK_mark_47 : decode b_MK_mark 47 = .ok (.putfield 52, 3) := by decide +kernel
theorem d_MK_mark_50 : decode b_MK_mark 50 = .ok (.iload_n 2, 1) := by decide +kernel
theorem d_MK_mark_51 : decode b_MK_mark 51 = .ok (.aload_n 0, 1) := by decide +kernel
theorem d_MK_mark_52 : decode b_MK_mark 52 = .ok (.getfield 49, 3) := by decide +kernel
theorem d_MK_mark_55 : decode b_MK_mark 55 = .ok (.imul, 1) := by decide +kernel
theorem d_MK_mark_56 : decode b_MK_mark 56 = .ok (.iload_n 1, 1) := by decide +kernel
theorem d_MK_mark_57 : decode b_MK_mark 57 = .ok (.iconst 5, 1) := by decide +kernel
theorem d_MK_mark_58 : decode b_MK_mark 58 = .ok (.ishr, 1) := by decide +kernel
theorem d_MK_mark_59 : decode b_MK_mark 59 = .ok (.iadd, 1) := by decide +kernel
theorem d_MK_mark_60 : decode b_MK_mark 60 = .ok (.istore_n 3, 1) := by decide +kernel
theorem d_MK_mark_61 : decode b_MK_mark 61 = .ok (.iconst 1, 1) := by decide +kernel
theorem d_MK_mark_62 : decode b_MK_mark 62 = .ok (.iload_n 1, 1) := by decide +kernel
theorem d_MK_mark_63 : decode b_MK_mark 63 = .ok (.bipush 31, 2) := by decide +kernel
theorem d_MK_mark_65 : decode b_MK_mark 65 = .ok (.iand, 1) := by decide +kernel
theorem d_MK_mark_66 : decode b_MK_mark 66 = .ok (.ishl, 1) := by decide +kernel
theorem d_MK_mark_67 : decode b_MK_mark 67 = .ok (.istore 4, 2) := by decide +kernel
theorem d_MK_mark_69 : decode b_MK_mark 69 = .ok (.aload_n 0, 1) := by decide +kernel
theorem d_MK_mark_70 : decode b_MK_mark 70 = .ok (.getfield 18, 3) := by decide +kernel
theorem d_MK_mark_73 : decode b_MK_mark 73 = .ok (.iload_n 3, 1) := by decide +kernel
theorem d_MK_mark_74 : decode b_MK_mark 74 = .ok (.iaload, 1) := by decide +kernel
theorem d_MK_mark_75 : decode b_MK_mark 75 = .ok (.iload 4, 2) := by decide +kernel
theorem d_MK_mark_77 : decode b_MK_mark 77 = .ok (.iand, 1) := by decide +kernel
theorem d_MK_mark_78 : decode b_MK_mark 78 = .ok (.ifCond .ne 7, 3) := by decide +kernel
theorem d_MK_mark_81 : decode b_MK_mark 81 = .ok (.iconst 1, 1) := by decide +kernel
theorem d_MK_mark_82 : decode b_MK_mark 82 = .ok (.goto 4, 3) := by decide +kernel
theorem d_MK_mark_85 : decode b_MK_mark 85 = .ok (.iconst 0, 1) := by decide +kernel
theorem d_MK_mark_86 : decode b_MK_mark 86 = .ok (.istore 5, 2) := by decide +kernel
theorem d_MK_mark_88 : decode b_MK_mark 88 = .ok (.aload_n 0, 1) := by decide +kernel
theorem d_MK_mark_89 : decode b_MK_mark 89 = .ok (.getfield 18, 3) := by decide +kernel
theorem d_MK_mark_92 : decode b_MK_mark 92 = .ok (.iload_n 3, 1) := by decide +kernel
theorem d_MK_mark_93 : decode b_MK_mark 93 = .ok (.dup2, 1) := by decide +kernel
theorem d_MK_mark_94 : decode b_MK_mark 94 = .ok (.iaload, 1) := by decide +kernel
theorem d_MK_mark_95 : decode b_MK_mark 95 = .ok (.iload 4, 2) := by decide +kernel
theorem d_MK_mark_97 : decode b_MK_mark 97 = .ok (.ior, 1) := by decide +kernel
theorem d_MK_mark_98 : decode b_MK_mark 98 = .ok (.iastore, 1) := by decide +kernel
theorem d_MK_mark_99 : decode b_MK_mark 99 = .ok (.iload 5, 2) := by decide +kernel
theorem d_MK_mark_101 : decode b_MK_mark 101 = .ok (.ireturn, 1) := by decide +kernel
theorem d_MK_push_0 : decode b_MK_push 0 = .ok (.aload_n 0, 1) := by decide +kernel
theorem d_MK_push_1 : decode b_MK_push 1 = .ok (.getfield 86, 3) := by decide +kernel
theorem d_MK_push_4 : decode b_MK_push 4 = .ok (.aload_n 0, 1) := by decide +kernel
theorem d_MK_push_5 : decode b_MK_push 5 = .ok (.getfield 21, 3) := by decide +kernel
theorem d_MK_push_8 : decode b_MK_push 8 = .ok (.arraylength, 1) := by decide +kernel
theorem d_MK_push_9 : decode b_MK_push 9 = .ok (.if_icmp .lt 37, 3) := by decide +kernel
theorem d_MK_push_12 : decode b_MK_push 12 = .ok (.aload_n 0, 1) := by decide +kernel
theorem d_MK_push_13 : decode b_MK_push 13 = .ok (.getfield 21, 3) := by decide +kernel
theorem d_MK_push_16 : decode b_MK_push 16 = .ok (.arraylength, 1) := by decide +kernel
theorem d_MK_push_17 : decode b_MK_push 17 = .ok (.ldc 138, 2) := by decide +kernel
theorem d_MK_push_19 : decode b_MK_push 19 = .ok (.if_icmp .ge 27, 3) := by decide +kernel
theorem d_MK_push_22 : decode b_MK_push 22 = .ok (.aload_n 0, 1) := by decide +kernel
theorem d_MK_push_23 : decode b_MK_push 23 = .ok (.aload_n 0, 1) := by decide +kernel
theorem d_MK_push_24 : decode b_MK_push 24 = .ok (.getfield 21, 3) := by decide +kernel
theorem d_MK_push_27 : decode b_MK_push 27 = .ok (.ldc 138, 2) := by decide +kernel
theorem d_MK_push_29 : decode b_MK_push 29 = .ok (.bipush 8, 2) := by decide +kernel
theorem d_MK_push_31 : decode b_MK_push 31 = .ok (.aload_n 0, 1) := by decide +kernel
theorem d_MK_push_32 : decode b_MK_push 32 = .ok (.getfield 21, 3) := by decide +kernel
theorem d_MK_push_35 : decode b_MK_push 35 = .ok (.arraylength, 1) := by decide +kernel
theorem d_MK_push_36 : decode b_MK_push 36 = .ok (.imul, 1) := by decide +kernel
theorem d_MK_push_37 : decode b_MK_push 37 = .ok (.invokestatic 61, 3) := by decide +kernel
theorem d_MK_push_40 : decode b_MK_push 40 = .ok (.invokestatic 139, 3) := by decide +kernel
theorem d_MK_push_43 : decode b_MK_push 43 = .ok (.putfield 21, 3) := by decide +kernel
theorem d_MK_push_46 : decode b_MK_push 46 = .ok (.aload_n 0, 1) := by decide +kernel
theorem d_MK_push_47 : decode b_MK_push 47 = .ok (.getfield 86, 3) := by decide +kernel
theorem d_MK_push_50 : decode b_MK_push 50 = .ok (.aload_n 0, 1) := by decide +kernel
theorem d_MK_push_51 : decode b_MK_push 51 = .ok (.getfield 21, 3) := by decide +kernel
theorem d_MK_push_54 : decode b_MK_push 54 = .ok (.arraylength, 1) := by decide +kernel
theorem d_MK_push_55 : decode b_MK_push 55 = .ok (.if_icmp .ge 23, 3) := by decide +kernel
theorem d_MK_push_58 : decode b_MK_push 58 = .ok (.aload_n 0, 1) := by decide +kernel
theorem d_MK_push_59 : decode b_MK_push 59 = .ok (.getfield 21, 3) := by decide +kernel
theorem d_MK_push_62 : decode b_MK_push 62 = .ok (.aload_n 0, 1) := by decide +kernel
theorem d_MK_push_63 : decode b_MK_push 63 = .ok (.getfield 86, 3) := by decide +kernel
theorem d_MK_push_66 : decode b_MK_push 66 = .ok (.iload_n 1, 1) := by decide +kernel
theorem d_MK_push_67 : decode b_MK_push 67 = .ok (.iastore, 1) := by decide +kernel
theorem d_MK_push_68 : decode b_MK_push 68 = .ok (.aload_n 0, 1) := by decide +kernel
theorem d_MK_push_69 : decode b_MK_push 69 = .ok (.dup, 1) := by decide +kernel
theorem d_MK_push_70 : decode b_MK_push 70 = .ok (.getfield 86, 3) := by decide +kernel
theorem d_MK_push_73 : decode b_MK_push 73 = .ok (.iconst 1, 1) := by decide +kernel
theorem d_MK_push_74 : decode b_MK_push 74 = .ok (.iadd, 1) := by decide +kernel
theorem d_MK_push_75 : decode b_MK_push 75 = .ok (.putfield 86, 3) := by decide +kernel
theorem d_MK_push_78 : decode b_MK_push 78 = .ok (.return_, 1) := by decide +kernel
theorem d_MK_tryFrom_0 : decode b_MK_tryFrom 0 = .ok (.aload_n 0, 1) := by decide +kernel
theorem d_MK_tryFrom_1 : decode b_MK_tryFrom 1 = .ok (.getfield 15, 3) := by decide +kernel
theorem d_MK_tryFrom_4 : decode b_MK_tryFrom 4 = .ok (.iconst 0, 1) := by decide +kernel
theorem d_MK_tryFrom_5 : decode b_MK_tryFrom 5 = .ok (.aload_n 0, 1) := by decide +kernel
theorem d_MK_tryFrom_6 : decode b_MK_tryFrom 6 = .ok (.getfield 24, 3) := by decide +kernel
theorem d_MK_tryFrom_9 : decode b_MK_tryFrom 9 = .ok (.getfield 83, 3) := by decide +kernel
theorem d_MK_tryFrom_12 : decode b_MK_tryFrom 12 = .ok (.iconst (-1), 1) := by decide +kernel
theorem d_MK_tryFrom_13 : decode b_MK_tryFrom 13 = .ok (.invokestatic 77, 3) := by decide +kernel
theorem d_MK_tryFrom_16 : decode b_MK_tryFrom 16 = .ok (.aload_n 0, 1) := by decide +kernel
theorem d_MK_tryFrom_17 : decode b_MK_tryFrom 17 = .ok (.getfield 15, 3) := by decide +kernel
theorem d_MK_tryFrom_20 : decode b_MK_tryFrom 20 = .ok (.iconst 0, 1) := by decide +kernel
theorem d_MK_tryFrom_21 : decode b_MK_tryFrom 21 = .ok (.iload_n 1, 1) := by decide +kernel
theorem d_MK_tryFrom_22 : decode b_MK_tryFrom 22 = .ok (.iastore, 1) := by decide +kernel
theorem d_MK_tryFrom_23 : decode b_MK_tryFrom 23 = .ok (.aload_n 0, 1) := by decide +kernel
theorem d_MK_tryFrom_24 : decode b_MK_tryFrom 24 = .ok (.iconst 0, 1) := by decide +kernel
theorem d_MK_tryFrom_25 : decode b_MK_tryFrom 25 = .ok (.putfield 86, 3) := by decide +kernel
theorem d_MK_tryFrom_28 : decode b_MK_tryFrom 28 = .ok (.aload_n 0, 1) := by decide +kernel
theorem d_MK_tryFrom_29 : decode b_MK_tryFrom 29 = .ok (.iload_n 1, 1) := by decide +kernel
theorem d_MK_tryFrom_30 : decode b_MK_tryFrom 30 = .ok (.bipush 10, 2) := by decide +kernel
theorem d_MK_tryFrom_32 : decode b_MK_tryFrom 32 = .ok (.ishl, 1) := by decide +kernel
theorem d_MK_tryFrom_33 : decode b_MK_tryFrom 33 = .ok (.aload_n 0, 1) := by decide +kernel
theorem d_MK_tryFrom_34 : decode b_MK_tryFrom 34 = .ok (.getfield 24, 3) := by decide +kernel
theorem d_MK_tryFrom_37 : decode b_MK_tryFrom 37 = .ok (.getfield 89, 3) := by decide +kernel
theorem d_MK_tryFrom_40 : decode b_MK_tryFrom 40 = .ok (.ior, 1) := by decide +kernel
theorem d_MK_tryFrom_41 : decode b_MK_tryFrom 41 = .ok (.invokevirtual 92, 3) := by decide +kernel
theorem d_MK_tryFrom_44 : decode b_MK_tryFrom 44 = .ok (.ldc2_w 95, 3) := by decide +kernel
theorem d_MK_tryFrom_47 : decode b_MK_tryFrom 47 = .ok (.aload_n 0, 1) := by decide +kernel
theorem d_MK_tryFrom_48 : decode b_MK_tryFrom 48 = .ok (.getfield 24, 3) := by decide +kernel
theorem d_MK_tryFrom_51 : decode b_MK_tryFrom 51 = .ok (.getfield 46, 3) := by decide +kernel
theorem d_MK_tryFrom_54 : decode b_MK_tryFrom 54 = .ok (.i2l, 1) := by decide +kernel
theorem d_MK_tryFrom_55 : decode b_MK_tryFrom 55 = .ok (.lmul, 1) := by decide +kernel
theorem d_MK_tryFrom_56 : decode b_MK_tryFrom 56 = .ok (.aload_n 0, 1) := by decide +kernel
theorem d_MK_tryFrom_57 : decode b_MK_tryFrom 57 = .ok (.getfield 28, 3) := by decide +kernel
theorem d_MK_tryFrom_60 : decode b_MK_tryFrom 60 = .ok (.getfield 55, 3) := by decide +kernel
theorem d_MK_tryFrom_63 : decode b_MK_tryFrom 63 = .ok (.iconst 2, 1) := by decide +kernel
theorem d_MK_tryFrom_64 : decode b_MK_tryFrom 64 = .ok (.iadd, 1) := by decide +kernel
theorem d_MK_tryFrom_65 : decode b_MK_tryFrom 65 = .ok (.i2l, 1) := by decide +kernel
theorem d_MK_tryFrom_66 : decode b_MK_tryFrom 66 = .ok (.lmul, 1) := by decide +kernel
theorem d_MK_tryFrom_67 : decode b_MK_tryFrom 67 = .ok (.lstore_n 2, 1) := by decide +kernel
theorem d_MK_tryFrom_68 : decode b_MK_tryFrom 68 = .ok (.lconst 0, 1) := by decide +kernel
theorem d_MK_tryFrom_69 : decode b_MK_tryFrom 69 = .ok (.lstore 4, 2) := by decide +kernel
theorem d_MK_tryFrom_71 : decode b_MK_tryFrom 71 = .ok (.lload 4, 2) := by decide +kernel
theorem d_MK_tryFrom_73 : decode b_MK_tryFrom 73 = .ok (.lload_n 2, 1) := by decide +kernel
theorem d_MK_tryFrom_74 : decode b_MK_tryFrom 74 = .ok (.lcmp, 1) := by decide +kernel
theorem d_MK_tryFrom_75 : decode b_MK_tryFrom 75 = .ok (.ifCond .ge 86, 3) := by decide +kernel
theorem d_MK_tryFrom_78 : decode b_MK_tryFrom 78 = .ok (.aload_n 0, 1) := by decide +kernel
theorem d_MK_tryFrom_79 : decode b_MK_tryFrom 79 = .ok (.getfield 86, 3) := by decide +kernel
theorem d_MK_tryFrom_82 : decode b_MK_tryFrom 82 = .ok (.ifCond .le 79, 3) := by decide +kernel
theorem d_MK_tryFrom_85 : decode b_MK_tryFrom 85 = .ok (.aload_n 0, 1) := by decide +kernel
theorem d_MK_tryFrom_86 : decode b_MK_tryFrom 86 = .ok (.getfield 70, 3) := by decide +kernel
theorem d_MK_tryFrom_89 : decode b_MK_tryFrom 89 = .ok (.ifCond .eq 10, 3) := by decide +kernel
theorem d_MK_tryFrom_92 : decode b_MK_tryFrom 92 = .ok (.aload_n 0, 1) := by decide +kernel
theorem d_MK_tryFrom_93 : decode b_MK_tryFrom 93 = .ok (.getfield 42, 3) := by decide +kernel
theorem d_MK_tryFrom_96 : decode b_MK_tryFrom 96 = .ok (.ifCond .ne 65, 3) := by decide +kernel
theorem d_MK_tryFrom_99 : decode b_MK_tryFrom 99 = .ok (.aload_n 0, 1) := by decide +kernel
theorem d_MK_tryFrom_100 : decode b_MK_tryFrom 100 = .ok (.dup, 1) := by decide +kernel
theorem d_MK_tryFrom_101 : decode b_MK_tryFrom 101 = .ok (.getfield 86, 3) := by decide +kernel
theorem d_MK_tryFrom_104 : decode b_MK_tryFrom 104 = .ok (.iconst 1, 1) := by decide +kernel
theorem d_MK_tryFrom_105 : decode b_MK_tryFrom 105 = .ok (.isub, 1) := by decide +kernel
theorem d_MK_tryFrom_106 : decode b_MK_tryFrom 106 = .ok (.putfield 86, 3) := by decide +kernel
theorem d_MK_tryFrom_109 : decode b_MK_tryFrom 109 = .ok (.aload_n 0, 1) := by decide +kernel
theorem d_MK_tryFrom_110 : decode b_MK_tryFrom 110 = .ok (.getfield 21, 3) := by decide +kernel
theorem d_MK_tryFrom_113 : decode b_MK_tryFrom 113 = .ok (.aload_n 0, 1) := by decide +kernel
theorem d_MK_tryFrom_114 : decode b_MK_tryFrom 114 = .ok (.getfield 86, 3) := by decide +kernel
theorem d_MK_tryFrom_117 : decode b_MK_tryFrom 117 = .ok (.iaload, 1) := by decide +kernel
theorem d_MK_tryFrom_118 : decode b_MK_tryFrom 118 = .ok (.istore 6, 2) := by decide +kernel
theorem d_MK_tryFrom_120 : decode b_MK_tryFrom 120 = .ok (.iload 6, 2) := by decide +kernel
theorem d_MK_tryFrom_122 : decode b_MK_tryFrom 122 = .ok (.ifCond .ge 15, 3) := by decide +kernel
theorem d_MK_tryFrom_125 : decode b_MK_tryFrom 125 = .ok (.aload_n 0, 1) := by decide +kernel
theorem d_MK_tryFrom_126 : decode b_MK_tryFrom 126 = .ok (.getfield 15, 3) := by decide +kernel
theorem d_MK_tryFrom_129 : decode b_MK_tryFrom 129 = .ok (.iload 6, 2) := by decide +kernel
theorem d_MK_tryFrom_131 : decode b_MK_tryFrom 131 = .ok (.invokestatic 97, 3) := by decide +kernel
theorem d_MK_tryFrom_134 : decode b_MK_tryFrom 134 = .ok (.goto 18, 3) := by decide +kernel
theorem d_MK_tryFrom_137 : decode b_MK_tryFrom 137 = .ok (.aload_n 0, 1) := by decide +kernel
theorem d_MK_tryFrom_138 : decode b_MK_tryFrom 138 = .ok (.iload 6, 2) := by decide +kernel
theorem d_MK_tryFrom_140 : decode b_MK_tryFrom 140 = .ok (.sipush 1023, 3) := by decide +kernel
theorem d_MK_tryFrom_143 : decode b_MK_tryFrom 143 = .ok (.iand, 1) := by decide +kernel
theorem d_MK_tryFrom_144 : decode b_MK_tryFrom 144 = .ok (.iload 6, 2) := by decide +kernel
theorem d_MK_tryFrom_146 : decode b_MK_tryFrom 146 = .ok (.bipush 10, 2) := by decide +kernel
theorem d_MK_tryFrom_148 : decode b_MK_tryFrom 148 = .ok (.ishr, 1) := by decide +kernel
theorem d_MK_tryFrom_149 : decode b_MK_tryFrom 149 = .ok (.invokevirtual 101, 3) := by decide +kernel
theorem d_MK_tryFrom_152 : decode b_MK_tryFrom 152 = .ok (.lload 4, 2) := by decide +kernel
theorem d_MK_tryFrom_154 : decode b_MK_tryFrom 154 = .ok (.lconst 1, 1) := by decide +kernel
theorem d_MK_tryFrom_155 : decode b_MK_tryFrom 155 = .ok (.ladd, 1) := by decide +kernel
theorem d_MK_tryFrom_156 : decode b_MK_tryFrom 156 = .ok (.lstore 4, 2) := by decide +kernel
theorem d_MK_tryFrom_158 : decode b_MK_tryFrom 158 = .ok (.goto (-87), 3) := by decide +kernel
theorem d_MK_tryFrom_161 : decode b_MK_tryFrom 161 = .ok (.return_, 1) := by decide +kernel
theorem d_MK_walk_0 : decode b_MK_walk 0 = .ok (.iload_n 1, 1) := by decide +kernel
theorem d_MK_walk_1 : decode b_MK_walk 1 = .ok (.istore_n 3, 1) := by decide +kernel
theorem d_MK_walk_2 : decode b_MK_walk 2 = .ok (.iload_n 2, 1) := by decide +kernel
theorem d_MK_walk_3 : decode b_MK_walk 3 = .ok (.istore 4, 2) := by decide +kernel
theorem d_MK_walk_5 : decode b_MK_walk 5 = .ok (.aload_n 0, 1) := by decide +kernel
theorem d_MK_walk_6 : decode b_MK_walk 6 = .ok (.getfield 24, 3) := by decide +kernel
theorem d_MK_walk_9 : decode b_MK_walk 9 = .ok (.getfield 46, 3) := by decide +kernel
theorem d_MK_walk_12 : decode b_MK_walk 12 = .ok (.aload_n 0, 1) := by decide +kernel
theorem d_MK_walk_13 : decode b_MK_walk 13 = .ok (.getfield 28, 3) := by decide +kernel
theorem d_MK_walk_16 : decode b_MK_walk 16 = .ok (.getfield 55, 3) := by decide +kernel
theorem d_MK_walk_19 : decode b_MK_walk 19 = .ok (.iconst 1, 1) := by decide +kernel
theorem d_MK_walk_20 : decode b_MK_walk 20 = .ok (.iadd, 1) := by decide +kernel
theorem d_MK_walk_21 : decode b_MK_walk 21 = .ok (.imul, 1) := by decide +kernel
theorem d_MK_walk_22 : decode b_MK_walk 22 = .ok (.istore 5, 2) := by decide +kernel
theorem d_MK_walk_24 : decode b_MK_walk 24 = .ok (.iconst 0, 1) := by decide +kernel
theorem d_MK_walk_25 : decode b_MK_walk 25 = .ok (.istore 6, 2) := by decide +kernel
theorem d_MK_walk_27 : decode b_MK_walk 27 = .ok (.iload 6, 2) := by decide +kernel
theorem d_MK_walk_29 : decode b_MK_walk 29 = .ok (.iload 5, 2) := by decide +kernel
theorem d_MK_walk_31 : decode b_MK_walk 31 = .ok (.if_icmp .ge 179, 3) := by decide +kernel
theorem d_MK_walk_34 : decode b_MK_walk 34 = .ok (.aload_n 0, 1) := by decide +kernel
theorem d_MK_walk_35 : decode b_MK_walk 35 = .ok (.iload_n 3, 1) := by decide +kernel
theorem d_MK_walk_36 : decode b_MK_walk 36 = .ok (.iload 4, 2) := by decide +kernel
theorem d_MK_walk_38 : decode b_MK_walk 38 = .ok (.invokevirtual 105, 3) := by decide +kernel
theorem d_MK_walk_41 : decode b_MK_walk 41 = .ok (.ifCond .eq 169, 3) := by decide +kernel
theorem d_MK_walk_44 : decode b_MK_walk 44 = .ok (.aload_n 0, 1) := by decide +kernel
theorem d_MK_walk_45 : decode b_MK_walk 45 = .ok (.getfield 24, 3) := by decide +kernel
theorem d_MK_walk_48 : decode b_MK_walk 48 = .ok (.getfield 109, 3) := by decide +kernel
theorem d_MK_walk_51 : decode b_MK_walk 51 = .ok (.iload_n 3, 1) := by decide +kernel
theorem d_MK_walk_52 : decode b_MK_walk 52 = .ok (.iaload, 1) := by decide +kernel
theorem d_MK_walk_53 : decode b_MK_walk 53 = .ok (.istore 7, 2) := by decide +kernel
theorem d_MK_walk_55 : decode b_MK_walk 55 = .ok (.aload_n 0, 1) := by decide +kernel
theorem d_MK_walk_56 : decode b_MK_walk 56 = .ok (.getfield 24, 3) := by decide +kernel
theorem d_MK_walk_59 : decode b_MK_walk 59 = .ok (.getfield 112, 3) := by decide +kernel
theorem d_MK_walk_62 : decode b_MK_walk 62 = .ok (.iload_n 3, 1) := by decide +kernel
theorem d_MK_walk_63 : decode b_MK_walk 63 = .ok (.iaload, 1) := by decide +kernel
theorem d_MK_walk_64 : decode b_MK_walk 64 = .ok (.istore 8, 2) := by decide +kernel
theorem d_MK_walk_66 : decode b_MK_walk 66 = .ok (.iload 7, 2) := by decide +kernel
theorem d_MK_walk_68 : decode b_MK_walk 68 = .ok (.iconst 2, 1) := by decide +kernel
theorem d_MK_walk_69 : decode b_MK_walk 69 = .ok (.if_icmp .gt 35, 3) := by decide +kernel
theorem d_MK_walk_72 : decode b_MK_walk 72 = .ok (.aload_n 0, 1) := by decide +kernel
theorem d_MK_walk_73 : decode b_MK_walk 73 = .ok (.getfield 24, 3) := by decide +kernel
theorem d_MK_walk_76 : decode b_MK_walk 76 = .ok (.iload_n 3, 1) := by decide +kernel
theorem d_MK_walk_77 : decode b_MK_walk 77 = .ok (.aload_n 0, 1) := by decide +kernel
theorem d_MK_walk_78 : decode b_MK_walk 78 = .ok (.getfield 28, 3) := by decide +kernel
theorem d_MK_walk_81 : decode b_MK_walk 81 = .ok (.iload 4, 2) := by decide +kernel
theorem d_MK_walk_83 : decode b_MK_walk 83 = .ok (.invokevirtual 115, 3) := by decide +kernel
theorem d_MK_walk_86 : decode b_MK_walk 86 = .ok (.istore 9, 2) := by decide +kernel
theorem d_MK_walk_88 : decode b_MK_walk 88 = .ok (.iload 9, 2) := by decide +kernel
theorem d_MK_walk_90 : decode b_MK_walk 90 = .ok (.ifCond .ne 4, 3) := by decide +kernel
theorem d_MK_walk_93 : decode b_MK_walk 93 = .ok (.return_, 1) := by decide +kernel
theorem d_MK_walk_94 : decode b_MK_walk 94 = .ok (.iload 4, 2) := by decide +kernel
theorem d_MK_walk_96 : decode b_MK_walk 96 = .ok (.iload 9, 2) := by decide +kernel
theorem d_MK_walk_98 : decode b_MK_walk 98 = .ok (.iadd, 1) := by decide +kernel
theorem d_MK_walk_99 : decode b_MK_walk 99 = .ok (.istore 4, 2) := by decide +kernel
theorem d_MK_walk_101 : decode b_MK_walk 101 = .ok (.goto 93, 3) := by decide +kernel
theorem d_MK_walk_104 : decode b_MK_walk 104 = .ok (.iload 7, 2) := by decide +kernel
theorem d_MK_walk_106 : decode b_MK_walk 106 = .ok (.bipush 6, 2) := by decide +kernel
theorem d_MK_walk_108 : decode b_MK_walk 108 = .ok (.if_icmp .ne 18, 3) := by decide +kernel
theorem d_MK_walk_111 : decode b_MK_walk 111 = .ok (.aload_n 0, 1) := by decide +kernel
theorem d_MK_walk_112 : decode b_MK_walk 112 = .ok (.iload 4, 2) := by decide +kernel
theorem d_MK_walk_114 : decode b_MK_walk 114 = .ok (.bipush 10, 2) := by decide +kernel
theorem d_MK_walk_116 : decode b_MK_walk 116 = .ok (.ishl, 1) := by decide +kernel
theorem d_MK_walk_117 : decode b_MK_walk 117 = .ok (.iload 8, 2) := by decide +kernel
theorem d_MK_walk_119 : decode b_MK_walk 119 = .ok (.ior, 1) := by decide +kernel
theorem d_MK_walk_120 : decode b_MK_walk 120 = .ok (.invokevirtual 92, 3) := by decide +kernel
theorem d_MK_walk_123 : decode b_MK_walk 123 = .ok (.goto 71, 3) := by decide +kernel
theorem d_MK_walk_126 : decode b_MK_walk 126 = .ok (.iload 7, 2) := by decide +kernel
theorem d_MK_walk_128 : decode b_MK_walk 128 = .ok (.bipush 7, 2) := by decide +kernel
theorem d_MK_walk_130 : decode b_MK_walk 130 = .ok (.if_icmp .ne 28, 3) := by decide +kernel
theorem d_MK_walk_133 : decode b_MK_walk 133 = .ok (.aload_n 0, 1) := by decide +kernel
theorem d_MK_walk_134 : decode b_MK_walk 134 = .ok (.aload_n 0, 1) := by decide +kernel
theorem d_MK_walk_135 : decode b_MK_walk 135 = .ok (.getfield 15, 3) := by decide +kernel
theorem d_MK_walk_138 : decode b_MK_walk 138 = .ok (.iload 8, 2) := by decide +kernel
theorem d_MK_walk_140 : decode b_MK_walk 140 = .ok (.invokestatic 119, 3) := by decide +kernel
theorem d_MK_walk_143 : decode b_MK_walk 143 = .ok (.invokevirtual 92, 3) := by decide +kernel
theorem d_MK_walk_146 : decode b_MK_walk 146 = .ok (.aload_n 0, 1) := by decide +kernel
theorem d_MK_walk_147 : decode b_MK_walk 147 = .ok (.getfield 15, 3) := by decide +kernel
theorem d_MK_walk_150 : decode b_MK_walk 150 = .ok (.iload 8, 2) := by decide +kernel
theorem d_MK_walk_152 : decode b_MK_walk 152 = .ok (.iload 4, 2) := by decide +kernel
theorem d_MK_walk_154 : decode b_MK_walk 154 = .ok (.iastore, 1) := by decide +kernel
theorem d_MK_walk_155 : decode b_MK_walk 155 = .ok (.goto 39, 3) := by decide +kernel
theorem d_MK_walk_158 : decode b_MK_walk 158 = .ok (.iload 7, 2) := by decide +kernel
theorem d_MK_walk_160 : decode b_MK_walk 160 = .ok (.bipush 8, 2) := by decide +kernel
theorem d_MK_walk_162 : decode b_MK_walk 162 = .ok (.if_icmp .ne 10, 3) := by decide +kernel
theorem d_MK_walk_165 : decode b_MK_walk 165 = .ok (.aload_n 0, 1) := by decide +kernel
theorem d_MK_walk_166 : decode b_MK_walk 166 = .ok (.iload 4, 2) := by decide +kernel
theorem d_MK_walk_168 : decode b_MK_walk 168 = .ok (.invokevirtual 123, 3) := by decide +kernel
theorem d_MK_walk_171 : decode b_MK_walk 171 = .ok (.return_, 1) := by decide +kernel
theorem d_MK_walk_172 : decode b_MK_walk 172 = .ok (.iload 7, 2) := by decide +kernel
theorem d_MK_walk_174 : decode b_MK_walk 174 = .ok (.bipush 9, 2) := by decide +kernel
theorem d_MK_walk_176 : decode b_MK_walk 176 = .ok (.if_icmp .eq 17, 3) := by decide +kernel
theorem d_MK_walk_179 : decode b_MK_walk 179 = .ok (.aload_n 0, 1) := by decide +kernel
theorem d_MK_walk_180 : decode b_MK_walk 180 = .ok (.getfield 28, 3) := by decide +kernel
theorem d_MK_walk_183 : decode b_MK_walk 183 = .ok (.iload 8, 2) := by decide +kernel
theorem d_MK_walk_185 : decode b_MK_walk 185 = .ok (.iload 4, 2) := by decide +kernel
theorem d_MK_walk_187 : decode b_MK_walk 187 = .ok (.invokevirtual 126, 3) := by decide +kernel
theorem d_MK_walk_190 : decode b_MK_walk 190 = .ok (.ifCond .ne 4, 3) := by decide +kernel
theorem d_MK_walk_193 : decode b_MK_walk 193 = .ok (.return_, 1) := by decide +kernel
theorem d_MK_walk_194 : decode b_MK_walk 194 = .ok (.aload_n 0, 1) := by decide +kernel
theorem d_MK_walk_195 : decode b_MK_walk 195 = .ok (.getfield 24, 3) := by decide +kernel
theorem d_MK_walk_198 : decode b_MK_walk 198 = .ok (.getfield 129, 3) := by decide +kernel
theorem d_MK_walk_201 : decode b_MK_walk 201 = .ok (.iload_n 3, 1) := by decide +kernel
theorem d_MK_walk_202 : decode b_MK_walk 202 = .ok (.iaload, 1) := by decide +kernel
theorem d_MK_walk_203 : decode b_MK_walk 203 = .ok (.istore_n 3, 1) := by decide +kernel
theorem d_MK_walk_204 : decode b_MK_walk 204 = .ok (.iinc 6 1, 3) := by decide +kernel
theorem d_MK_walk_207 : decode b_MK_walk 207 = .ok (.goto (-180), 3) := by decide +kernel
theorem d_MK_walk_210 : decode b_MK_walk 210 = .ok (.return_, 1) := by decide +kernel
