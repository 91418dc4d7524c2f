theorem d_MO_atMost_0 : decode b_MO_atMost 0 = .ok (.lload_n 0, 1) := by decide +kernel
theorem d_MO_atMost_1 : decode b_MO_atMost 1 = .ok (.ldc2_w 267, 3) := by decide +kernel
theorem d_MO_atMost_4 : decode b_MO_atMost 4 = .ok (.lcmp, 1) := by decide +kernel
theorem d_MO_atMost_5 : decode b_MO_atMost 5 = .ok (.ifCond .le 9, 3) := by decide +kernel
theorem d_MO_atMost_8 : decode b_MO_atMost 8 = .ok (.ldc2_w 267, 3) := by decide +kernel
theorem d_MO_atMost_11 : decode b_MO_atMost 11 = .ok (.goto 4, 3) := by decide +kernel
theorem d_MO_atMost_14 : decode b_MO_atMost 14 = .ok (.lload_n 0, 1) := by decide +kernel
theorem d_MO_atMost_15 : decode b_MO_atMost 15 = .ok (.lreturn, 1) := by decide +kernel
theorem d_MO_closeAll_0 : decode b_MO_closeAll 0 = .ok (.aload_n 0, 1) := by decide +kernel
theorem d_MO_closeAll_1 : decode b_MO_closeAll 1 = .ok (.invokevirtual 292, 3) := by decide +kernel
theorem d_MO_closeAll_4 : decode b_MO_closeAll 4 = .ok (.ldc2_w 295, 3) := by decide +kernel
theorem d_MO_closeAll_7 : decode b_MO_closeAll 7 = .ok (.lstore_n 1, 1) := by decide +kernel
theorem d_MO_closeAll_8 : decode b_MO_closeAll 8 = .ok (.aload_n 0, 1) := by decide +kernel
theorem d_MO_closeAll_9 : decode b_MO_closeAll 9 = .ok (.getfield 94, 3) := by decide +kernel
theorem d_MO_closeAll_12 : decode b_MO_closeAll 12 = .ok (.aload_n 0, 1) := by decide +kernel
theorem d_MO_closeAll_13 : decode b_MO_closeAll 13 = .ok (.getfield 282, 3) := by decide +kernel
theorem d_MO_closeAll_16 : decode b_MO_closeAll 16 = .ok (.iaload, 1) := by decide +kernel
theorem d_MO_closeAll_17 : decode b_MO_closeAll 17 = .ok (.istore_n 3, 1) := by decide +kernel
theorem d_MO_closeAll_18 : decode b_MO_closeAll 18 = .ok (.iload_n 3, 1) := by decide +kernel
theorem d_MO_closeAll_19 : decode b_MO_closeAll 19 = .ok (.ifCond .lt 27, 3) := by decide +kernel
theorem d_MO_closeAll_22 : decode b_MO_closeAll 22 = .ok (.lload_n 1, 1) := by decide +kernel
theorem d_MO_closeAll_23 : decode b_MO_closeAll 23 = .ok (.lconst 1, 1) := by decide +kernel
theorem d_MO_closeAll_24 : decode b_MO_closeAll 24 = .ok (.ladd, 1) := by decide +kernel
theorem d_MO_closeAll_25 : decode b_MO_closeAll 25 = .ok (.aload_n 0, 1) := by decide +kernel
theorem d_MO_closeAll_26 : decode b_MO_closeAll 26 = .ok (.getfield 68, 3) := by decide +kernel
theorem d_MO_closeAll_29 : decode b_MO_closeAll 29 = .ok (.iload_n 3, 1) := by decide +kernel
theorem d_MO_closeAll_30 : decode b_MO_closeAll 30 = .ok (.laload, 1) := by decide +kernel
theorem d_MO_closeAll_31 : decode b_MO_closeAll 31 = .ok (.ladd, 1) := by decide +kernel
theorem d_MO_closeAll_32 : decode b_MO_closeAll 32 = .ok (.invokestatic 288, 3) := by decide +kernel
theorem d_MO_closeAll_35 : decode b_MO_closeAll 35 = .ok (.lstore_n 1, 1) := by decide +kernel
theorem d_MO_closeAll_36 : decode b_MO_closeAll 36 = .ok (.aload_n 0, 1) := by decide +kernel
theorem d_MO_closeAll_37 : decode b_MO_closeAll 37 = .ok (.getfield 59, 3) := by decide +kernel
theorem d_MO_closeAll_40 : decode b_MO_closeAll 40 = .ok (.iload_n 3, 1) := by decide +kernel
theorem d_MO_closeAll_41 : decode b_MO_closeAll 41 = .ok (.iaload, 1) := by decide +kernel
theorem d_MO_closeAll_42 : decode b_MO_closeAll 42 = .ok (.istore_n 3, 1) := by decide +kernel
theorem d_MO_closeAll_43 : decode b_MO_closeAll 43 = .ok (.goto (-25), 3) := by decide +kernel
theorem d_MO_closeAll_46 : decode b_MO_closeAll 46 = .ok (.aload_n 0, 1) := by decide +kernel
theorem d_MO_closeAll_47 : decode b_MO_closeAll 47 = .ok (.iconst 5, 1) := by decide +kernel
theorem d_MO_closeAll_48 : decode b_MO_closeAll 48 = .ok (.iconst 0, 1) := by decide +kernel
theorem d_MO_closeAll_49 : decode b_MO_closeAll 49 = .ok (.lload_n 1, 1) := by decide +kernel
theorem d_MO_closeAll_50 : decode b_MO_closeAll 50 = .ok (.invokevirtual 269, 3) := by decide +kernel
theorem d_MO_closeAll_53 : decode b_MO_closeAll 53 = .ok (.istore_n 3, 1) := by decide +kernel
theorem d_MO_closeAll_54 : decode b_MO_closeAll 54 = .ok (.aload_n 0, 1) := by decide +kernel
theorem d_MO_closeAll_55 : decode b_MO_closeAll 55 = .ok (.getfield 56, 3) := by decide +kernel
theorem d_MO_closeAll_58 : decode b_MO_closeAll 58 = .ok (.iload_n 3, 1) := by decide +kernel
theorem d_MO_closeAll_59 : decode b_MO_closeAll 59 = .ok (.aload_n 0, 1) := by decide +kernel
theorem d_MO_closeAll_60 : decode b_MO_closeAll 60 = .ok (.getfield 94, 3) := by decide +kernel
theorem d_MO_closeAll_63 : decode b_MO_closeAll 63 = .ok (.aload_n 0, 1) := by decide +kernel
theorem d_MO_closeAll_64 : decode b_MO_closeAll 64 = .ok (.getfield 282, 3) := by decide +kernel
theorem d_MO_closeAll_67 : decode b_MO_closeAll 67 = .ok (.iaload, 1) := by decide +kernel
theorem d_MO_closeAll_68 : decode b_MO_closeAll 68 = .ok (.iastore, 1) := by decide +kernel
theorem d_MO_closeAll_69 : decode b_MO_closeAll 69 = .ok (.iload_n 3, 1) := by decide +kernel
theorem d_MO_closeAll_70 : decode b_MO_closeAll 70 = .ok (.ireturn, 1) := by decide +kernel
theorem d_MO_closeRow_0 : decode b_MO_closeRow 0 = .ok (.lconst 0, 1) := by decide +kernel
theorem d_MO_closeRow_1 : decode b_MO_closeRow 1 = .ok (.lstore_n 1, 1) := by decide +kernel
theorem d_MO_closeRow_2 : decode b_MO_closeRow 2 = .ok (.aload_n 0, 1) := by decide +kernel
theorem d_MO_closeRow_3 : decode b_MO_closeRow 3 = .ok (.getfield 88, 3) := by decide +kernel
theorem d_MO_closeRow_6 : decode b_MO_closeRow 6 = .ok (.aload_n 0, 1) := by decide +kernel
theorem d_MO_closeRow_7 : decode b_MO_closeRow 7 = .ok (.getfield 282, 3) := by decide +kernel
theorem d_MO_closeRow_10 : decode b_MO_closeRow 10 = .ok (.iaload, 1) := by decide +kernel
theorem d_MO_closeRow_11 : decode b_MO_closeRow 11 = .ok (.istore_n 3, 1) := by decide +kernel
theorem d_MO_closeRow_12 : decode b_MO_closeRow 12 = .ok (.iload_n 3, 1) := by decide +kernel
theorem d_MO_closeRow_13 : decode b_MO_closeRow 13 = .ok (.ifCond .lt 25, 3) := by decide +kernel
theorem d_MO_closeRow_16 : decode b_MO_closeRow 16 = .ok (.lload_n 1, 1) := by decide +kernel
theorem d_MO_closeRow_17 : decode b_MO_closeRow 17 = .ok (.aload_n 0, 1) := by decide +kernel
theorem d_MO_closeRow_18 : decode b_MO_closeRow 18 = .ok (.getfield 68, 3) := by decide +kernel
theorem d_MO_closeRow_21 : decode b_MO_closeRow 21 = .ok (.iload_n 3, 1) := by decide +kernel
theorem d_MO_closeRow_22 : decode b_MO_closeRow 22 = .ok (.laload, 1) := by decide +kernel
theorem d_MO_closeRow_23 : decode b_MO_closeRow 23 = .ok (.ladd, 1) := by decide +kernel
theorem d_MO_closeRow_24 : decode b_MO_closeRow 24 = .ok (.invokestatic 288, 3) := by decide +kernel
theorem d_MO_closeRow_27 : decode b_MO_closeRow 27 = .ok (.lstore_n 1, 1) := by decide +kernel
theorem d_MO_closeRow_28 : decode b_MO_closeRow 28 = .ok (.aload_n 0, 1) := by decide +kernel
theorem d_MO_closeRow_29 : decode b_MO_closeRow 29 = .ok (.getfield 59, 3) := by decide +kernel
theorem d_MO_closeRow_32 : decode b_MO_closeRow 32 = .ok (.iload_n 3, 1) := by decide +kernel
theorem d_MO_closeRow_33 : decode b_MO_closeRow 33 = .ok (.iaload, 1) := by decide +kernel
theorem d_MO_closeRow_34 : decode b_MO_closeRow 34 = .ok (.istore_n 3, 1) := by decide +kernel
theorem d_MO_closeRow_35 : decode b_MO_closeRow 35 = .ok (.goto (-23), 3) := by decide +kernel
theorem d_MO_closeRow_38 : decode b_MO_closeRow 38 = .ok (.aload_n 0, 1) := by decide +kernel
theorem d_MO_closeRow_39 : decode b_MO_closeRow 39 = .ok (.iconst 4, 1) := by decide +kernel
theorem d_MO_closeRow_40 : decode b_MO_closeRow 40 = .ok (.iconst 0, 1) := by decide +kernel
theorem d_MO_closeRow_41 : decode b_MO_closeRow 41 = .ok (.lload_n 1, 1) := by decide +kernel
theorem d_MO_closeRow_42 : decode b_MO_closeRow 42 = .ok (.invokevirtual 269, 3) := by decide +kernel
theorem d_MO_closeRow_45 : decode b_MO_closeRow 45 = .ok (.istore_n 3, 1) := by decide +kernel
theorem d_MO_closeRow_46 : decode b_MO_closeRow 46 = .ok (.aload_n 0, 1) := by decide +kernel
theorem d_MO_closeRow_47 : decode b_MO_closeRow 47 = .ok (.getfield 56, 3) := by decide +kernel
theorem d_MO_closeRow_50 : decode b_MO_closeRow 50 = .ok (.iload_n 3, 1) := by decide +kernel
theorem d_MO_closeRow_51 : decode b_MO_closeRow 51 = .ok (.aload_n 0, 1) := by decide +kernel
theorem d_MO_closeRow_52 : decode b_MO_closeRow 52 = .ok (.getfield 88, 3) := by decide +kernel
theorem d_MO_closeRow_55 : decode b_MO_closeRow 55 = .ok (.aload_n 0, 1) := by decide +kernel
theorem d_MO_closeRow_56 : decode b_MO_closeRow 56 = .ok (.getfield 282, 3) := by decide +kernel
theorem d_MO_closeRow_59 : decode b_MO_closeRow 59 = .ok (.iaload, 1) := by decide +kernel
theorem d_MO_closeRow_60 : decode b_MO_closeRow 60 = .ok (.iastore, 1) := by decide +kernel
theorem d_MO_closeRow_61 : decode b_MO_closeRow 61 = .ok (.aload_n 0, 1) := by decide +kernel
theorem d_MO_closeRow_62 : decode b_MO_closeRow 62 = .ok (.getfield 94, 3) := by decide +kernel
theorem d_MO_closeRow_65 : decode b_MO_closeRow 65 = .ok (.aload_n 0, 1) := by decide +kernel
theorem d_MO_closeRow_66 : decode b_MO_closeRow 66 = .ok (.getfield 282, 3) := by decide +kernel
theorem d_MO_closeRow_69 : decode b_MO_closeRow 69 = .ok (.iaload, 1) := by decide +kernel
theorem d_MO_closeRow_70 : decode b_MO_closeRow 70 = .ok (.ifCond .ge 16, 3) := by decide +kernel
theorem d_MO_closeRow_73 : decode b_MO_closeRow 73 = .ok (.aload_n 0, 1) := by decide +kernel
theorem d_MO_closeRow_74 : decode b_MO_closeRow 74 = .ok (.getfield 94, 3) := by decide +kernel
theorem d_MO_closeRow_77 : decode b_MO_closeRow 77 = .ok (.aload_n 0, 1) := by decide +kernel
theorem d_MO_closeRow_78 : decode b_MO_closeRow 78 = .ok (.getfield 282, 3) := by decide +kernel
theorem d_MO_closeRow_81 : decode b_MO_closeRow 81 = .ok (.iload_n 3, 1) := by decide +kernel
theorem d_MO_closeRow_82 : decode b_MO_closeRow 82 = .ok (.iastore, 1) := by decide +kernel
theorem d_MO_closeRow_83 : decode b_MO_closeRow 83 = .ok (.goto 18, 3) := by decide +kernel
theorem d_MO_closeRow_86 : decode b_MO_closeRow 86 = .ok (.aload_n 0, 1) := by decide +kernel
theorem d_MO_closeRow_87 : decode b_MO_closeRow 87 = .ok (.getfield 59, 3) := by decide +kernel
theorem d_MO_closeRow_90 : decode b_MO_closeRow 90 = .ok (.aload_n 0, 1) := by decide +kernel
theorem d_MO_closeRow_91 : decode b_MO_closeRow 91 = .ok (.getfield 97, 3) := by decide +kernel
theorem d_MO_closeRow_94 : decode b_MO_closeRow 94 = .ok (.aload_n 0, 1) := by decide +kernel
theorem d_MO_closeRow_95 : decode b_MO_closeRow 95 = .ok (.getfield 282, 3) := by decide +kernel
theorem d_MO_closeRow_98 : decode b_MO_closeRow 98 = .ok (.iaload, 1) := by decide +kernel
theorem d_MO_closeRow_99 : decode b_MO_closeRow 99 = .ok (.iload_n 3, 1) := by decide +kernel
theorem d_MO_closeRow_100 : decode b_MO_closeRow 100 = .ok (.iastore, 1) := by decide +kernel
theorem d_MO_closeRow_101 : decode b_MO_closeRow 101 = .ok (.aload_n 0, 1) := by decide +kernel
theorem d_MO_closeRow_102 : decode b_MO_closeRow 102 = .ok (.getfield 97, 3) := by decide +kernel
theorem d_MO_closeRow_105 : decode b_MO_closeRow 105 = .ok (.aload_n 0, 1) := by decide +kernel
theorem d_MO_closeRow_106 : decode b_MO_closeRow 106 = .ok (.getfield 282, 3) := by decide +kernel
theorem d_MO_closeRow_109 : decode b_MO_closeRow 109 = .ok (.iload_n 3, 1) := by decide +kernel
theorem d_MO_closeRow_110 : decode b_MO_closeRow 110 = .ok (.iastore, 1) := by decide +kernel
theorem d_MO_closeRow_111 : decode b_MO_closeRow 111 = .ok (.aload_n 0, 1) := by decide +kernel
theorem d_MO_closeRow_112 : decode b_MO_closeRow 112 = .ok (.invokevirtual 285, 3) := by decide +kernel
theorem d_MO_closeRow_115 : decode b_MO_closeRow 115 = .ok (.return_, 1) := by decide +kernel
theorem d_MO_node_0 : decode b_MO_node 0 = .ok (.aload_n 0, 1) := by decide +kernel
theorem d_MO_node_1 : decode b_MO_node 1 = .ok (.getfield 50, 3) := by decide +kernel
theorem d_MO_node_4 : decode b_MO_node 4 = .ok (.aload_n 0, 1) := by decide +kernel
theorem d_MO_node_5 : decode b_MO_node 5 = .ok (.getfield 264, 3) := by decide +kernel
theorem d_MO_node_8 : decode b_MO_node 8 = .ok (.iload_n 1, 1) := by decide +kernel
theorem d_MO_node_9 : decode b_MO_node 9 = .ok (.iastore, 1) := by decide +kernel
theorem d_MO_node_10 : decode b_MO_node 10 = .ok (.aload_n 0, 1) := by decide +kernel
theorem d_MO_node_11 : decode b_MO_node 11 = .ok (.getfield 53, 3) := by decide +kernel
theorem d_MO_node_14 : decode b_MO_node 14 = .ok (.aload_n 0, 1) := by decide +kernel
theorem d_MO_node_15 : decode b_MO_node 15 = .ok (.getfield 264, 3) := by decide +kernel
theorem d_MO_node_18 : decode b_MO_node 18 = .ok (.iload_n 2, 1) := by decide +kernel
theorem d_MO_node_19 : decode b_MO_node 19 = .ok (.iastore, 1) := by decide +kernel
theorem d_MO_node_20 : decode b_MO_node 20 = .ok (.aload_n 0, 1) := by decide +kernel
theorem d_MO_node_21 : decode b_MO_node 21 = .ok (.getfield 56, 3) := by decide +kernel
theorem d_MO_node_24 : decode b_MO_node 24 = .ok (.aload_n 0, 1) := by decide +kernel
theorem d_MO_node_25 : decode b_MO_node 25 = .ok (.getfield 264, 3) := by decide +kernel
theorem d_MO_node_28 : decode b_MO_node 28 = .ok (.iconst (-1), 1) := by decide +kernel
theorem d_MO_node_29 : decode b_MO_node 29 = .ok (.iastore, 1) := by decide +kernel
theorem d_MO_node_30 : decode b_MO_node 30 = .ok (.aload_n 0, 1) := by decide +kernel
theorem d_MO_node_31 : decode b_MO_node 31 = .ok (.getfield 59, 3) := by decide +kernel
theorem d_MO_node_34 : decode b_MO_node 34 = .ok (.aload_n 0, 1) := by decide +kernel
theorem d_MO_node_35 : decode b_MO_node 35 = .ok (.getfield 264, 3) := by decide +kernel
theorem d_MO_node_38 : decode b_MO_node 38 = .ok (.iconst (-1), 1) := by decide +kernel
theorem d_MO_node_39 : decode b_MO_node 39 = .ok (.iastore, 1) := by decide +kernel
theorem d_MO_node_40 : decode b_MO_node 40 = .ok (.aload_n 0, 1) := by decide +kernel
theorem d_MO_node_41 : decode b_MO_node 41 = .ok (.getfield 68, 3) := by decide +kernel
theorem d_MO_node_44 : decode b_MO_node 44 = .ok (.aload_n 0, 1) := by decide +kernel
theorem d_MO_node_45 : decode b_MO_node 45 = .ok (.getfield 264, 3) := by decide +kernel
theorem d_MO_node_48 : decode b_MO_node 48 = .ok (.lload_n 3, 1) := by decide +kernel
theorem d_MO_node_49 : decode b_MO_node 49 = .ok (.lastore, 1) := by decide +kernel
theorem d_MO_node_50 : decode b_MO_node 50 = .ok (.aload_n 0, 1) := by decide +kernel
theorem d_MO_node_51 : decode b_MO_node 51 = .ok (.dup, 1) := by decide +kernel
theorem d_MO_node_52 : decode b_MO_node 52 = .ok (.getfield 264, 3) := by decide +kernel
theorem d_MO_node_55 : decode b_MO_node 55 = .ok (.iconst 1, 1) := by decide +kernel
theorem d_MO_node_56 : decode b_MO_node 56 = .ok (.iadd, 1) := by decide +kernel
theorem d_MO_node_57 : decode b_MO_node 57 = .ok (.putfield 264, 3) := by decide +kernel
theorem d_MO_node_60 : decode b_MO_node 60 = .ok (.aload_n 0, 1) := by decide +kernel
theorem d_MO_node_61 : decode b_MO_node 61 = .ok (.getfield 264, 3) := by decide +kernel
theorem d_MO_node_64 : decode b_MO_node 64 = .ok (.iconst 1, 1) := by decide +kernel
theorem d_MO_node_65 : decode b_MO_node 65 = .ok (.isub, 1) := by decide +kernel
theorem d_MO_node_66 : decode b_MO_node 66 = .ok (.ireturn, 1) := by decide +kernel
theorem d_MO_openGroup_0 : decode b_MO_openGroup 0 = .ok (.aload_n 0, 1) := by decide +kernel
theorem d_MO_openGroup_1 : decode b_MO_openGroup 1 = .ok (.getfield 79, 3) := by decide +kernel
theorem d_MO_openGroup_4 : decode b_MO_openGroup 4 = .ok (.aload_n 0, 1) := by decide +kernel
theorem d_MO_openGroup_5 : decode b_MO_openGroup 5 = .ok (.getfield 282, 3) := by decide +kernel
theorem d_MO_openGroup_8 : decode b_MO_openGroup 8 = .ok (.iload_n 1, 1) := by decide +kernel
theorem d_MO_openGroup_9 : decode b_MO_openGroup 9 = .ok (.iastore, 1) := by decide +kernel
theorem d_MO_openGroup_10 : decode b_MO_openGroup 10 = .ok (.aload_n 0, 1) := by decide +kernel
theorem d_MO_openGroup_11 : decode b_MO_openGroup 11 = .ok (.getfield 82, 3) := by decide +kernel
theorem d_MO_openGroup_14 : decode b_MO_openGroup 14 = .ok (.aload_n 0, 1) := by decide +kernel
theorem d_MO_openGroup_15 : decode b_MO_openGroup 15 = .ok (.getfield 282, 3) := by decide +kernel
theorem d_MO_openGroup_18 : decode b_MO_openGroup 18 = .ok (.iload_n 2, 1) := by decide +kernel
theorem d_MO_openGroup_19 : decode b_MO_openGroup 19 = .ok (.iastore, 1) := by decide +kernel
theorem d_MO_openGroup_20 : decode b_MO_openGroup 20 = .ok (.aload_n 0, 1) := by decide +kernel
theorem d_MO_openGroup_21 : decode b_MO_openGroup 21 = .ok (.getfield 85, 3) := by decide +kernel
theorem d_MO_openGroup_24 : decode b_MO_openGroup 24 = .ok (.aload_n 0, 1) := by decide +kernel
theorem d_MO_openGroup_25 : decode b_MO_openGroup 25 = .ok (.getfield 282, 3) := by decide +kernel
theorem d_MO_openGroup_28 : decode b_MO_openGroup 28 = .ok (.iload_n 3, 1) := by decide +kernel
theorem d_MO_openGroup_29 : decode b_MO_openGroup 29 = .ok (.iastore, 1) := by decide +kernel
theorem d_MO_openGroup_30 : decode b_MO_openGroup 30 = .ok (.aload_n 0, 1) := by decide +kernel
theorem d_MO_openGroup_31 : decode b_MO_openGroup 31 = .ok (.getfield 94, 3) := by decide +kernel
theorem d_MO_openGroup_34 : decode b_MO_openGroup 34 = .ok (.aload_n 0, 1) := by decide +kernel
theorem d_MO_openGroup_35 : decode b_MO_openGroup 35 = .ok (.getfield 282, 3) := by decide +kernel
theorem d_MO_openGroup_38 : decode b_MO_openGroup 38 = .ok (.iconst (-1), 1) := by decide +kernel
theorem d_MO_openGroup_39 : decode b_MO_openGroup 39 = .ok (.iastore, 1) := by decide +kernel
theorem d_MO_openGroup_40 : decode b_MO_openGroup 40 = .ok (.aload_n 0, 1) := by decide +kernel
theorem d_MO_openGroup_41 : decode b_MO_openGroup 41 = .ok (.invokevirtual 285, 3) := by decide +kernel
theorem d_MO_openGroup_44 : decode b_MO_openGroup 44 = .ok (.return_, 1) := by decide +kernel
theorem d_MO_openRow_0 : decode b_MO_openRow 0 = .ok (.aload_n 0, 1) := by decide +kernel
theorem d_MO_openRow_1 : decode b_MO_openRow 1 = .ok (.getfield 88, 3) := by decide +kernel
theorem d_MO_openRow_4 : decode b_MO_openRow 4 = .ok (.aload_n 0, 1) := by decide +kernel
theorem d_MO_openRow_5 : decode b_MO_openRow 5 = .ok (.getfield 282, 3) := by decide +kernel
theorem d_MO_openRow_8 : decode b_MO_openRow 8 = .ok (.iconst (-1), 1) := by decide +kernel
theorem d_MO_openRow_9 : decode b_MO_openRow 9 = .ok (.iastore, 1) := by decide +kernel
theorem d_MO_openRow_10 : decode b_MO_openRow 10 = .ok (.aload_n 0, 1) := by decide +kernel
theorem d_MO_openRow_11 : decode b_MO_openRow 11 = .ok (.getfield 100, 3) := by decide +kernel
theorem d_MO_openRow_14 : decode b_MO_openRow 14 = .ok (.aload_n 0, 1) := by decide +kernel
theorem d_MO_openRow_15 : decode b_MO_openRow 15 = .ok (.getfield 282, 3) := by decide +kernel
theorem d_MO_openRow_18 : decode b_MO_openRow 18 = .ok (.iconst 0, 1) := by decide +kernel
theorem d_MO_openRow_19 : decode b_MO_openRow 19 = .ok (.iastore, 1) := by decide +kernel
theorem d_MO_openRow_20 : decode b_MO_openRow 20 = .ok (.return_, 1) := by decide +kernel
theorem d_MO_part_0 : decode b_MO_part 0 = .ok (.aload_n 0, 1) := by decide +kernel
theorem d_MO_part_1 : decode b_MO_part 1 = .ok (.getfield 88, 3) := by decide +kernel
theorem d_MO_part_4 : decode b_MO_part 4 = .ok (.aload_n 0, 1) := by decide +kernel
theorem d_MO_part_5 : decode b_MO_part 5 = .ok (.getfield 282, 3) := by decide +kernel
theorem d_MO_part_8 : decode b_MO_part 8 = .ok (.iaload, 1) := by decide +kernel
theorem d_MO_part_9 : decode b_MO_part 9 = .ok (.ifCond .ge 16, 3) := by decide +kernel
theorem d_MO_part_12 : decode b_MO_part 12 = .ok (.aload_n 0, 1) := by decide +kernel
theorem d_MO_part_13 : decode b_MO_part 13 = .ok (.getfield 88, 3) := by decide +kernel
theorem d_MO_part_16 : decode b_MO_part 16 = .ok (.aload_n 0, 1) := by decide +kernel
theorem d_MO_part_17 : decode b_MO_part 17 = .ok (.getfield 282, 3) := by decide +kernel
theorem d_MO_part_20 : decode b_MO_part 20 = .ok (.iload_n 1, 1) := by decide +kernel
theorem d_MO_part_21 : decode b_MO_part 21 = .ok (.iastore, 1) := by decide +kernel
theorem d_MO_part_22 : decode b_MO_part 22 = .ok (.goto 18, 3) := by decide +kernel
theorem d_MO_part_25 : decode b_MO_part 25 = .ok (.aload_n 0, 1) := by decide +kernel
theorem d_MO_part_26 : decode b_MO_part 26 = .ok (.getfield 59, 3) := by decide +kernel
theorem d_MO_part_29 : decode b_MO_part 29 = .ok (.aload_n 0, 1) := by decide +kernel
theorem d_MO_part_30 : decode b_MO_part 30 = .ok (.getfield 91, 3) := by decide +kernel
theorem d_MO_part_33 : decode b_MO_part 33 = .ok (.aload_n 0, 1) := by decide +kernel
theorem d_MO_part_34 : decode b_MO_part 34 = .ok (.getfield 282, 3) := by decide +kernel
theorem d_MO_part_37 : decode b_MO_part 37 = .ok (.iaload, 1) := by decide +kernel
theorem d_MO_part_38 : decode b_MO_part 38 = .ok (.iload_n 1, 1) := by decide +kernel
theorem d_MO_part_39 : decode b_MO_part 39 = .ok (.iastore, 1) := by decide +kernel
theorem d_MO_part_40 : decode b_MO_part 40 = .ok (.aload_n 0, 1) := by decide +kernel
theorem d_MO_part_41 : decode b_MO_part 41 = .ok (.getfield 91, 3) := by decide +kernel
theorem d_MO_part_44 : decode b_MO_part 44 = .ok (.aload_n 0, 1) := by decide +kernel
theorem d_MO_part_45 : decode b_MO_part 45 = .ok (.getfield 282, 3) := by decide +kernel
theorem d_MO_part_48 : decode b_MO_part 48 = .ok (.iload_n 1, 1) := by decide +kernel
theorem d_MO_part_49 : decode b_MO_part 49 = .ok (.iastore, 1) := by decide +kernel
theorem d_MO_part_50 : decode b_MO_part 50 = .ok (.aload_n 0, 1) := by decide +kernel
theorem d_MO_part_51 : decode b_MO_part 51 = .ok (.getfield 100, 3) := by decide +kernel
theorem d_MO_part_54 : decode b_MO_part 54 = .ok (.aload_n 0, 1) := by decide +kernel
theorem d_MO_part_55 : decode b_MO_part 55 = .ok (.getfield 282, 3) := by decide +kernel
theorem d_MO_part_58 : decode b_MO_part 58 = .ok (.iload_n 2, 1) := by decide +kernel
theorem d_MO_part_59 : decode b_MO_part 59 = .ok (.iastore, 1) := by decide +kernel
theorem d_MO_part_60 : decode b_MO_part 60 = .ok (.return_, 1) := by decide +kernel
theorem d_MO_repeat_0 : decode b_MO_repeat 0 = .ok (.aload_n 0, 1) := by decide +kernel
theorem d_MO_repeat_1 : decode b_MO_repeat 1 = .ok (.getfield 91, 3) := by decide +kernel
theorem d_MO_repeat_4 : decode b_MO_repeat 4 = .ok (.aload_n 0, 1) := by decide +kernel
theorem d_MO_repeat_5 : decode b_MO_repeat 5 = .ok (.getfield 282, 3) := by decide +kernel
theorem d_MO_repeat_8 : decode b_MO_repeat 8 = .ok (.iaload, 1) := by decide +kernel
theorem d_MO_repeat_9 : decode b_MO_repeat 9 = .ok (.istore 4, 2) := by decide +kernel
theorem d_MO_repeat_11 : decode b_MO_repeat 11 = .ok (.aload_n 0, 1) := by decide +kernel
theorem d_MO_repeat_12 : decode b_MO_repeat 12 = .ok (.aload_n 0, 1) := by decide +kernel
theorem d_MO_repeat_13 : decode b_MO_repeat 13 = .ok (.getfield 50, 3) := by decide +kernel
theorem d_MO_repeat_16 : decode b_MO_repeat 16 = .ok (.iload 4, 2) := by decide +kernel
theorem d_MO_repeat_18 : decode b_MO_repeat 18 = .ok (.iaload, 1) := by decide +kernel
theorem d_MO_repeat_19 : decode b_MO_repeat 19 = .ok (.aload_n 0, 1) := by decide +kernel
theorem d_MO_repeat_20 : decode b_MO_repeat 20 = .ok (.getfield 53, 3) := by decide +kernel
theorem d_MO_repeat_23 : decode b_MO_repeat 23 = .ok (.iload 4, 2) := by decide +kernel
theorem d_MO_repeat_25 : decode b_MO_repeat 25 = .ok (.iaload, 1) := by decide +kernel
theorem d_MO_repeat_26 : decode b_MO_repeat 26 = .ok (.aload_n 0, 1) := by decide +kernel
theorem d_MO_repeat_27 : decode b_MO_repeat 27 = .ok (.getfield 68, 3) := by decide +kernel
theorem d_MO_repeat_30 : decode b_MO_repeat 30 = .ok (.iload 4, 2) := by decide +kernel
theorem d_MO_repeat_32 : decode b_MO_repeat 32 = .ok (.laload, 1) := by decide +kernel
theorem d_MO_repeat_33 : decode b_MO_repeat 33 = .ok (.invokevirtual 269, 3) := by decide +kernel
theorem d_MO_repeat_36 : decode b_MO_repeat 36 = .ok (.istore 5, 2) := by decide +kernel
theorem d_MO_repeat_38 : decode b_MO_repeat 38 = .ok (.aload_n 0, 1) := by decide +kernel
theorem d_MO_repeat_39 : decode b_MO_repeat 39 = .ok (.getfield 56, 3) := by decide +kernel
theorem d_MO_repeat_42 : decode b_MO_repeat 42 = .ok (.iload 5, 2) := by decide +kernel
theorem d_MO_repeat_44 : decode b_MO_repeat 44 = .ok (.aload_n 0, 1) := by decide +kernel
theorem d_MO_repeat_45 : decode b_MO_repeat 45 = .ok (.getfield 56, 3) := by decide +kernel
theorem d_MO_repeat_48 : decode b_MO_repeat 48 = .ok (.iload 4, 2) := by decide +kernel
theorem d_MO_repeat_50 : decode b_MO_repeat 50 = .ok (.iaload, 1) := by decide +kernel
theorem d_MO_repeat_51 : decode b_MO_repeat 51 = .ok (.iastore, 1) := by decide +kernel
theorem d_MO_repeat_52 : decode b_MO_repeat 52 = .ok (.aload_n 0, 1) := by decide +kernel
theorem d_MO_repeat_53 : decode b_MO_repeat 53 = .ok (.getfield 62, 3) := by decide +kernel
theorem d_MO_repeat_56 : decode b_MO_repeat 56 = .ok (.iload 5, 2) := by decide +kernel
theorem d_MO_repeat_58 : decode b_MO_repeat 58 = .ok (.aload_n 0, 1) := by decide +kernel
theorem d_MO_repeat_59 : decode b_MO_repeat 59 = .ok (.getfield 62, 3) := by decide +kernel
theorem d_MO_repeat_62 : decode b_MO_repeat 62 = .ok (.iload 4, 2) := by decide +kernel
theorem d_MO_repeat_64 : decode b_MO_repeat 64 = .ok (.iaload, 1) := by decide +kernel
theorem d_MO_repeat_65 : decode b_MO_repeat 65 = .ok (.iastore, 1) := by decide +kernel
theorem d_MO_repeat_66 : decode b_MO_repeat 66 = .ok (.aload_n 0, 1) := by decide +kernel
theorem d_MO_repeat_67 : decode b_MO_repeat 67 = .ok (.getfield 65, 3) := by decide +kernel
theorem d_MO_repeat_70 : decode b_MO_repeat 70 = .ok (.iload 5, 2) := by decide +kernel
theorem d_MO_repeat_72 : decode b_MO_repeat 72 = .ok (.aload_n 0, 1) := by decide +kernel
theorem d_MO_repeat_73 : decode b_MO_repeat 73 = .ok (.getfield 65, 3) := by decide +kernel
theorem d_MO_repeat_76 : decode b_MO_repeat 76 = .ok (.iload 4, 2) := by decide +kernel
theorem d_MO_repeat_78 : decode b_MO_repeat 78 = .ok (.iaload, 1) := by decide +kernel
theorem d_MO_repeat_79 : decode b_MO_repeat 79 = .ok (.iastore, 1) := by decide +kernel
theorem d_MO_repeat_80 : decode b_MO_repeat 80 = .ok (.aload_n 0, 1) := by decide +kernel
theorem d_MO_repeat_81 : decode b_MO_repeat 81 = .ok (.getfield 72, 3) := by decide +kernel
theorem d_MO_repeat_84 : decode b_MO_repeat 84 = .ok (.iload 5, 2) := by decide +kernel
theorem d_MO_repeat_86 : decode b_MO_repeat 86 = .ok (.aload_n 0, 1) := by decide +kernel
theorem d_MO_repeat_87 : decode b_MO_repeat 87 = .ok (.getfield 72, 3) := by decide +kernel
theorem d_MO_repeat_90 : decode b_MO_repeat 90 = .ok (.iload 4, 2) := by decide +kernel
theorem d_MO_repeat_92 : decode b_MO_repeat 92 = .ok (.baload, 1) := by decide +kernel
theorem d_MO_repeat_93 : decode b_MO_repeat 93 = .ok (.bastore, 1) := by decide +kernel
theorem d_MO_repeat_94 : decode b_MO_repeat 94 = .ok (.aload_n 0, 1) := by decide +kernel
theorem d_MO_repeat_95 : decode b_MO_repeat 95 = .ok (.getfield 68, 3) := by decide +kernel
theorem d_MO_repeat_98 : decode b_MO_repeat 98 = .ok (.iload 4, 2) := by decide +kernel
theorem d_MO_repeat_100 : decode b_MO_repeat 100 = .ok (.laload, 1) := by decide +kernel
theorem d_MO_repeat_101 : decode b_MO_repeat 101 = .ok (.lstore 6, 2) := by decide +kernel
theorem d_MO_repeat_103 : decode b_MO_repeat 103 = .ok (.aload_n 0, 1) := by decide +kernel
theorem d_MO_repeat_104 : decode b_MO_repeat 104 = .ok (.getfield 50, 3) := by decide +kernel
theorem d_MO_repeat_107 : decode b_MO_repeat 107 = .ok (.iload 4, 2) := by decide +kernel
theorem d_MO_repeat_109 : decode b_MO_repeat 109 = .ok (.bipush 7, 2) := by decide +kernel
theorem d_MO_repeat_111 : decode b_MO_repeat 111 = .ok (.iastore, 1) := by decide +kernel
theorem d_MO_repeat_112 : decode b_MO_repeat 112 = .ok (.aload_n 0, 1) := by decide +kernel
theorem d_MO_repeat_113 : decode b_MO_repeat 113 = .ok (.getfield 56, 3) := by decide +kernel
theorem d_MO_repeat_116 : decode b_MO_repeat 116 = .ok (.iload 4, 2) := by decide +kernel
theorem d_MO_repeat_118 : decode b_MO_repeat 118 = .ok (.iload 5, 2) := by decide +kernel
theorem d_MO_repeat_120 : decode b_MO_repeat 120 = .ok (.iastore, 1) := by decide +kernel
theorem d_MO_repeat_121 : decode b_MO_repeat 121 = .ok (.aload_n 0, 1) := by decide +kernel
theorem d_MO_repeat_122 : decode b_MO_repeat 122 = .ok (.getfield 68, 3) := by decide +kernel
theorem d_MO_repeat_125 : decode b_MO_repeat 125 = .ok (.iload 4, 2) := by decide +kernel
theorem d_MO_repeat_127 : decode b_MO_repeat 127 = .ok (.iload_n 2, 1) := by decide +kernel
theorem d_MO_repeat_128 : decode b_MO_repeat 128 = .ok (.ifCond .ge 27, 3) := by decide +kernel
theorem d_MO_repeat_131 : decode b_MO_repeat 131 = .ok (.iload_n 1, 1) := by decide +kernel
theorem d_MO_repeat_132 : decode b_MO_repeat 132 = .ok (.ifCond .ne 10, 3) := by decide +kernel
theorem d_MO_repeat_135 : decode b_MO_repeat 135 = .ok (.lload 6, 2) := by decide +kernel
theorem d_MO_repeat_137 : decode b_MO_repeat 137 = .ok (.lconst 1, 1) := by decide +kernel
theorem d_MO_repeat_138 : decode b_MO_repeat 138 = .ok (.ladd, 1) := by decide +kernel
theorem d_MO_repeat_139 : decode b_MO_repeat 139 = .ok (.goto 27, 3) := by decide +kernel
theorem d_MO_repeat_142 : decode b_MO_repeat 142 = .ok (.iload_n 1, 1) := by decide +kernel
theorem d_MO_repeat_143 : decode b_MO_repeat 143 = .ok (.i2l, 1) := by decide +kernel
theorem d_MO_repeat_144 : decode b_MO_repeat 144 = .ok (.lload 6, 2) := by decide +kernel
theorem d_MO_repeat_146 : decode b_MO_repeat 146 = .ok (.lmul, 1) := by decide +kernel
theorem d_MO_repeat_147 : decode b_MO_repeat 147 = .ok (.lload 6, 2) := by decide +kernel
theorem d_MO_repeat_149 : decode b_MO_repeat 149 = .ok (.ladd, 1) := by decide +kernel
theorem d_MO_repeat_150 : decode b_MO_repeat 150 = .ok (.lconst 1, 1) := by decide +kernel
theorem d_MO_repeat_151 : decode b_MO_repeat 151 = .ok (.ladd, 1) := by decide +kernel
theorem d_MO_repeat_152 : decode b_MO_repeat 152 = .ok (.goto 14, 3) := by decide +kernel
theorem d_MO_repeat_155 : decode b_MO_repeat 155 = .ok (.iload_n 2, 1) := by decide +kernel
theorem d_MO_repeat_156 : decode b_MO_repeat 156 = .ok (.i2l, 1) := by decide +kernel
theorem d_MO_repeat_157 : decode b_MO_repeat 157 = .ok (.lload 6, 2) := by decide +kernel
theorem d_MO_repeat_159 : decode b_MO_repeat 159 = .ok (.lmul, 1) := by decide +kernel
theorem d_MO_repeat_160 : decode b_MO_repeat 160 = .ok (.iload_n 2, 1) := by decide +kernel
theorem d_MO_repeat_161 : decode b_MO_repeat 161 = .ok (.i2l, 1) := by decide +kernel
theorem d_MO_repeat_162 : decode b_MO_repeat 162 = .ok (.ladd, 1) := by decide +kernel
theorem d_MO_repeat_163 : decode b_MO_repeat 163 = .ok (.iload_n 1, 1) := by decide +kernel
theorem d_MO_repeat_164 : decode b_MO_repeat 164 = .ok (.i2l, 1) := by decide +kernel
theorem d_MO_repeat_165 : decode b_MO_repeat 165 = .ok (.lsub, 1) := by decide +kernel
theorem d_MO_repeat_166 : decode b_MO_repeat 166 = .ok (.invokestatic 288, 3) := by decide +kernel
theorem d_MO_repeat_169 : decode b_MO_repeat 169 = .ok (.lastore, 1) := by decide +kernel
theorem d_MO_repeat_170 : decode b_MO_repeat 170 = .ok (.aload_n 0, 1) := by decide +kernel
theorem d_MO_repeat_171 : decode b_MO_repeat 171 = .ok (.getfield 62, 3) := by decide +kernel
theorem d_MO_repeat_174 : decode b_MO_repeat 174 = .ok (.iload 4, 2) := by decide +kernel
theorem d_MO_repeat_176 : decode b_MO_repeat 176 = .ok (.iload_n 1, 1) := by decide +kernel
theorem d_MO_repeat_177 : decode b_MO_repeat 177 = .ok (.iastore, 1) := by decide +kernel
theorem d_MO_repeat_178 : decode b_MO_repeat 178 = .ok (.aload_n 0, 1) := by decide +kernel
theorem d_MO_repeat_179 : decode b_MO_repeat 179 = .ok (.getfield 65, 3) := by decide +kernel
theorem d_MO_repeat_182 : decode b_MO_repeat 182 = .ok (.iload 4, 2) := by decide +kernel
theorem d_MO_repeat_184 : decode b_MO_repeat 184 = .ok (.iload_n 2, 1) := by decide +kernel
theorem d_MO_repeat_185 : decode b_MO_repeat 185 = .ok (.iastore, 1) := by decide +kernel
theorem d_MO_repeat_186 : decode b_MO_repeat 186 = .ok (.aload_n 0, 1) := by decide +kernel
theorem d_MO_repeat_187 : decode b_MO_repeat 187 = .ok (.getfield 72, 3) := by decide +kernel
theorem d_MO_repeat_190 : decode b_MO_repeat 190 = .ok (.iload 4, 2) := by decide +kernel
theorem d_MO_repeat_192 : decode b_MO_repeat 192 = .ok (.iload_n 3, 1) := by decide +kernel
theorem d_MO_repeat_193 : decode b_MO_repeat 193 = .ok (.bastore, 1) := by decide +kernel
theorem d_MO_repeat_194 : decode b_MO_repeat 194 = .ok (.aload_n 0, 1) := by decide +kernel
theorem d_MO_repeat_195 : decode b_MO_repeat 195 = .ok (.getfield 100, 3) := by decide +kernel
theorem d_MO_repeat_198 : decode b_MO_repeat 198 = .ok (.aload_n 0, 1) := by decide +kernel
theorem d_MO_repeat_199 : decode b_MO_repeat 199 = .ok (.getfield 282, 3) := by decide +kernel
theorem d_MO_repeat_202 : decode b_MO_repeat 202 = .ok (.iconst 2, 1) := by decide +kernel
theorem d_MO_repeat_203 : decode b_MO_repeat 203 = .ok (.iastore, 1) := by decide +kernel
theorem d_MO_repeat_204 : decode b_MO_repeat 204 = .ok (.return_, 1) := by decide +kernel
theorem d_MO_setNode_0 : decode b_MO_setNode 0 = .ok (.aload_n 0, 1) := by decide +kernel
theorem d_MO_setNode_1 : decode b_MO_setNode 1 = .ok (.iconst 1, 1) := by decide +kernel
theorem d_MO_setNode_2 : decode b_MO_setNode 2 = .ok (.iload_n 1, 1) := by decide +kernel
theorem d_MO_setNode_3 : decode b_MO_setNode 3 = .ok (.iload_n 2, 1) := by decide +kernel
theorem d_MO_setNode_4 : decode b_MO_setNode 4 = .ok (.ifCond .eq 7, 3) := by decide +kernel
theorem d_MO_setNode_7 : decode b_MO_setNode 7 = .ok (.lconst 1, 1) := by decide +kernel
theorem d_MO_setNode_8 : decode b_MO_setNode 8 = .ok (.goto 14, 3) := by decide +kernel
theorem d_MO_setNode_11 : decode b_MO_setNode 11 = .ok (.iconst 2, 1) := by decide +kernel
theorem d_MO_setNode_12 : decode b_MO_setNode 12 = .ok (.iconst 4, 1) := by decide +kernel
theorem d_MO_setNode_13 : decode b_MO_setNode 13 = .ok (.aload_n 0, 1) := by decide +kernel
theorem d_MO_setNode_14 : decode b_MO_setNode 14 = .ok (.getfield 37, 3) := by decide +kernel
theorem d_MO_setNode_17 : decode b_MO_setNode 17 = .ok (.iload_n 1, 1) := by decide +kernel
theorem d_MO_setNode_18 : decode b_MO_setNode 18 = .ok (.iaload, 1) := by decide +kernel
theorem d_MO_setNode_19 : decode b_MO_setNode 19 = .ok (.imul, 1) := by decide +kernel
theorem d_MO_setNode_20 : decode b_MO_setNode 20 = .ok (.iadd, 1) := by decide +kernel
theorem d_MO_setNode_21 : decode b_MO_setNode 21 = .ok (.i2l, 1) := by decide +kernel
theorem d_MO_setNode_22 : decode b_MO_setNode 22 = .ok (.invokevirtual 269, 3) := by decide +kernel
theorem d_MO_setNode_25 : decode b_MO_setNode 25 = .ok (.ireturn, 1) := by decide +kernel
