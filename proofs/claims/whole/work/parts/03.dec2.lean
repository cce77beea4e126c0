theorem d_L_fewestTrees_21 : decode b_L_fewestTrees 21 = .ok (.iload_n 3, 1) := by decide +kernel
theorem d_L_fewestTrees_22 : decode b_L_fewestTrees 22 = .ok (.iconst 2, 1) := by decide +kernel
theorem d_L_fewestTrees_23 : decode b_L_fewestTrees 23 = .ok (.idiv, 1) := by decide +kernel
theorem d_L_fewestTrees_24 : decode b_L_fewestTrees 24 = .ok (.istore_n 3, 1) := by decide +kernel
theorem d_L_fewestTrees_25 : decode b_L_fewestTrees 25 = .ok (.goto (-18), 3) := by decide +kernel
theorem d_L_fewestTrees_28 : decode b_L_fewestTrees 28 = .ok (.iload_n 1, 1) := by decide +kernel
theorem d_L_fewestTrees_29 : decode b_L_fewestTrees 29 = .ok (.ireturn, 1) := by decide +kernel
theorem d_IN_bitCount_0 : decode b_IN_bitCount 0 = .ok (.iload_n 0, 1) := by decide +kernel
theorem d_IN_bitCount_1 : decode b_IN_bitCount 1 = .ok (.iload_n 0, 1) := by decide +kernel
theorem d_IN_bitCount_2 : decode b_IN_bitCount 2 = .ok (.iconst 1, 1) := by decide +kernel
theorem d_IN_bitCount_3 : decode b_IN_bitCount 3 = .ok (.iushr, 1) := by decide +kernel
theorem d_IN_bitCount_4 : decode b_IN_bitCount 4 = .ok (.ldc_w 265, 3) := by decide +kernel
theorem d_IN_bitCount_7 : decode b_IN_bitCount 7 = .ok (.iand, 1) := by decide +kernel
theorem d_IN_bitCount_8 : decode b_IN_bitCount 8 = .ok (.isub, 1) := by decide +kernel
theorem d_IN_bitCount_9 : decode b_IN_bitCount 9 = .ok (.istore_n 0, 1) := by decide +kernel
theorem d_IN_bitCount_10 : decode b_IN_bitCount 10 = .ok (.iload_n 0, 1) := by decide +kernel
theorem d_IN_bitCount_11 : decode b_IN_bitCount 11 = .ok (.ldc_w 266, 3) := by decide +kernel
theorem d_IN_bitCount_14 : decode b_IN_bitCount 14 = .ok (.iand, 1) := by decide +kernel
theorem d_IN_bitCount_15 : decode b_IN_bitCount 15 = .ok (.iload_n 0, 1) := by decide +kernel
theorem d_IN_bitCount_16 : decode b_IN_bitCount 16 = .ok (.iconst 2, 1) := by decide +kernel
theorem d_IN_bitCount_17 : decode b_IN_bitCount 17 = .ok (.iushr, 1) := by decide +kernel
theorem d_IN_bitCount_18 : decode b_IN_bitCount 18 = .ok (.ldc_w 266, 3) := by decide +kernel
theorem d_IN_bitCount_21 : decode b_IN_bitCount 21 = .ok (.iand, 1) := by decide +kernel
theorem d_IN_bitCount_22 : decode b_IN_bitCount 22 = .ok (.iadd, 1) := by decide +kernel
theorem d_IN_bitCount_23 : decode b_IN_bitCount 23 = .ok (.istore_n 0, 1) := by decide +kernel
theorem d_IN_bitCount_24 : decode b_IN_bitCount 24 = .ok (.iload_n 0, 1) := by decide +kernel
theorem d_IN_bitCount_25 : decode b_IN_bitCount 25 = .ok (.iload_n 0, 1) := by decide +kernel
theorem d_IN_bitCount_26 : decode b_IN_bitCount 26 = .ok (.iconst 4, 1) := by decide +kernel
theorem d_IN_bitCount_27 : decode b_IN_bitCount 27 = .ok (.iushr, 1) := by decide +kernel
theorem d_IN_bitCount_28 : decode b_IN_bitCount 28 = .ok (.iadd, 1) := by decide +kernel
theorem d_IN_bitCount_29 : decode b_IN_bitCount 29 = .ok (.ldc_w 267, 3) := by decide +kernel
theorem d_IN_bitCount_32 : decode b_IN_bitCount 32 = .ok (.iand, 1) := by decide +kernel
theorem d_IN_bitCount_33 : decode b_IN_bitCount 33 = .ok (.istore_n 0, 1) := by decide +kernel
theorem d_IN_bitCount_34 : decode b_IN_bitCount 34 = .ok (.iload_n 0, 1) := by decide +kernel
theorem d_IN_bitCount_35 : decode b_IN_bitCount 35 = .ok (.iload_n 0, 1) := by decide +kernel
theorem d_IN_bitCount_36 : decode b_IN_bitCount 36 = .ok (.bipush 8, 2) := by decide +kernel
theorem d_IN_bitCount_38 : decode b_IN_bitCount 38 = .ok (.iushr, 1) := by decide +kernel
theorem d_IN_bitCount_39 : decode b_IN_bitCount 39 = .ok (.iadd, 1) := by decide +kernel
theorem d_IN_bitCount_40 : decode b_IN_bitCount 40 = .ok (.istore_n 0, 1) := by decide +kernel
theorem d_IN_bitCount_41 : decode b_IN_bitCount 41 = .ok (.iload_n 0, 1) := by decide +kernel
theorem d_IN_bitCount_42 : decode b_IN_bitCount 42 = .ok (.iload_n 0, 1) := by decide +kernel
theorem d_IN_bitCount_43 : decode b_IN_bitCount 43 = .ok (.bipush 16, 2) := by decide +kernel
theorem d_IN_bitCount_45 : decode b_IN_bitCount 45 = .ok (.iushr, 1) := by decide +kernel
theorem d_IN_bitCount_46 : decode b_IN_bitCount 46 = .ok (.iadd, 1) := by decide +kernel
theorem d_IN_bitCount_47 : decode b_IN_bitCount 47 = .ok (.istore_n 0, 1) := by decide +kernel
theorem d_IN_bitCount_48 : decode b_IN_bitCount 48 = .ok (.iload_n 0, 1) := by decide +kernel
theorem d_IN_bitCount_49 : decode b_IN_bitCount 49 = .ok (.bipush 63, 2) := by decide +kernel
theorem d_IN_bitCount_51 : decode b_IN_bitCount 51 = .ok (.iand, 1) := by decide +kernel
theorem d_IN_bitCount_52 : decode b_IN_bitCount 52 = .ok (.ireturn, 1) := by decide +kernel
theorem d_W_kind_0 : decode b_W_kind 0 = .ok (.aload_n 2, 1) := by decide +kernel
theorem d_W_kind_1 : decode b_W_kind 1 = .ok (.iconst 0, 1) := by decide +kernel
theorem d_W_kind_2 : decode b_W_kind 2 = .ok (.aload_n 0, 1) := by decide +kernel
theorem d_W_kind_3 : decode b_W_kind 3 = .ok (.iload_n 1, 1) := by decide +kernel
theorem d_W_kind_4 : decode b_W_kind 4 = .ok (.invokevirtual 53, 3) := by decide +kernel
theorem d_W_kind_7 : decode b_W_kind 7 = .ok (.i2l, 1) := by decide +kernel
theorem d_W_kind_8 : decode b_W_kind 8 = .ok (.lastore, 1) := by decide +kernel
theorem d_W_kind_9 : decode b_W_kind 9 = .ok (.goto 6, 3) := by decide +kernel
theorem d_W_kind_12 : decode b_W_kind 12 = .ok (.astore_n 3, 1) := by decide +kernel
theorem d_W_kind_13 : decode b_W_kind 13 = .ok (.iconst 1, 1) := by decide +kernel
theorem d_W_kind_14 : decode b_W_kind 14 = .ok (.ireturn, 1) := by decide +kernel
theorem d_W_kind_15 : decode b_W_kind 15 = .ok (.iconst 0, 1) := by decide +kernel
theorem d_W_kind_16 : decode b_W_kind 16 = .ok (.ireturn, 1) := by decide +kernel
theorem d_L_kind_0 : decode b_L_kind 0 = .ok (.aload_n 0, 1) := by decide +kernel
theorem d_L_kind_1 : decode b_L_kind 1 = .ok (.iload_n 1, 1) := by decide +kernel
theorem d_L_kind_2 : decode b_L_kind 2 = .ok (.invokevirtual 69, 3) := by decide +kernel
theorem d_L_kind_5 : decode b_L_kind 5 = .ok (.astore_n 2, 1) := by decide +kernel
theorem d_L_kind_6 : decode b_L_kind 6 = .ok (.bipush 10, 2) := by decide +kernel
theorem d_L_kind_8 : decode b_L_kind 8 = .ok (.aload_n 2, 1) := by decide +kernel
theorem d_L_kind_9 : decode b_L_kind 9 = .ok (.getfield 78, 3) := by decide +kernel
theorem d_L_kind_12 : decode b_L_kind 12 = .ok (.imul, 1) := by decide +kernel
theorem d_L_kind_13 : decode b_L_kind 13 = .ok (.aload_n 2, 1) := by decide +kernel
theorem d_L_kind_14 : decode b_L_kind 14 = .ok (.getfield 109, 3) := by decide +kernel
theorem d_L_kind_17 : decode b_L_kind 17 = .ok (.iadd, 1) := by decide +kernel
theorem d_L_kind_18 : decode b_L_kind 18 = .ok (.ireturn, 1) := by decide +kernel
theorem d_M_init_0 : decode b_M_init 0 = .ok (.aload_n 0, 1) := by decide +kernel
theorem d_M_init_1 : decode b_M_init 1 = .ok (.invokespecial 1, 3) := by decide +kernel
theorem d_M_init_4 : decode b_M_init 4 = .ok (.aload_n 0, 1) := by decide +kernel
theorem d_M_init_5 : decode b_M_init 5 = .ok (.bipush 64, 2) := by decide +kernel
theorem d_M_init_7 : decode b_M_init 7 = .ok (.newarray .int, 2) := by decide +kernel
theorem d_M_init_9 : decode b_M_init 9 = .ok (.putfield 7, 3) := by decide +kernel
theorem d_M_init_12 : decode b_M_init 12 = .ok (.aload_n 0, 1) := by decide +kernel
theorem d_M_init_13 : decode b_M_init 13 = .ok (.bipush 64, 2) := by decide +kernel
theorem d_M_init_15 : decode b_M_init 15 = .ok (.newarray .int, 2) := by decide +kernel
theorem d_M_init_17 : decode b_M_init 17 = .ok (.putfield 13, 3) := by decide +kernel
theorem d_M_init_20 : decode b_M_init 20 = .ok (.aload_n 0, 1) := by decide +kernel
theorem d_M_init_21 : decode b_M_init 21 = .ok (.bipush 64, 2) := by decide +kernel
theorem d_M_init_23 : decode b_M_init 23 = .ok (.newarray .int, 2) := by decide +kernel
theorem d_M_init_25 : decode b_M_init 25 = .ok (.putfield 16, 3) := by decide +kernel
theorem d_M_init_28 : decode b_M_init 28 = .ok (.aload_n 0, 1) := by decide +kernel
theorem d_M_init_29 : decode b_M_init 29 = .ok (.sipush 6400, 3) := by decide +kernel
theorem d_M_init_32 : decode b_M_init 32 = .ok (.newarray .int, 2) := by decide +kernel
theorem d_M_init_34 : decode b_M_init 34 = .ok (.putfield 19, 3) := by decide +kernel
theorem d_M_init_37 : decode b_M_init 37 = .ok (.aload_n 0, 1) := by decide +kernel
theorem d_M_init_38 : decode b_M_init 38 = .ok (.sipush 6400, 3) := by decide +kernel
theorem d_M_init_41 : decode b_M_init 41 = .ok (.newarray .int, 2) := by decide +kernel
theorem d_M_init_43 : decode b_M_init 43 = .ok (.putfield 22, 3) := by decide +kernel
theorem d_M_init_46 : decode b_M_init 46 = .ok (.aload_n 0, 1) := by decide +kernel
theorem d_M_init_47 : decode b_M_init 47 = .ok (.bipush 101, 2) := by decide +kernel
theorem d_M_init_49 : decode b_M_init 49 = .ok (.newarray .int, 2) := by decide +kernel
theorem d_M_init_51 : decode b_M_init 51 = .ok (.putfield 25, 3) := by decide +kernel
theorem d_M_init_54 : decode b_M_init 54 = .ok (.iconst 1, 1) := by decide +kernel
theorem d_M_init_55 : decode b_M_init 55 = .ok (.istore_n 1, 1) := by decide +kernel
theorem d_M_init_56 : decode b_M_init 56 = .ok (.iload_n 1, 1) := by decide +kernel
theorem d_M_init_57 : decode b_M_init 57 = .ok (.bipush 100, 2) := by decide +kernel
theorem d_M_init_59 : decode b_M_init 59 = .ok (.if_icmp .gt 69, 3) := by decide +kernel
theorem d_M_init_62 : decode b_M_init 62 = .ok (.aload_n 0, 1) := by decide +kernel
theorem d_M_init_63 : decode b_M_init 63 = .ok (.getfield 25, 3) := by decide +kernel
theorem d_M_init_66 : decode b_M_init 66 = .ok (.iload_n 1, 1) := by decide +kernel
theorem d_M_init_67 : decode b_M_init 67 = .ok (.iload_n 1, 1) := by decide +kernel
theorem d_M_init_68 : decode b_M_init 68 = .ok (.iastore, 1) := by decide +kernel
theorem d_M_init_69 : decode b_M_init 69 = .ok (.iconst 1, 1) := by decide +kernel
theorem d_M_init_70 : decode b_M_init 70 = .ok (.istore_n 2, 1) := by decide +kernel
theorem d_M_init_71 : decode b_M_init 71 = .ok (.iload_n 2, 1) := by decide +kernel
theorem d_M_init_72 : decode b_M_init 72 = .ok (.iload_n 1, 1) := by decide +kernel
theorem d_M_init_73 : decode b_M_init 73 = .ok (.if_icmp .gt 49, 3) := by decide +kernel
theorem d_M_init_76 : decode b_M_init 76 = .ok (.aload_n 0, 1) := by decide +kernel
theorem d_M_init_77 : decode b_M_init 77 = .ok (.getfield 25, 3) := by decide +kernel
theorem d_M_init_80 : decode b_M_init 80 = .ok (.iload_n 1, 1) := by decide +kernel
theorem d_M_init_81 : decode b_M_init 81 = .ok (.iload_n 2, 1) := by decide +kernel
theorem d_M_init_82 : decode b_M_init 82 = .ok (.isub, 1) := by decide +kernel
theorem d_M_init_83 : decode b_M_init 83 = .ok (.iaload, 1) := by decide +kernel
theorem d_M_init_84 : decode b_M_init 84 = .ok (.iconst 1, 1) := by decide +kernel
theorem d_M_init_85 : decode b_M_init 85 = .ok (.iadd, 1) := by decide +kernel
theorem d_M_init_86 : decode b_M_init 86 = .ok (.istore_n 3, 1) := by decide +kernel
theorem d_M_init_87 : decode b_M_init 87 = .ok (.aload_n 0, 1) := by decide +kernel
theorem d_M_init_88 : decode b_M_init 88 = .ok (.getfield 25, 3) := by decide +kernel
theorem d_M_init_91 : decode b_M_init 91 = .ok (.iload_n 1, 1) := by decide +kernel
theorem d_M_init_92 : decode b_M_init 92 = .ok (.iload_n 3, 1) := by decide +kernel
theorem d_M_init_93 : decode b_M_init 93 = .ok (.aload_n 0, 1) := by decide +kernel
theorem d_M_init_94 : decode b_M_init 94 = .ok (.getfield 25, 3) := by decide +kernel
theorem d_M_init_97 : decode b_M_init 97 = .ok (.iload_n 1, 1) := by decide +kernel
theorem d_M_init_98 : decode b_M_init 98 = .ok (.iaload, 1) := by decide +kernel
theorem d_M_init_99 : decode b_M_init 99 = .ok (.if_icmp .ge 7, 3) := by decide +kernel
theorem d_M_init_102 : decode b_M_init 102 = .ok (.iload_n 3, 1) := by decide +kernel
theorem d_M_init_103 : decode b_M_init 103 = .ok (.goto 9, 3) := by decide +kernel
theorem d_M_init_106 : decode b_M_init 106 = .ok (.aload_n 0, 1) := by decide +kernel
theorem d_M_init_107 : decode b_M_init 107 = .ok (.getfield 25, 3) := by decide +kernel
theorem d_M_init_110 : decode b_M_init 110 = .ok (.iload_n 1, 1) := by decide +kernel
theorem d_M_init_111 : decode b_M_init 111 = .ok (.iaload, 1) := by decide +kernel
theorem d_M_init_112 : decode b_M_init 112 = .ok (.iastore, 1) := by decide +kernel
theorem d_M_init_113 : decode b_M_init 113 = .ok (.iconst 2, 1) := by decide +kernel
theorem d_M_init_114 : decode b_M_init 114 = .ok (.iload_n 2, 1) := by decide +kernel
theorem d_M_init_115 : decode b_M_init 115 = .ok (.imul, 1) := by decide +kernel
theorem d_M_init_116 : decode b_M_init 116 = .ok (.iconst 1, 1) := by decide +kernel
theorem d_M_init_117 : decode b_M_init 117 = .ok (.iadd, 1) := by decide +kernel
theorem d_M_init_118 : decode b_M_init 118 = .ok (.istore_n 2, 1) := by decide +kernel
theorem d_M_init_119 : decode b_M_init 119 = .ok (.goto (-48), 3) := by decide +kernel
theorem d_M_init_122 : decode b_M_init 122 = .ok (.iinc 1 1, 3) := by decide +kernel
theorem d_M_init_125 : decode b_M_init 125 = .ok (.goto (-69), 3) := by decide +kernel
theorem d_M_init_128 : decode b_M_init 128 = .ok (.return_, 1) := by decide +kernel
theorem d_M_thrown_0 : decode b_M_thrown 0 = .ok (.aload_n 0, 1) := by decide +kernel
theorem d_M_thrown_1 : decode b_M_thrown 1 = .ok (.getfield 28, 3) := by decide +kernel
theorem d_M_thrown_4 : decode b_M_thrown 4 = .ok (.ireturn, 1) := by decide +kernel
theorem d_M_empty_0 : decode b_M_empty 0 = .ok (.iload_n 1, 1) := by decide +kernel
theorem d_M_empty_1 : decode b_M_empty 1 = .ok (.iconst 2, 1) := by decide +kernel
theorem d_M_empty_2 : decode b_M_empty 2 = .ok (.if_icmp .ge 7, 3) := by decide +kernel
theorem d_M_empty_5 : decode b_M_empty 5 = .ok (.iconst 2, 1) := by decide +kernel
theorem d_M_empty_6 : decode b_M_empty 6 = .ok (.goto 13, 3) := by decide +kernel
theorem d_M_empty_9 : decode b_M_empty 9 = .ok (.iload_n 1, 1) := by decide +kernel
theorem d_M_empty_10 : decode b_M_empty 10 = .ok (.iconst 4, 1) := by decide +kernel
theorem d_M_empty_11 : decode b_M_empty 11 = .ok (.if_icmp .ge 7, 3) := by decide +kernel
theorem d_M_empty_14 : decode b_M_empty 14 = .ok (.iconst 1, 1) := by decide +kernel
theorem d_M_empty_15 : decode b_M_empty 15 = .ok (.goto 4, 3) := by decide +kernel
theorem d_M_empty_18 : decode b_M_empty 18 = .ok (.iconst 0, 1) := by decide +kernel
theorem d_M_empty_19 : decode b_M_empty 19 = .ok (.istore_n 3, 1) := by decide +kernel
theorem d_M_empty_20 : decode b_M_empty 20 = .ok (.iload_n 1, 1) := by decide +kernel
theorem d_M_empty_21 : decode b_M_empty 21 = .ok (.ifCond .lt 21, 3) := by decide +kernel
theorem d_M_empty_24 : decode b_M_empty 24 = .ok (.iload_n 1, 1) := by decide +kernel
theorem d_M_empty_25 : decode b_M_empty 25 = .ok (.iconst 4, 1) := by decide +kernel
theorem d_M_empty_26 : decode b_M_empty 26 = .ok (.if_icmp .gt 16, 3) := by decide +kernel
theorem d_M_empty_29 : decode b_M_empty 29 = .ok (.iload_n 2, 1) := by decide +kernel
theorem d_M_empty_30 : decode b_M_empty 30 = .ok (.ifCond .lt 12, 3) := by decide +kernel
theorem d_M_empty_33 : decode b_M_empty 33 = .ok (.iload_n 2, 1) := by decide +kernel
theorem d_M_empty_34 : decode b_M_empty 34 = .ok (.iload_n 3, 1) := by decide +kernel
theorem d_M_empty_35 : decode b_M_empty 35 = .ok (.if_icmp .gt 7, 3) := by decide +kernel
theorem d_M_empty_38 : decode b_M_empty 38 = .ok (.iconst 1, 1) := by decide +kernel
theorem d_M_empty_39 : decode b_M_empty 39 = .ok (.goto 4, 3) := by decide +kernel
theorem d_M_empty_42 : decode b_M_empty 42 = .ok (.iconst 0, 1) := by decide +kernel
theorem d_M_empty_43 : decode b_M_empty 43 = .ok (.istore 4, 2) := by decide +kernel
theorem d_M_empty_45 : decode b_M_empty 45 = .ok (.aload_n 0, 1) := by decide +kernel
theorem d_M_empty_46 : decode b_M_empty 46 = .ok (.iload 4, 2) := by decide +kernel
theorem d_M_empty_48 : decode b_M_empty 48 = .ok (.ifCond .ne 7, 3) := by decide +kernel
theorem d_M_empty_51 : decode b_M_empty 51 = .ok (.iconst 1, 1) := by decide +kernel
theorem d_M_empty_52 : decode b_M_empty 52 = .ok (.goto 15, 3) := by decide +kernel
theorem d_M_empty_55 : decode b_M_empty 55 = .ok (.aload_n 0, 1) := by decide +kernel
theorem d_M_empty_56 : decode b_M_empty 56 = .ok (.invokevirtual 46, 3) := by decide +kernel
theorem d_M_empty_59 : decode b_M_empty 59 = .ok (.ifCond .eq 7, 3) := by decide +kernel
theorem d_M_empty_62 : decode b_M_empty 62 = .ok (.iconst 2, 1) := by decide +kernel
theorem d_M_empty_63 : decode b_M_empty 63 = .ok (.goto 4, 3) := by decide +kernel
theorem d_M_empty_66 : decode b_M_empty 66 = .ok (.iconst 0, 1) := by decide +kernel
theorem d_M_empty_67 : decode b_M_empty 67 = .ok (.invokevirtual 50, 3) := by decide +kernel
theorem d_M_empty_70 : decode b_M_empty 70 = .ok (.ifCond .eq 5, 3) := by decide +kernel
theorem d_M_empty_73 : decode b_M_empty 73 = .ok (.iconst 0, 1) := by decide +kernel
theorem d_M_empty_74 : decode b_M_empty 74 = .ok (.ireturn, 1) := by decide +kernel
theorem d_M_empty_75 : decode b_M_empty 75 = .ok (.aload_n 0, 1) := by decide +kernel
theorem d_M_empty_76 : decode b_M_empty 76 = .ok (.iload_n 1, 1) := by decide +kernel
theorem d_M_empty_77 : decode b_M_empty 77 = .ok (.iload_n 2, 1) := by decide +kernel
theorem d_M_empty_78 : decode b_M_empty 78 = .ok (.invokevirtual 53, 3) := by decide +kernel
theorem d_M_empty_81 : decode b_M_empty 81 = .ok (.ireturn, 1) := by decide +kernel
theorem d_M_isFull_0 : decode b_M_isFull 0 = .ok (.aload_n 0, 1) := by decide +kernel
theorem d_M_isFull_1 : decode b_M_isFull 1 = .ok (.getfield 32, 3) := by decide +kernel
theorem d_M_isFull_4 : decode b_M_isFull 4 = .ok (.bipush 64, 2) := by decide +kernel
theorem d_M_isFull_6 : decode b_M_isFull 6 = .ok (.if_icmp .lt 7, 3) := by decide +kernel
theorem d_M_isFull_9 : decode b_M_isFull 9 = .ok (.iconst 1, 1) := by decide +kernel
theorem d_M_isFull_10 : decode b_M_isFull 10 = .ok (.goto 4, 3) := by decide +kernel
theorem d_M_isFull_13 : decode b_M_isFull 13 = .ok (.iconst 0, 1) := by decide +kernel
theorem d_M_isFull_14 : decode b_M_isFull 14 = .ok (.ireturn, 1) := by decide +kernel
theorem d_M_throwsBy_0 : decode b_M_throwsBy 0 = .ok (.aload_n 0, 1) := by decide +kernel
theorem d_M_throwsBy_1 : decode b_M_throwsBy 1 = .ok (.iload_n 1, 1) := by decide +kernel
theorem d_M_throwsBy_2 : decode b_M_throwsBy 2 = .ok (.putfield 28, 3) := by decide +kernel
theorem d_M_throwsBy_5 : decode b_M_throwsBy 5 = .ok (.iload_n 1, 1) := by decide +kernel
theorem d_M_throwsBy_6 : decode b_M_throwsBy 6 = .ok (.ifCond .le 7, 3) := by decide +kernel
theorem d_M_throwsBy_9 : decode b_M_throwsBy 9 = .ok (.iconst 1, 1) := by decide +kernel
theorem d_M_throwsBy_10 : decode b_M_throwsBy 10 = .ok (.goto 4, 3) := by decide +kernel
theorem d_M_throwsBy_13 : decode b_M_throwsBy 13 = .ok (.iconst 0, 1) := by decide +kernel
theorem d_M_throwsBy_14 : decode b_M_throwsBy 14 = .ok (.ireturn, 1) := by decide +kernel
theorem d_M_create_0 : decode b_M_create 0 = .ok (.aload_n 0, 1) := by decide +kernel
theorem d_M_create_1 : decode b_M_create 1 = .ok (.getfield 7, 3) := by decide +kernel
theorem d_M_create_4 : decode b_M_create 4 = .ok (.aload_n 0, 1) := by decide +kernel
theorem d_M_create_5 : decode b_M_create 5 = .ok (.getfield 32, 3) := by decide +kernel
theorem d_M_create_8 : decode b_M_create 8 = .ok (.iload_n 1, 1) := by decide +kernel
theorem d_M_create_9 : decode b_M_create 9 = .ok (.iastore, 1) := by decide +kernel
theorem d_M_create_10 : decode b_M_create 10 = .ok (.aload_n 0, 1) := by decide +kernel
theorem d_M_create_11 : decode b_M_create 11 = .ok (.getfield 13, 3) := by decide +kernel
theorem d_M_create_14 : decode b_M_create 14 = .ok (.aload_n 0, 1) := by decide +kernel
theorem d_M_create_15 : decode b_M_create 15 = .ok (.getfield 32, 3) := by decide +kernel
theorem d_M_create_18 : decode b_M_create 18 = .ok (.iload_n 2, 1) := by decide +kernel
theorem d_M_create_19 : decode b_M_create 19 = .ok (.iastore, 1) := by decide +kernel
theorem d_M_create_20 : decode b_M_create 20 = .ok (.aload_n 0, 1) := by decide +kernel
theorem d_M_create_21 : decode b_M_create 21 = .ok (.getfield 16, 3) := by decide +kernel
theorem d_M_create_24 : decode b_M_create 24 = .ok (.aload_n 0, 1) := by decide +kernel
theorem d_M_create_25 : decode b_M_create 25 = .ok (.getfield 32, 3) := by decide +kernel
theorem d_M_create_28 : decode b_M_create 28 = .ok (.iconst 0, 1) := by decide +kernel
theorem d_M_create_29 : decode b_M_create 29 = .ok (.iastore, 1) := by decide +kernel
theorem d_M_create_30 : decode b_M_create 30 = .ok (.aload_n 0, 1) := by decide +kernel
theorem d_M_create_31 : decode b_M_create 31 = .ok (.aload_n 0, 1) := by decide +kernel
theorem d_M_create_32 : decode b_M_create 32 = .ok (.getfield 32, 3) := by decide +kernel
theorem d_M_create_35 : decode b_M_create 35 = .ok (.iconst 1, 1) := by decide +kernel
theorem d_M_create_36 : decode b_M_create 36 = .ok (.iadd, 1) := by decide +kernel
theorem d_M_create_37 : decode b_M_create 37 = .ok (.putfield 32, 3) := by decide +kernel
theorem d_M_create_40 : decode b_M_create 40 = .ok (.aload_n 0, 1) := by decide +kernel
theorem d_M_create_41 : decode b_M_create 41 = .ok (.getfield 32, 3) := by decide +kernel
theorem d_M_create_44 : decode b_M_create 44 = .ok (.iconst 1, 1) := by decide +kernel
theorem d_M_create_45 : decode b_M_create 45 = .ok (.isub, 1) := by decide +kernel
theorem d_M_create_46 : decode b_M_create 46 = .ok (.ireturn, 1) := by decide +kernel
theorem d_M_add_0 : decode b_M_add 0 = .ok (.aload_n 0, 1) := by decide +kernel
theorem d_M_add_1 : decode b_M_add 1 = .ok (.aload_n 0, 1) := by decide +kernel
theorem d_M_add_2 : decode b_M_add 2 = .ok (.iload_n 1, 1) := by decide +kernel
theorem d_M_add_3 : decode b_M_add 3 = .ok (.invokevirtual 57, 3) := by decide +kernel
theorem d_M_add_6 : decode b_M_add 6 = .ok (.ifCond .ne 7, 3) := by decide +kernel
theorem d_M_add_9 : decode b_M_add 9 = .ok (.iconst 1, 1) := by decide +kernel
theorem d_M_add_10 : decode b_M_add 10 = .ok (.goto 26, 3) := by decide +kernel
theorem d_M_add_13 : decode b_M_add 13 = .ok (.aload_n 0, 1) := by decide +kernel
theorem d_M_add_14 : decode b_M_add 14 = .ok (.invokevirtual 46, 3) := by decide +kernel
theorem d_M_add_17 : decode b_M_add 17 = .ok (.ifCond .ne 14, 3) := by decide +kernel
theorem d_M_add_20 : decode b_M_add 20 = .ok (.aload_n 0, 1) := by decide +kernel
theorem d_M_add_21 : decode b_M_add 21 = .ok (.getfield 16, 3) := by decide +kernel
theorem d_M_add_24 : decode b_M_add 24 = .ok (.iload_n 1, 1) := by decide +kernel
theorem d_M_add_25 : decode b_M_add 25 = .ok (.iaload, 1) := by decide +kernel
theorem d_M_add_26 : decode b_M_add 26 = .ok (.bipush 100, 2) := by decide +kernel
theorem d_M_add_28 : decode b_M_add 28 = .ok (.if_icmp .lt 7, 3) := by decide +kernel
theorem d_M_add_31 : decode b_M_add 31 = .ok (.iconst 2, 1) := by decide +kernel
theorem d_M_add_32 : decode b_M_add 32 = .ok (.goto 4, 3) := by decide +kernel
theorem d_M_add_35 : decode b_M_add 35 = .ok (.iconst 0, 1) := by decide +kernel
theorem d_M_add_36 : decode b_M_add 36 = .ok (.invokevirtual 50, 3) := by decide +kernel
theorem d_M_add_39 : decode b_M_add 39 = .ok (.ifCond .eq 5, 3) := by decide +kernel
theorem d_M_add_42 : decode b_M_add 42 = .ok (.iconst 0, 1) := by decide +kernel
theorem d_M_add_43 : decode b_M_add 43 = .ok (.ireturn, 1) := by decide +kernel
theorem d_M_add_44 : decode b_M_add 44 = .ok (.aload_n 0, 1) := by decide +kernel
theorem d_M_add_45 : decode b_M_add 45 = .ok (.aload_n 0, 1) := by decide +kernel
theorem d_M_add_46 : decode b_M_add 46 = .ok (.getfield 7, 3) := by decide +kernel
theorem d_M_add_49 : decode b_M_add 49 = .ok (.iload_n 1, 1) := by decide +kernel
theorem d_M_add_50 : decode b_M_add 50 = .ok (.iaload, 1) := by decide +kernel
theorem d_M_add_51 : decode b_M_add 51 = .ok (.aload_n 0, 1) := by decide +kernel
theorem d_M_add_52 : decode b_M_add 52 = .ok (.getfield 13, 3) := by decide +kernel
theorem d_M_add_55 : decode b_M_add 55 = .ok (.iload_n 1, 1) := by decide +kernel
theorem d_M_add_56 : decode b_M_add 56 = .ok (.iaload, 1) := by decide +kernel
theorem d_M_add_57 : decode b_M_add 57 = .ok (.invokevirtual 53, 3) := by decide +kernel
theorem d_M_add_60 : decode b_M_add 60 = .ok (.istore_n 3, 1) := by decide +kernel
theorem d_M_add_61 : decode b_M_add 61 = .ok (.aload_n 0, 1) := by decide +kernel
theorem d_M_add_62 : decode b_M_add 62 = .ok (.getfield 7, 3) := by decide +kernel
theorem d_M_add_65 : decode b_M_add 65 = .ok (.iload_n 1, 1) := by decide +kernel
theorem d_M_add_66 : decode b_M_add 66 = .ok (.iaload, 1) := by decide +kernel
theorem d_M_add_67 : decode b_M_add 67 = .ok (.iconst 1, 1) := by decide +kernel
theorem d_M_add_68 : decode b_M_add 68 = .ok (.if_icmp .ne 12, 3) := by decide +kernel
theorem d_M_add_71 : decode b_M_add 71 = .ok (.aload_n 0, 1) := by decide +kernel
theorem d_M_add_72 : decode b_M_add 72 = .ok (.iload_n 1, 1) := by decide +kernel
theorem d_M_add_73 : decode b_M_add 73 = .ok (.iload_n 2, 1) := by decide +kernel
theorem d_M_add_74 : decode b_M_add 74 = .ok (.invokevirtual 60, 3) := by decide +kernel
theorem d_M_add_77 : decode b_M_add 77 = .ok (.goto 23, 3) := by decide +kernel
theorem d_M_add_80 : decode b_M_add 80 = .ok (.aload_n 0, 1) := by decide +kernel
theorem d_M_add_81 : decode b_M_add 81 = .ok (.getfield 7, 3) := by decide +kernel
theorem d_M_add_84 : decode b_M_add 84 = .ok (.iload_n 1, 1) := by decide +kernel
theorem d_M_add_85 : decode b_M_add 85 = .ok (.iaload, 1) := by decide +kernel
theorem d_M_add_86 : decode b_M_add 86 = .ok (.iconst 2, 1) := by decide +kernel
theorem d_M_add_87 : decode b_M_add 87 = .ok (.if_icmp .ne 7, 3) := by decide +kernel
theorem d_M_add_90 : decode b_M_add 90 = .ok (.iconst 0, 1) := by decide +kernel
theorem d_M_add_91 : decode b_M_add 91 = .ok (.goto 9, 3) := by decide +kernel
theorem d_M_add_94 : decode b_M_add 94 = .ok (.aload_n 0, 1) := by decide +kernel
theorem d_M_add_95 : decode b_M_add 95 = .ok (.getfield 16, 3) := by decide +kernel
theorem d_M_add_98 : decode b_M_add 98 = .ok (.iload_n 1, 1) := by decide +kernel
theorem d_M_add_99 : decode b_M_add 99 = .ok (.iaload, 1) := by decide +kernel
theorem d_M_add_100 : decode b_M_add 100 = .ok (.istore 4, 2) := by decide +kernel
theorem d_M_add_102 : decode b_M_add 102 = .ok (.aload_n 0, 1) := by decide +kernel
theorem d_M_add_103 : decode b_M_add 103 = .ok (.iload_n 1, 1) := by decide +kernel
theorem d_M_add_104 : decode b_M_add 104 = .ok (.iconst 0, 1) := by decide +kernel
theorem d_M_add_105 : decode b_M_add 105 = .ok (.iload 4, 2) := by decide +kernel
theorem d_M_add_107 : decode b_M_add 107 = .ok (.invokevirtual 63, 3) := by decide +kernel
theorem d_M_add_110 : decode b_M_add 110 = .ok (.aload_n 0, 1) := by decide +kernel
theorem d_M_add_111 : decode b_M_add 111 = .ok (.iconst 0, 1) := by decide +kernel
theorem d_M_add_112 : decode b_M_add 112 = .ok (.iload_n 2, 1) := by decide +kernel
theorem d_M_add_113 : decode b_M_add 113 = .ok (.invokevirtual 42, 3) := by decide +kernel
theorem d_M_add_116 : decode b_M_add 116 = .ok (.aload_n 0, 1) := by decide +kernel
theorem d_M_add_117 : decode b_M_add 117 = .ok (.iload_n 1, 1) := by decide +kernel
theorem d_M_add_118 : decode b_M_add 118 = .ok (.iload 4, 2) := by decide +kernel
theorem d_M_add_120 : decode b_M_add 120 = .ok (.aload_n 0, 1) := by decide +kernel
theorem d_M_add_121 : decode b_M_add 121 = .ok (.getfield 16, 3) := by decide +kernel
theorem d_M_add_124 : decode b_M_add 124 = .ok (.iload_n 1, 1) := by decide +kernel
theorem d_M_add_125 : decode b_M_add 125 = .ok (.iaload, 1) := by decide +kernel
theorem d_M_add_126 : decode b_M_add 126 = .ok (.invokevirtual 63, 3) := by decide +kernel
theorem d_M_add_129 : decode b_M_add 129 = .ok (.iload_n 3, 1) := by decide +kernel
theorem d_M_add_130 : decode b_M_add 130 = .ok (.ireturn, 1) := by decide +kernel
theorem d_M_isRow_0 : decode b_M_isRow 0 = .ok (.aload_n 0, 1) := by decide +kernel
theorem d_M_isRow_1 : decode b_M_isRow 1 = .ok (.iload_n 1, 1) := by decide +kernel
theorem d_M_isRow_2 : decode b_M_isRow 2 = .ok (.invokevirtual 35, 3) := by decide +kernel
theorem d_M_isRow_5 : decode b_M_isRow 5 = .ok (.ifCond .eq 15, 3) := by decide +kernel
theorem d_M_isRow_8 : decode b_M_isRow 8 = .ok (.aload_n 0, 1) := by decide +kernel
theorem d_M_isRow_9 : decode b_M_isRow 9 = .ok (.iload_n 1, 1) := by decide +kernel
theorem d_M_isRow_10 : decode b_M_isRow 10 = .ok (.invokevirtual 39, 3) := by decide +kernel
theorem d_M_isRow_13 : decode b_M_isRow 13 = .ok (.ifCond .ne 7, 3) := by decide +kernel
theorem d_M_isRow_16 : decode b_M_isRow 16 = .ok (.iconst 1, 1) := by decide +kernel
theorem d_M_isRow_17 : decode b_M_isRow 17 = .ok (.goto 4, 3) := by decide +kernel
theorem d_M_isRow_20 : decode b_M_isRow 20 = .ok (.iconst 0, 1) := by decide +kernel
theorem d_M_isRow_21 : decode b_M_isRow 21 = .ok (.ireturn, 1) := by decide +kernel
theorem d_M_is_0 : decode b_M_is 0 = .ok (.iload_n 1, 1) := by decide +kernel
theorem d_M_is_1 : decode b_M_is 1 = .ok (.ifCond .lt 15, 3) := by decide +kernel
theorem d_M_is_4 : decode b_M_is 4 = .ok (.iload_n 1, 1) := by decide +kernel
theorem d_M_is_5 : decode b_M_is 5 = .ok (.aload_n 0, 1) := by decide +kernel
theorem d_M_is_6 : decode b_M_is 6 = .ok (.getfield 32, 3) := by decide +kernel
theorem d_M_is_9 : decode b_M_is 9 = .ok (.if_icmp .ge 7, 3) := by decide +kernel
theorem d_M_is_12 : decode b_M_is 12 = .ok (.iconst 1, 1) := by decide +kernel
theorem d_M_is_13 : decode b_M_is 13 = .ok (.goto 4, 3) := by decide +kernel
theorem d_M_is_16 : decode b_M_is 16 = .ok (.iconst 0, 1) := by decide +kernel
theorem d_M_is_17 : decode b_M_is 17 = .ok (.ireturn, 1) := by decide +kernel
theorem d_M_isMap_0 : decode b_M_isMap 0 = .ok (.aload_n 0, 1) := by decide +kernel
theorem d_M_isMap_1 : decode b_M_isMap 1 = .ok (.getfield 7, 3) := by decide +kernel
theorem d_M_isMap_4 : decode b_M_isMap 4 = .ok (.iload_n 1, 1) := by decide +kernel
theorem d_M_isMap_5 : decode b_M_isMap 5 = .ok (.iaload, 1) := by decide +kernel
theorem d_M_isMap_6 : decode b_M_isMap 6 = .ok (.iconst 3, 1) := by decide +kernel
theorem d_M_isMap_7 : decode b_M_isMap 7 = .ok (.if_icmp .ne 7, 3) := by decide +kernel
theorem d_M_isMap_10 : decode b_M_isMap 10 = .ok (.iconst 1, 1) := by decide +kernel
theorem d_M_isMap_11 : decode b_M_isMap 11 = .ok (.goto 4, 3) := by decide +kernel
theorem d_M_isMap_14 : decode b_M_isMap 14 = .ok (.iconst 0, 1) := by decide +kernel
theorem d_M_isMap_15 : decode b_M_isMap 15 = .ok (.ireturn, 1) := by decide +kernel
theorem d_M_below_0 : decode b_M_below 0 = .ok (.iconst 0, 1) := by decide +kernel
theorem d_M_below_1 : decode b_M_below 1 = .ok (.istore_n 3, 1) := by decide +kernel
theorem d_M_below_2 : decode b_M_below 2 = .ok (.iload_n 3, 1) := by decide +kernel
theorem d_M_below_3 : decode b_M_below 3 = .ok (.aload_n 0, 1) := by decide +kernel
theorem d_M_below_4 : decode b_M_below 4 = .ok (.getfield 16, 3) := by decide +kernel
theorem d_M_below_7 : decode b_M_below 7 = .ok (.iload_n 1, 1) := by decide +kernel
theorem d_M_below_8 : decode b_M_below 8 = .ok (.iaload, 1) := by decide +kernel
theorem d_M_below_9 : decode b_M_below 9 = .ok (.if_icmp .ge 25, 3) := by decide +kernel
theorem d_M_below_12 : decode b_M_below 12 = .ok (.aload_n 0, 1) := by decide +kernel
theorem d_M_below_13 : decode b_M_below 13 = .ok (.getfield 19, 3) := by decide +kernel
theorem d_M_below_16 : decode b_M_below 16 = .ok (.bipush 100, 2) := by decide +kernel
theorem d_M_below_18 : decode b_M_below 18 = .ok (.iload_n 1, 1) := by decide +kernel
theorem d_M_below_19 : decode b_M_below 19 = .ok (.imul, 1) := by decide +kernel
theorem d_M_below_20 : decode b_M_below 20 = .ok (.iload_n 3, 1) := by decide +kernel
theorem d_M_below_21 : decode b_M_below 21 = .ok (.iadd, 1) := by decide +kernel
theorem d_M_below_22 : decode b_M_below 22 = .ok (.iaload, 1) := by decide +kernel
theorem d_M_below_23 : decode b_M_below 23 = .ok (.iload_n 2, 1) := by decide +kernel
theorem d_M_below_24 : decode b_M_below 24 = .ok (.if_icmp .ge 10, 3) := by decide +kernel
theorem d_M_below_27 : decode b_M_below 27 = .ok (.iload_n 3, 1) := by decide +kernel
theorem d_M_below_28 : decode b_M_below 28 = .ok (.iconst 1, 1) := by decide +kernel
theorem d_M_below_29 : decode b_M_below 29 = .ok (.iadd, 1) := by decide +kernel
theorem d_M_below_30 : decode b_M_below 30 = .ok (.istore_n 3, 1) := by decide +kernel
theorem d_M_below_31 : decode b_M_below 31 = .ok (.goto (-29), 3) := by decide +kernel
theorem d_M_below_34 : decode b_M_below 34 = .ok (.iload_n 3, 1) := by decide +kernel
theorem d_M_below_35 : decode b_M_below 35 = .ok (.ireturn, 1) := by decide +kernel
theorem d_M_putAll_0 : decode b_M_putAll 0 = .ok (.iload_n 2, 1) := by decide +kernel
theorem d_M_putAll_1 : decode b_M_putAll 1 = .ok (.istore 4, 2) := by decide +kernel
theorem d_M_putAll_3 : decode b_M_putAll 3 = .ok (.iload 4, 2) := by decide +kernel
theorem d_M_putAll_5 : decode b_M_putAll 5 = .ok (.iload_n 3, 1) := by decide +kernel
theorem d_M_putAll_6 : decode b_M_putAll 6 = .ok (.if_icmp .ge 37, 3) := by decide +kernel
theorem d_M_putAll_9 : decode b_M_putAll 9 = .ok (.aload_n 0, 1) := by decide +kernel
theorem d_M_putAll_10 : decode b_M_putAll 10 = .ok (.aload_n 0, 1) := by decide +kernel
theorem d_M_putAll_11 : decode b_M_putAll 11 = .ok (.getfield 22, 3) := by decide +kernel
theorem d_M_putAll_14 : decode b_M_putAll 14 = .ok (.bipush 100, 2) := by decide +kernel
theorem d_M_putAll_16 : decode b_M_putAll 16 = .ok (.iload_n 1, 1) := by decide +kernel
theorem d_M_putAll_17 : decode b_M_putAll 17 = .ok (.imul, 1) := by decide +kernel
theorem d_M_putAll_18 : decode b_M_putAll 18 = .ok (.iload 4, 2) := by decide +kernel
theorem d_M_putAll_20 : decode b_M_putAll 20 = .ok (.iadd, 1) := by decide +kernel
theorem d_M_putAll_21 : decode b_M_putAll 21 = .ok (.iaload, 1) := by decide +kernel
theorem d_M_putAll_22 : decode b_M_putAll 22 = .ok (.aload_n 0, 1) := by decide +kernel
theorem d_M_putAll_23 : decode b_M_putAll 23 = .ok (.getfield 19, 3) := by decide +kernel
theorem d_M_putAll_26 : decode b_M_putAll 26 = .ok (.bipush 100, 2) := by decide +kernel
theorem d_M_putAll_28 : decode b_M_putAll 28 = .ok (.iload_n 1, 1) := by decide +kernel
theorem d_M_putAll_29 : decode b_M_putAll 29 = .ok (.imul, 1) := by decide +kernel
theorem d_M_putAll_30 : decode b_M_putAll 30 = .ok (.iload 4, 2) := by decide +kernel
theorem d_M_putAll_32 : decode b_M_putAll 32 = .ok (.iadd, 1) := by decide +kernel
theorem d_M_putAll_33 : decode b_M_putAll 33 = .ok (.iaload, 1) := by decide +kernel
theorem d_M_putAll_34 : decode b_M_putAll 34 = .ok (.invokevirtual 42, 3) := by decide +kernel
theorem d_M_putAll_37 : decode b_M_putAll 37 = .ok (.iinc 4 1, 3) := by decide +kernel
theorem d_M_putAll_40 : decode b_M_putAll 40 = .ok (.goto (-37), 3) := by decide +kernel
theorem d_M_putAll_43 : decode b_M_putAll 43 = .ok (.return_, 1) := by decide +kernel
theorem d_M_put_0 : decode b_M_put 0 = .ok (.aload_n 0, 1) := by decide +kernel
theorem d_M_put_1 : decode b_M_put 1 = .ok (.getfield 32, 3) := by decide +kernel
theorem d_M_put_4 : decode b_M_put 4 = .ok (.iconst 1, 1) := by decide +kernel
theorem d_M_put_5 : decode b_M_put 5 = .ok (.isub, 1) := by decide +kernel
theorem d_M_put_6 : decode b_M_put 6 = .ok (.istore_n 3, 1) := by decide +kernel
theorem d_M_put_7 : decode b_M_put 7 = .ok (.aload_n 0, 1) := by decide +kernel
theorem d_M_put_8 : decode b_M_put 8 = .ok (.getfield 19, 3) := by decide +kernel
theorem d_M_put_11 : decode b_M_put 11 = .ok (.bipush 100, 2) := by decide +kernel
theorem d_M_put_13 : decode b_M_put 13 = .ok (.iload_n 3, 1) := by decide +kernel
theorem d_M_put_14 : decode b_M_put 14 = .ok (.imul, 1) := by decide +kernel
theorem d_M_put_15 : decode b_M_put 15 = .ok (.aload_n 0, 1) := by decide +kernel
theorem d_M_put_16 : decode b_M_put 16 = .ok (.getfield 16, 3) := by decide +kernel
theorem d_M_put_19 : decode b_M_put 19 = .ok (.iload_n 3, 1) := by decide +kernel
theorem d_M_put_20 : decode b_M_put 20 = .ok (.iaload, 1) := by decide +kernel
theorem d_M_put_21 : decode b_M_put 21 = .ok (.iadd, 1) := by decide +kernel
theorem d_M_put_22 : decode b_M_put 22 = .ok (.iload_n 2, 1) := by decide +kernel
theorem d_M_put_23 : decode b_M_put 23 = .ok (.iastore, 1) := by decide +kernel
theorem d_M_put_24 : decode b_M_put 24 = .ok (.aload_n 0, 1) := by decide +kernel
theorem d_M_put_25 : decode b_M_put 25 = .ok (.getfield 22, 3) := by decide +kernel
theorem d_M_put_28 : decode b_M_put 28 = .ok (.bipush 100, 2) := by decide +kernel
theorem d_M_put_30 : decode b_M_put 30 = .ok (.iload_n 3, 1) := by decide +kernel
theorem d_M_put_31 : decode b_M_put 31 = .ok (.imul, 1) := by decide +kernel
theorem d_M_put_32 : decode b_M_put 32 = .ok (.aload_n 0, 1) := by decide +kernel
theorem d_M_put_33 : decode b_M_put 33 = .ok (.getfield 16, 3) := by decide +kernel
theorem d_M_put_36 : decode b_M_put 36 = .ok (.iload_n 3, 1) := by decide +kernel
theorem d_M_put_37 : decode b_M_put 37 = .ok (.iaload, 1) := by decide +kernel
theorem d_M_put_38 : decode b_M_put 38 = .ok (.iadd, 1) := by decide +kernel
theorem d_M_put_39 : decode b_M_put 39 = .ok (.iload_n 1, 1) := by decide +kernel
theorem d_M_put_40 : decode b_M_put 40 = .ok (.iastore, 1) := by decide +kernel
theorem d_M_put_41 : decode b_M_put 41 = .ok (.aload_n 0, 1) := by decide +kernel
theorem d_M_put_42 : decode b_M_put 42 = .ok (.getfield 16, 3) := by decide +kernel
theorem d_M_put_45 : decode b_M_put 45 = .ok (.iload_n 3, 1) := by decide +kernel
theorem d_M_put_46 : decode b_M_put 46 = .ok (.aload_n 0, 1) := by decide +kernel
theorem d_M_put_47 : decode b_M_put 47 = .ok (.getfield 16, 3) := by decide +kernel
theorem d_M_put_50 : decode b_M_put 50 = .ok (.iload_n 3, 1) := by decide +kernel
theorem d_M_put_51 : decode b_M_put 51 = .ok (.iaload, 1) := by decide +kernel
theorem d_M_put_52 : decode b_M_put 52 = .ok (.iconst 1, 1) := by decide +kernel
theorem d_M_put_53 : decode b_M_put 53 = .ok (.iadd, 1) := by decide +kernel
theorem d_M_put_54 : decode b_M_put 54 = .ok (.iastore, 1) := by decide +kernel
theorem d_M_put_55 : decode b_M_put 55 = .ok (.return_, 1) := by decide +kernel
theorem d_M_first_0 : decode b_M_first 0 = .ok (.aload_n 0, 1) := by decide +kernel
theorem d_M_first_1 : decode b_M_first 1 = .ok (.aload_n 0, 1) := by decide +kernel
theorem d_M_first_2 : decode b_M_first 2 = .ok (.iload_n 1, 1) := by decide +kernel
theorem d_M_first_3 : decode b_M_first 3 = .ok (.invokevirtual 57, 3) := by decide +kernel
theorem d_M_first_6 : decode b_M_first 6 = .ok (.ifCond .ne 7, 3) := by decide +kernel
theorem d_M_first_9 : decode b_M_first 9 = .ok (.iconst 1, 1) := by decide +kernel
theorem d_M_first_10 : decode b_M_first 10 = .ok (.goto 17, 3) := by decide +kernel
theorem d_M_first_13 : decode b_M_first 13 = .ok (.aload_n 0, 1) := by decide +kernel
theorem d_M_first_14 : decode b_M_first 14 = .ok (.getfield 16, 3) := by decide +kernel
theorem d_M_first_17 : decode b_M_first 17 = .ok (.iload_n 1, 1) := by decide +kernel
theorem d_M_first_18 : decode b_M_first 18 = .ok (.iaload, 1) := by decide +kernel
theorem d_M_first_19 : decode b_M_first 19 = .ok (.ifCond .ne 7, 3) := by decide +kernel
theorem d_M_first_22 : decode b_M_first 22 = .ok (.iconst 2, 1) := by decide +kernel
theorem d_M_first_23 : decode b_M_first 23 = .ok (.goto 4, 3) := by decide +kernel
theorem d_M_first_26 : decode b_M_first 26 = .ok (.iconst 0, 1) := by decide +kernel
theorem d_M_first_27 : decode b_M_first 27 = .ok (.invokevirtual 50, 3) := by decide +kernel
theorem d_M_first_30 : decode b_M_first 30 = .ok (.ifCond .eq 5, 3) := by decide +kernel
theorem d_M_first_33 : decode b_M_first 33 = .ok (.iconst 0, 1) := by decide +kernel
theorem d_M_first_34 : decode b_M_first 34 = .ok (.ireturn, 1) := by decide +kernel
theorem d_M_first_35 : decode b_M_first 35 = .ok (.aload_n 0, 1) := by decide +kernel
theorem d_M_first_36 : decode b_M_first 36 = .ok (.getfield 19, 3) := by decide +kernel
theorem d_M_first_39 : decode b_M_first 39 = .ok (.bipush 100, 2) := by decide +kernel
theorem d_M_first_41 : decode b_M_first 41 = .ok (.iload_n 1, 1) := by decide +kernel
theorem d_M_first_42 : decode b_M_first 42 = .ok (.imul, 1) := by decide +kernel
theorem d_M_first_43 : decode b_M_first 43 = .ok (.iaload, 1) := by decide +kernel
theorem d_M_first_44 : decode b_M_first 44 = .ok (.ireturn, 1) := by decide +kernel
theorem d_M_rest_0 : decode b_M_rest 0 = .ok (.aload_n 0, 1) := by decide +kernel
theorem d_M_rest_1 : decode b_M_rest 1 = .ok (.aload_n 0, 1) := by decide +kernel
theorem d_M_rest_2 : decode b_M_rest 2 = .ok (.iload_n 1, 1) := by decide +kernel
theorem d_M_rest_3 : decode b_M_rest 3 = .ok (.invokevirtual 57, 3) := by decide +kernel
theorem d_M_rest_6 : decode b_M_rest 6 = .ok (.ifCond .ne 7, 3) := by decide +kernel
theorem d_M_rest_9 : decode b_M_rest 9 = .ok (.iconst 1, 1) := by decide +kernel
theorem d_M_rest_10 : decode b_M_rest 10 = .ok (.goto 28, 3) := by decide +kernel
theorem d_M_rest_13 : decode b_M_rest 13 = .ok (.aload_n 0, 1) := by decide +kernel
theorem d_M_rest_14 : decode b_M_rest 14 = .ok (.invokevirtual 46, 3) := by decide +kernel
theorem d_M_rest_17 : decode b_M_rest 17 = .ok (.ifCond .eq 7, 3) := by decide +kernel
theorem d_M_rest_20 : decode b_M_rest 20 = .ok (.iconst 2, 1) := by decide +kernel
theorem d_M_rest_21 : decode b_M_rest 21 = .ok (.goto 17, 3) := by decide +kernel
theorem d_M_rest_24 : decode b_M_rest 24 = .ok (.aload_n 0, 1) := by decide +kernel
theorem d_M_rest_25 : decode b_M_rest 25 = .ok (.getfield 16, 3) := by decide +kernel
theorem d_M_rest_28 : decode b_M_rest 28 = .ok (.iload_n 1, 1) := by decide +kernel
theorem d_M_rest_29 : decode b_M_rest 29 = .ok (.iaload, 1) := by decide +kernel
theorem d_M_rest_30 : decode b_M_rest 30 = .ok (.ifCond .ne 7, 3) := by decide +kernel
theorem d_M_rest_33 : decode b_M_rest 33 = .ok (.iconst 3, 1) := by decide +kernel
theorem d_M_rest_34 : decode b_M_rest 34 = .ok (.goto 4, 3) := by decide +kernel
theorem d_M_rest_37 : decode b_M_rest 37 = .ok (.iconst 0, 1) := by decide +kernel
theorem d_M_rest_38 : decode b_M_rest 38 = .ok (.invokevirtual 50, 3) := by decide +kernel
theorem d_M_rest_41 : decode b_M_rest 41 = .ok (.ifCond .eq 5, 3) := by decide +kernel
theorem d_M_rest_44 : decode b_M_rest 44 = .ok (.iconst 0, 1) := by decide +kernel
theorem d_M_rest_45 : decode b_M_rest 45 = .ok (.ireturn, 1) := by decide +kernel
theorem d_M_rest_46 : decode b_M_rest 46 = .ok (.aload_n 0, 1) := by decide +kernel
theorem d_M_rest_47 : decode b_M_rest 47 = .ok (.aload_n 0, 1) := by decide +kernel
theorem d_M_rest_48 : decode b_M_rest 48 = .ok (.getfield 7, 3) := by decide +kernel
theorem d_M_rest_51 : decode b_M_rest 51 = .ok (.iload_n 1, 1) := by decide +kernel
theorem d_M_rest_52 : decode b_M_rest 52 = .ok (.iaload, 1) := by decide +kernel
theorem d_M_rest_53 : decode b_M_rest 53 = .ok (.aload_n 0, 1) := by decide +kernel
theorem d_M_rest_54 : decode b_M_rest 54 = .ok (.getfield 13, 3) := by decide +kernel
theorem d_M_rest_57 : decode b_M_rest 57 = .ok (.iload_n 1, 1) := by decide +kernel
theorem d_M_rest_58 : decode b_M_rest 58 = .ok (.iaload, 1) := by decide +kernel
theorem d_M_rest_59 : decode b_M_rest 59 = .ok (.invokevirtual 53, 3) := by decide +kernel
theorem d_M_rest_62 : decode b_M_rest 62 = .ok (.istore_n 2, 1) := by decide +kernel
theorem d_M_rest_63 : decode b_M_rest 63 = .ok (.aload_n 0, 1) := by decide +kernel
theorem d_M_rest_64 : decode b_M_rest 64 = .ok (.iload_n 1, 1) := by decide +kernel
theorem d_M_rest_65 : decode b_M_rest 65 = .ok (.iconst 1, 1) := by decide +kernel
theorem d_M_rest_66 : decode b_M_rest 66 = .ok (.aload_n 0, 1) := by decide +kernel
theorem d_M_rest_67 : decode b_M_rest 67 = .ok (.getfield 16, 3) := by decide +kernel
theorem d_M_rest_70 : decode b_M_rest 70 = .ok (.iload_n 1, 1) := by decide +kernel
theorem d_M_rest_71 : decode b_M_rest 71 = .ok (.iaload, 1) := by decide +kernel
theorem d_M_rest_72 : decode b_M_rest 72 = .ok (.invokevirtual 63, 3) := by decide +kernel
theorem d_M_rest_75 : decode b_M_rest 75 = .ok (.iload_n 2, 1) := by decide +kernel
theorem d_M_rest_76 : decode b_M_rest 76 = .ok (.ireturn, 1) := by decide +kernel
theorem d_M_join_0 : decode b_M_join 0 = .ok (.aload_n 0, 1) := by decide +kernel
theorem d_M_join_1 : decode b_M_join 1 = .ok (.iload_n 1, 1) := by decide +kernel
theorem d_M_join_2 : decode b_M_join 2 = .ok (.invokevirtual 35, 3) := by decide +kernel
theorem d_M_join_5 : decode b_M_join 5 = .ok (.ifCond .eq 65, 3) := by decide +kernel
theorem d_M_join_8 : decode b_M_join 8 = .ok (.aload_n 0, 1) := by decide +kernel
theorem d_M_join_9 : decode b_M_join 9 = .ok (.iload_n 2, 1) := by decide +kernel
theorem d_M_join_10 : decode b_M_join 10 = .ok (.invokevirtual 35, 3) := by decide +kernel
theorem d_M_join_13 : decode b_M_join 13 = .ok (.ifCond .eq 57, 3) := by decide +kernel
theorem d_M_join_16 : decode b_M_join 16 = .ok (.aload_n 0, 1) := by decide +kernel
theorem d_M_join_17 : decode b_M_join 17 = .ok (.getfield 7, 3) := by decide +kernel
theorem d_M_join_20 : decode b_M_join 20 = .ok (.iload_n 1, 1) := by decide +kernel
theorem d_M_join_21 : decode b_M_join 21 = .ok (.iaload, 1) := by decide +kernel
theorem d_M_join_22 : decode b_M_join 22 = .ok (.iconst 1, 1) := by decide +kernel
theorem d_M_join_23 : decode b_M_join 23 = .ok (.if_icmp .eq 13, 3) := by decide +kernel
theorem d_M_join_26 : decode b_M_join 26 = .ok (.aload_n 0, 1) := by decide +kernel
theorem d_M_join_27 : decode b_M_join 27 = .ok (.getfield 7, 3) := by decide +kernel
theorem d_M_join_30 : decode b_M_join 30 = .ok (.iload_n 1, 1) := by decide +kernel
theorem d_M_join_31 : decode b_M_join 31 = .ok (.iaload, 1) := by decide +kernel
theorem d_M_join_32 : decode b_M_join 32 = .ok (.iconst 4, 1) := by decide +kernel
theorem d_M_join_33 : decode b_M_join 33 = .ok (.if_icmp .ne 37, 3) := by decide +kernel
theorem d_M_join_36 : decode b_M_join 36 = .ok (.aload_n 0, 1) := by decide +kernel
theorem d_M_join_37 : decode b_M_join 37 = .ok (.getfield 7, 3) := by decide +kernel
theorem d_M_join_40 : decode b_M_join 40 = .ok (.iload_n 1, 1) := by decide +kernel
theorem d_M_join_41 : decode b_M_join 41 = .ok (.iaload, 1) := by decide +kernel
theorem d_M_join_42 : decode b_M_join 42 = .ok (.aload_n 0, 1) := by decide +kernel
theorem d_M_join_43 : decode b_M_join 43 = .ok (.getfield 7, 3) := by decide +kernel
theorem d_M_join_46 : decode b_M_join 46 = .ok (.iload_n 2, 1) := by decide +kernel
theorem d_M_join_47 : decode b_M_join 47 = .ok (.iaload, 1) := by decide +kernel
theorem d_M_join_48 : decode b_M_join 48 = .ok (.if_icmp .ne 22, 3) := by decide +kernel
theorem d_M_join_51 : decode b_M_join 51 = .ok (.aload_n 0, 1) := by decide +kernel
theorem d_M_join_52 : decode b_M_join 52 = .ok (.getfield 13, 3) := by decide +kernel
theorem d_M_join_55 : decode b_M_join 55 = .ok (.iload_n 1, 1) := by decide +kernel
theorem d_M_join_56 : decode b_M_join 56 = .ok (.iaload, 1) := by decide +kernel
theorem d_M_join_57 : decode b_M_join 57 = .ok (.aload_n 0, 1) := by decide +kernel
theorem d_M_join_58 : decode b_M_join 58 = .ok (.getfield 13, 3) := by decide +kernel
theorem d_M_join_61 : decode b_M_join 61 = .ok (.iload_n 2, 1) := by decide +kernel
theorem d_M_join_62 : decode b_M_join 62 = .ok (.iaload, 1) := by decide +kernel
theorem d_M_join_63 : decode b_M_join 63 = .ok (.if_icmp .ne 7, 3) := by decide +kernel
theorem d_M_join_66 : decode b_M_join 66 = .ok (.iconst 1, 1) := by decide +kernel
theorem d_M_join_67 : decode b_M_join 67 = .ok (.goto 4, 3) := by decide +kernel
theorem d_M_join_70 : decode b_M_join 70 = .ok (.iconst 0, 1) := by decide +kernel
theorem d_M_join_71 : decode b_M_join 71 = .ok (.istore_n 3, 1) := by decide +kernel
theorem d_M_join_72 : decode b_M_join 72 = .ok (.aload_n 0, 1) := by decide +kernel
theorem d_M_join_73 : decode b_M_join 73 = .ok (.iload_n 3, 1) := by decide +kernel
theorem d_M_join_74 : decode b_M_join 74 = .ok (.ifCond .ne 7, 3) := by decide +kernel
theorem d_M_join_77 : decode b_M_join 77 = .ok (.iconst 1, 1) := by decide +kernel
theorem d_M_join_78 : decode b_M_join 78 = .ok (.goto 33, 3) := by decide +kernel
theorem d_M_join_81 : decode b_M_join 81 = .ok (.aload_n 0, 1) := by decide +kernel
theorem d_M_join_82 : decode b_M_join 82 = .ok (.invokevirtual 46, 3) := by decide +kernel
theorem d_M_join_85 : decode b_M_join 85 = .ok (.ifCond .ne 21, 3) := by decide +kernel
theorem d_M_join_88 : decode b_M_join 88 = .ok (.aload_n 0, 1) := by decide +kernel
