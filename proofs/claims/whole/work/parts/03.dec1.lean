theorem d_AR_copyOfRange_21 : decode b_AR_copyOfRange 21 = .ok (.checkcast 317, 3) := by decide +kernel
theorem d_AR_copyOfRange_24 : decode b_AR_copyOfRange 24 = .ok (.areturn, 1) := by decide +kernel
theorem d_AR_copyOfRangeInt_0 : decode b_AR_copyOfRangeInt 0 = .ok (.iload_n 1, 1) := by decide +kernel
theorem d_AR_copyOfRangeInt_1 : decode b_AR_copyOfRangeInt 1 = .ok (.iload_n 2, 1) := by decide +kernel
theorem d_AR_copyOfRangeInt_2 : decode b_AR_copyOfRangeInt 2 = .ok (.invokestatic 343, 3) := by decide +kernel
theorem d_AR_copyOfRangeInt_5 : decode b_AR_copyOfRangeInt 5 = .ok (.iload_n 2, 1) := by decide +kernel
theorem d_AR_copyOfRangeInt_6 : decode b_AR_copyOfRangeInt 6 = .ok (.iload_n 1, 1) := by decide +kernel
theorem d_AR_copyOfRangeInt_7 : decode b_AR_copyOfRangeInt 7 = .ok (.isub, 1) := by decide +kernel
theorem d_AR_copyOfRangeInt_8 : decode b_AR_copyOfRangeInt 8 = .ok (.istore_n 3, 1) := by decide +kernel
theorem d_AR_copyOfRangeInt_9 : decode b_AR_copyOfRangeInt 9 = .ok (.iload_n 3, 1) := by decide +kernel
theorem d_AR_copyOfRangeInt_10 : decode b_AR_copyOfRangeInt 10 = .ok (.newarray .int, 2) := by decide +kernel
theorem d_AR_copyOfRangeInt_12 : decode b_AR_copyOfRangeInt 12 = .ok (.astore 4, 2) := by decide +kernel
theorem d_AR_copyOfRangeInt_14 : decode b_AR_copyOfRangeInt 14 = .ok (.aload_n 0, 1) := by decide +kernel
theorem d_AR_copyOfRangeInt_15 : decode b_AR_copyOfRangeInt 15 = .ok (.iload_n 1, 1) := by decide +kernel
theorem d_AR_copyOfRangeInt_16 : decode b_AR_copyOfRangeInt 16 = .ok (.aload 4, 2) := by decide +kernel
theorem d_AR_copyOfRangeInt_18 : decode b_AR_copyOfRangeInt 18 = .ok (.iconst 0, 1) := by decide +kernel
theorem d_AR_copyOfRangeInt_19 : decode b_AR_copyOfRangeInt 19 = .ok (.aload_n 0, 1) := by decide +kernel
theorem d_AR_copyOfRangeInt_20 : decode b_AR_copyOfRangeInt 20 = .ok (.arraylength, 1) := by decide +kernel
theorem d_AR_copyOfRangeInt_21 : decode b_AR_copyOfRangeInt 21 = .ok (.iload_n 1, 1) := by decide +kernel
theorem d_AR_copyOfRangeInt_22 : decode b_AR_copyOfRangeInt 22 = .ok (.isub, 1) := by decide +kernel
theorem d_AR_copyOfRangeInt_23 : decode b_AR_copyOfRangeInt 23 = .ok (.iload_n 3, 1) := by decide +kernel
theorem d_AR_copyOfRangeInt_24 : decode b_AR_copyOfRangeInt 24 = .ok (.invokestatic 304, 3) := by decide +kernel
theorem d_AR_copyOfRangeInt_27 : decode b_AR_copyOfRangeInt 27 = .ok (.invokestatic 150, 3) := by decide +kernel
theorem d_AR_copyOfRangeInt_30 : decode b_AR_copyOfRangeInt 30 = .ok (.aload 4, 2) := by decide +kernel
theorem d_AR_copyOfRangeInt_32 : decode b_AR_copyOfRangeInt 32 = .ok (.areturn, 1) := by decide +kernel
theorem d_AR_checkLength_0 : decode b_AR_checkLength 0 = .ok (.iload_n 1, 1) := by decide +kernel
theorem d_AR_checkLength_1 : decode b_AR_checkLength 1 = .ok (.iload_n 0, 1) := by decide +kernel
theorem d_AR_checkLength_2 : decode b_AR_checkLength 2 = .ok (.if_icmp .ge 35, 3) := by decide +kernel
theorem d_AR_checkLength_5 : decode b_AR_checkLength 5 = .ok (.new 43, 3) := by decide +kernel
theorem d_AR_checkLength_8 : decode b_AR_checkLength 8 = .ok (.dup, 1) := by decide +kernel
theorem d_AR_checkLength_9 : decode b_AR_checkLength 9 = .ok (.new 45, 3) := by decide +kernel
theorem d_AR_checkLength_12 : decode b_AR_checkLength 12 = .ok (.dup, 1) := by decide +kernel
theorem d_AR_checkLength_13 : decode b_AR_checkLength 13 = .ok (.invokespecial 47, 3) := by decide +kernel
theorem d_AR_checkLength_16 : decode b_AR_checkLength 16 = .ok (.iload_n 0, 1) := by decide +kernel
theorem d_AR_checkLength_17 : decode b_AR_checkLength 17 = .ok (.invokevirtual 54, 3) := by decide +kernel
theorem d_AR_checkLength_20 : decode b_AR_checkLength 20 = .ok (.ldc_w 337, 3) := by decide +kernel
theorem d_AR_checkLength_23 : decode b_AR_checkLength 23 = .ok (.invokevirtual 50, 3) := by decide +kernel
theorem d_AR_checkLength_26 : decode b_AR_checkLength 26 = .ok (.iload_n 1, 1) := by decide +kernel
theorem d_AR_checkLength_27 : decode b_AR_checkLength 27 = .ok (.invokevirtual 54, 3) := by decide +kernel
theorem d_AR_checkLength_30 : decode b_AR_checkLength 30 = .ok (.invokevirtual 61, 3) := by decide +kernel
theorem d_AR_checkLength_33 : decode b_AR_checkLength 33 = .ok (.invokespecial 65, 3) := by decide +kernel
theorem d_AR_checkLength_36 : decode b_AR_checkLength 36 = .ok (.athrow, 1) := by decide +kernel
theorem d_AR_checkLength_37 : decode b_AR_checkLength 37 = .ok (.return_, 1) := by decide +kernel
theorem d_W_join_0 : decode b_W_join 0 = .ok (.aload_n 3, 1) := by decide +kernel
theorem d_W_join_1 : decode b_W_join 1 = .ok (.iconst 0, 1) := by decide +kernel
theorem d_W_join_2 : decode b_W_join 2 = .ok (.aload_n 0, 1) := by decide +kernel
theorem d_W_join_3 : decode b_W_join 3 = .ok (.iload_n 1, 1) := by decide +kernel
theorem d_W_join_4 : decode b_W_join 4 = .ok (.iload_n 2, 1) := by decide +kernel
theorem d_W_join_5 : decode b_W_join 5 = .ok (.invokevirtual 29, 3) := by decide +kernel
theorem d_W_join_8 : decode b_W_join 8 = .ok (.i2l, 1) := by decide +kernel
theorem d_W_join_9 : decode b_W_join 9 = .ok (.lastore, 1) := by decide +kernel
theorem d_W_join_10 : decode b_W_join 10 = .ok (.goto 11, 3) := by decide +kernel
theorem d_W_join_13 : decode b_W_join 13 = .ok (.astore 4, 2) := by decide +kernel
theorem d_W_join_15 : decode b_W_join 15 = .ok (.iconst 1, 1) := by decide +kernel
theorem d_W_join_16 : decode b_W_join 16 = .ok (.ireturn, 1) := by decide +kernel
theorem d_W_join_17 : decode b_W_join 17 = .ok (.astore 4, 2) := by decide +kernel
theorem d_W_join_19 : decode b_W_join 19 = .ok (.iconst 2, 1) := by decide +kernel
theorem d_W_join_20 : decode b_W_join 20 = .ok (.ireturn, 1) := by decide +kernel
theorem d_W_join_21 : decode b_W_join 21 = .ok (.iconst 0, 1) := by decide +kernel
theorem d_W_join_22 : decode b_W_join 22 = .ok (.ireturn, 1) := by decide +kernel
theorem d_L_join_0 : decode b_L_join 0 = .ok (.aload_n 0, 1) := by decide +kernel
theorem d_L_join_1 : decode b_L_join 1 = .ok (.iload_n 1, 1) := by decide +kernel
theorem d_L_join_2 : decode b_L_join 2 = .ok (.invokevirtual 69, 3) := by decide +kernel
theorem d_L_join_5 : decode b_L_join 5 = .ok (.astore_n 3, 1) := by decide +kernel
theorem d_L_join_6 : decode b_L_join 6 = .ok (.aload_n 0, 1) := by decide +kernel
theorem d_L_join_7 : decode b_L_join 7 = .ok (.iload_n 2, 1) := by decide +kernel
theorem d_L_join_8 : decode b_L_join 8 = .ok (.invokevirtual 69, 3) := by decide +kernel
theorem d_L_join_11 : decode b_L_join 11 = .ok (.astore 4, 2) := by decide +kernel
theorem d_L_join_13 : decode b_L_join 13 = .ok (.aload_n 3, 1) := by decide +kernel
theorem d_L_join_14 : decode b_L_join 14 = .ok (.aload 4, 2) := by decide +kernel
theorem d_L_join_16 : decode b_L_join 16 = .ok (.invokestatic 72, 3) := by decide +kernel
theorem d_L_join_19 : decode b_L_join 19 = .ok (.ifCond .ne 13, 3) := by decide +kernel
theorem d_L_join_22 : decode b_L_join 22 = .ok (.new 20, 3) := by decide +kernel
theorem d_L_join_25 : decode b_L_join 25 = .ok (.dup, 1) := by decide +kernel
theorem d_L_join_26 : decode b_L_join 26 = .ok (.ldc 76, 2) := by decide +kernel
theorem d_L_join_28 : decode b_L_join 28 = .ok (.invokespecial 24, 3) := by decide +kernel
theorem d_L_join_31 : decode b_L_join 31 = .ok (.athrow, 1) := by decide +kernel
theorem d_L_join_32 : decode b_L_join 32 = .ok (.aload_n 0, 1) := by decide +kernel
theorem d_L_join_33 : decode b_L_join 33 = .ok (.aload_n 3, 1) := by decide +kernel
theorem d_L_join_34 : decode b_L_join 34 = .ok (.getfield 44, 3) := by decide +kernel
theorem d_L_join_37 : decode b_L_join 37 = .ok (.arraylength, 1) := by decide +kernel
theorem d_L_join_38 : decode b_L_join 38 = .ok (.aload 4, 2) := by decide +kernel
theorem d_L_join_40 : decode b_L_join 40 = .ok (.getfield 44, 3) := by decide +kernel
theorem d_L_join_43 : decode b_L_join 43 = .ok (.arraylength, 1) := by decide +kernel
theorem d_L_join_44 : decode b_L_join 44 = .ok (.iadd, 1) := by decide +kernel
theorem d_L_join_45 : decode b_L_join 45 = .ok (.invokevirtual 27, 3) := by decide +kernel
theorem d_L_join_48 : decode b_L_join 48 = .ok (.aload_n 3, 1) := by decide +kernel
theorem d_L_join_49 : decode b_L_join 49 = .ok (.getfield 78, 3) := by decide +kernel
theorem d_L_join_52 : decode b_L_join 52 = .ok (.iconst 1, 1) := by decide +kernel
theorem d_L_join_53 : decode b_L_join 53 = .ok (.if_icmp .ne 18, 3) := by decide +kernel
theorem d_L_join_56 : decode b_L_join 56 = .ok (.aload_n 3, 1) := by decide +kernel
theorem d_L_join_57 : decode b_L_join 57 = .ok (.getfield 44, 3) := by decide +kernel
theorem d_L_join_60 : decode b_L_join 60 = .ok (.aload 4, 2) := by decide +kernel
theorem d_L_join_62 : decode b_L_join 62 = .ok (.getfield 44, 3) := by decide +kernel
theorem d_L_join_65 : decode b_L_join 65 = .ok (.invokestatic 82, 3) := by decide +kernel
theorem d_L_join_68 : decode b_L_join 68 = .ok (.goto 15, 3) := by decide +kernel
theorem d_L_join_71 : decode b_L_join 71 = .ok (.aload_n 3, 1) := by decide +kernel
theorem d_L_join_72 : decode b_L_join 72 = .ok (.getfield 44, 3) := by decide +kernel
theorem d_L_join_75 : decode b_L_join 75 = .ok (.aload 4, 2) := by decide +kernel
theorem d_L_join_77 : decode b_L_join 77 = .ok (.getfield 44, 3) := by decide +kernel
theorem d_L_join_80 : decode b_L_join 80 = .ok (.invokestatic 86, 3) := by decide +kernel
theorem d_L_join_83 : decode b_L_join 83 = .ok (.astore 5, 2) := by decide +kernel
theorem d_L_join_85 : decode b_L_join 85 = .ok (.aload_n 0, 1) := by decide +kernel
theorem d_L_join_86 : decode b_L_join 86 = .ok (.aload_n 3, 1) := by decide +kernel
theorem d_L_join_87 : decode b_L_join 87 = .ok (.aload 5, 2) := by decide +kernel
theorem d_L_join_89 : decode b_L_join 89 = .ok (.invokevirtual 56, 3) := by decide +kernel
theorem d_L_join_92 : decode b_L_join 92 = .ok (.invokevirtual 36, 3) := by decide +kernel
theorem d_L_join_95 : decode b_L_join 95 = .ok (.ireturn, 1) := by decide +kernel
theorem d_L_canBeJoined_0 : decode b_L_canBeJoined 0 = .ok (.aload_n 0, 1) := by decide +kernel
theorem d_L_canBeJoined_1 : decode b_L_canBeJoined 1 = .ok (.getfield 78, 3) := by decide +kernel
theorem d_L_canBeJoined_4 : decode b_L_canBeJoined 4 = .ok (.aload_n 1, 1) := by decide +kernel
theorem d_L_canBeJoined_5 : decode b_L_canBeJoined 5 = .ok (.getfield 78, 3) := by decide +kernel
theorem d_L_canBeJoined_8 : decode b_L_canBeJoined 8 = .ok (.if_icmp .ne 34, 3) := by decide +kernel
theorem d_L_canBeJoined_11 : decode b_L_canBeJoined 11 = .ok (.aload_n 0, 1) := by decide +kernel
theorem d_L_canBeJoined_12 : decode b_L_canBeJoined 12 = .ok (.getfield 109, 3) := by decide +kernel
theorem d_L_canBeJoined_15 : decode b_L_canBeJoined 15 = .ok (.aload_n 1, 1) := by decide +kernel
theorem d_L_canBeJoined_16 : decode b_L_canBeJoined 16 = .ok (.getfield 109, 3) := by decide +kernel
theorem d_L_canBeJoined_19 : decode b_L_canBeJoined 19 = .ok (.if_icmp .ne 23, 3) := by decide +kernel
theorem d_L_canBeJoined_22 : decode b_L_canBeJoined 22 = .ok (.aload_n 0, 1) := by decide +kernel
theorem d_L_canBeJoined_23 : decode b_L_canBeJoined 23 = .ok (.getfield 78, 3) := by decide +kernel
theorem d_L_canBeJoined_26 : decode b_L_canBeJoined 26 = .ok (.iconst 1, 1) := by decide +kernel
theorem d_L_canBeJoined_27 : decode b_L_canBeJoined 27 = .ok (.if_icmp .eq 11, 3) := by decide +kernel
theorem d_L_canBeJoined_30 : decode b_L_canBeJoined 30 = .ok (.aload_n 0, 1) := by decide +kernel
theorem d_L_canBeJoined_31 : decode b_L_canBeJoined 31 = .ok (.getfield 78, 3) := by decide +kernel
theorem d_L_canBeJoined_34 : decode b_L_canBeJoined 34 = .ok (.iconst 4, 1) := by decide +kernel
theorem d_L_canBeJoined_35 : decode b_L_canBeJoined 35 = .ok (.if_icmp .ne 7, 3) := by decide +kernel
theorem d_L_canBeJoined_38 : decode b_L_canBeJoined 38 = .ok (.iconst 1, 1) := by decide +kernel
theorem d_L_canBeJoined_39 : decode b_L_canBeJoined 39 = .ok (.goto 4, 3) := by decide +kernel
theorem d_L_canBeJoined_42 : decode b_L_canBeJoined 42 = .ok (.iconst 0, 1) := by decide +kernel
theorem d_L_canBeJoined_43 : decode b_L_canBeJoined 43 = .ok (.ireturn, 1) := by decide +kernel
theorem d_L_merged_0 : decode b_L_merged 0 = .ok (.aload_n 0, 1) := by decide +kernel
theorem d_L_merged_1 : decode b_L_merged 1 = .ok (.arraylength, 1) := by decide +kernel
theorem d_L_merged_2 : decode b_L_merged 2 = .ok (.aload_n 1, 1) := by decide +kernel
theorem d_L_merged_3 : decode b_L_merged 3 = .ok (.arraylength, 1) := by decide +kernel
theorem d_L_merged_4 : decode b_L_merged 4 = .ok (.iadd, 1) := by decide +kernel
theorem d_L_merged_5 : decode b_L_merged 5 = .ok (.newarray .int, 2) := by decide +kernel
theorem d_L_merged_7 : decode b_L_merged 7 = .ok (.astore_n 2, 1) := by decide +kernel
theorem d_L_merged_8 : decode b_L_merged 8 = .ok (.iconst 0, 1) := by decide +kernel
theorem d_L_merged_9 : decode b_L_merged 9 = .ok (.istore_n 3, 1) := by decide +kernel
theorem d_L_merged_10 : decode b_L_merged 10 = .ok (.iconst 0, 1) := by decide +kernel
theorem d_L_merged_11 : decode b_L_merged 11 = .ok (.istore 4, 2) := by decide +kernel
theorem d_L_merged_13 : decode b_L_merged 13 = .ok (.iconst 0, 1) := by decide +kernel
theorem d_L_merged_14 : decode b_L_merged 14 = .ok (.istore 5, 2) := by decide +kernel
theorem d_L_merged_16 : decode b_L_merged 16 = .ok (.iload 5, 2) := by decide +kernel
theorem d_L_merged_18 : decode b_L_merged 18 = .ok (.aload_n 2, 1) := by decide +kernel
theorem d_L_merged_19 : decode b_L_merged 19 = .ok (.arraylength, 1) := by decide +kernel
theorem d_L_merged_20 : decode b_L_merged 20 = .ok (.if_icmp .ge 63, 3) := by decide +kernel
theorem d_L_merged_23 : decode b_L_merged 23 = .ok (.iload_n 3, 1) := by decide +kernel
theorem d_L_merged_24 : decode b_L_merged 24 = .ok (.aload_n 0, 1) := by decide +kernel
theorem d_L_merged_25 : decode b_L_merged 25 = .ok (.arraylength, 1) := by decide +kernel
theorem d_L_merged_26 : decode b_L_merged 26 = .ok (.if_icmp .ge 33, 3) := by decide +kernel
theorem d_L_merged_29 : decode b_L_merged 29 = .ok (.iload 4, 2) := by decide +kernel
theorem d_L_merged_31 : decode b_L_merged 31 = .ok (.aload_n 1, 1) := by decide +kernel
theorem d_L_merged_32 : decode b_L_merged 32 = .ok (.arraylength, 1) := by decide +kernel
theorem d_L_merged_33 : decode b_L_merged 33 = .ok (.if_icmp .ge 13, 3) := by decide +kernel
theorem d_L_merged_36 : decode b_L_merged 36 = .ok (.aload_n 0, 1) := by decide +kernel
theorem d_L_merged_37 : decode b_L_merged 37 = .ok (.iload_n 3, 1) := by decide +kernel
theorem d_L_merged_38 : decode b_L_merged 38 = .ok (.iaload, 1) := by decide +kernel
theorem d_L_merged_39 : decode b_L_merged 39 = .ok (.aload_n 1, 1) := by decide +kernel
theorem d_L_merged_40 : decode b_L_merged 40 = .ok (.iload 4, 2) := by decide +kernel
theorem d_L_merged_42 : decode b_L_merged 42 = .ok (.iaload, 1) := by decide +kernel
theorem d_L_merged_43 : decode b_L_merged 43 = .ok (.if_icmp .gt 16, 3) := by decide +kernel
theorem d_L_merged_46 : decode b_L_merged 46 = .ok (.aload_n 2, 1) := by decide +kernel
theorem d_L_merged_47 : decode b_L_merged 47 = .ok (.iload 5, 2) := by decide +kernel
theorem d_L_merged_49 : decode b_L_merged 49 = .ok (.aload_n 0, 1) := by decide +kernel
theorem d_L_merged_50 : decode b_L_merged 50 = .ok (.iload_n 3, 1) := by decide +kernel
theorem d_L_merged_51 : decode b_L_merged 51 = .ok (.iaload, 1) := by decide +kernel
theorem d_L_merged_52 : decode b_L_merged 52 = .ok (.iastore, 1) := by decide +kernel
theorem d_L_merged_53 : decode b_L_merged 53 = .ok (.iinc 3 1, 3) := by decide +kernel
theorem d_L_merged_56 : decode b_L_merged 56 = .ok (.goto 21, 3) := by decide +kernel
theorem d_L_merged_59 : decode b_L_merged 59 = .ok (.iload 4, 2) := by decide +kernel
theorem d_L_merged_61 : decode b_L_merged 61 = .ok (.aload_n 1, 1) := by decide +kernel
theorem d_L_merged_62 : decode b_L_merged 62 = .ok (.arraylength, 1) := by decide +kernel
theorem d_L_merged_63 : decode b_L_merged 63 = .ok (.if_icmp .ge 14, 3) := by decide +kernel
theorem d_L_merged_66 : decode b_L_merged 66 = .ok (.aload_n 2, 1) := by decide +kernel
theorem d_L_merged_67 : decode b_L_merged 67 = .ok (.iload 5, 2) := by decide +kernel
theorem d_L_merged_69 : decode b_L_merged 69 = .ok (.aload_n 1, 1) := by decide +kernel
theorem d_L_merged_70 : decode b_L_merged 70 = .ok (.iload 4, 2) := by decide +kernel
theorem d_L_merged_72 : decode b_L_merged 72 = .ok (.iaload, 1) := by decide +kernel
theorem d_L_merged_73 : decode b_L_merged 73 = .ok (.iastore, 1) := by decide +kernel
theorem d_L_merged_74 : decode b_L_merged 74 = .ok (.iinc 4 1, 3) := by decide +kernel
theorem d_L_merged_77 : decode b_L_merged 77 = .ok (.iinc 5 1, 3) := by decide +kernel
theorem d_L_merged_80 : decode b_L_merged 80 = .ok (.goto (-64), 3) := by decide +kernel
theorem d_L_merged_83 : decode b_L_merged 83 = .ok (.aload_n 2, 1) := by decide +kernel
theorem d_L_merged_84 : decode b_L_merged 84 = .ok (.areturn, 1) := by decide +kernel
theorem d_L_appended_0 : decode b_L_appended 0 = .ok (.aload_n 0, 1) := by decide +kernel
theorem d_L_appended_1 : decode b_L_appended 1 = .ok (.aload_n 0, 1) := by decide +kernel
theorem d_L_appended_2 : decode b_L_appended 2 = .ok (.arraylength, 1) := by decide +kernel
theorem d_L_appended_3 : decode b_L_appended 3 = .ok (.aload_n 1, 1) := by decide +kernel
theorem d_L_appended_4 : decode b_L_appended 4 = .ok (.arraylength, 1) := by decide +kernel
theorem d_L_appended_5 : decode b_L_appended 5 = .ok (.iadd, 1) := by decide +kernel
theorem d_L_appended_6 : decode b_L_appended 6 = .ok (.invokestatic 182, 3) := by decide +kernel
theorem d_L_appended_9 : decode b_L_appended 9 = .ok (.astore_n 2, 1) := by decide +kernel
theorem d_L_appended_10 : decode b_L_appended 10 = .ok (.aload_n 1, 1) := by decide +kernel
theorem d_L_appended_11 : decode b_L_appended 11 = .ok (.iconst 0, 1) := by decide +kernel
theorem d_L_appended_12 : decode b_L_appended 12 = .ok (.aload_n 2, 1) := by decide +kernel
theorem d_L_appended_13 : decode b_L_appended 13 = .ok (.aload_n 0, 1) := by decide +kernel
theorem d_L_appended_14 : decode b_L_appended 14 = .ok (.arraylength, 1) := by decide +kernel
theorem d_L_appended_15 : decode b_L_appended 15 = .ok (.aload_n 1, 1) := by decide +kernel
theorem d_L_appended_16 : decode b_L_appended 16 = .ok (.arraylength, 1) := by decide +kernel
theorem d_L_appended_17 : decode b_L_appended 17 = .ok (.invokestatic 171, 3) := by decide +kernel
theorem d_L_appended_20 : decode b_L_appended 20 = .ok (.aload_n 2, 1) := by decide +kernel
theorem d_L_appended_21 : decode b_L_appended 21 = .ok (.areturn, 1) := by decide +kernel
theorem d_AR_copyOfI_0 : decode b_AR_copyOfI 0 = .ok (.iload_n 1, 1) := by decide +kernel
theorem d_AR_copyOfI_1 : decode b_AR_copyOfI 1 = .ok (.aload_n 0, 1) := by decide +kernel
theorem d_AR_copyOfI_2 : decode b_AR_copyOfI 2 = .ok (.arraylength, 1) := by decide +kernel
theorem d_AR_copyOfI_3 : decode b_AR_copyOfI 3 = .ok (.if_icmp .ne 11, 3) := by decide +kernel
theorem d_AR_copyOfI_6 : decode b_AR_copyOfI 6 = .ok (.aload_n 0, 1) := by decide +kernel
theorem d_AR_copyOfI_7 : decode b_AR_copyOfI 7 = .ok (.invokevirtual 316, 3) := by decide +kernel
theorem d_AR_copyOfI_10 : decode b_AR_copyOfI 10 = .ok (.checkcast 317, 3) := by decide +kernel
theorem d_AR_copyOfI_13 : decode b_AR_copyOfI 13 = .ok (.areturn, 1) := by decide +kernel
theorem d_AR_copyOfI_14 : decode b_AR_copyOfI 14 = .ok (.iload_n 1, 1) := by decide +kernel
theorem d_AR_copyOfI_15 : decode b_AR_copyOfI 15 = .ok (.newarray .int, 2) := by decide +kernel
theorem d_AR_copyOfI_17 : decode b_AR_copyOfI 17 = .ok (.astore_n 2, 1) := by decide +kernel
theorem d_AR_copyOfI_18 : decode b_AR_copyOfI 18 = .ok (.aload_n 0, 1) := by decide +kernel
theorem d_AR_copyOfI_19 : decode b_AR_copyOfI 19 = .ok (.iconst 0, 1) := by decide +kernel
theorem d_AR_copyOfI_20 : decode b_AR_copyOfI 20 = .ok (.aload_n 2, 1) := by decide +kernel
theorem d_AR_copyOfI_21 : decode b_AR_copyOfI 21 = .ok (.iconst 0, 1) := by decide +kernel
theorem d_AR_copyOfI_22 : decode b_AR_copyOfI 22 = .ok (.aload_n 0, 1) := by decide +kernel
theorem d_AR_copyOfI_23 : decode b_AR_copyOfI 23 = .ok (.arraylength, 1) := by decide +kernel
theorem d_AR_copyOfI_24 : decode b_AR_copyOfI 24 = .ok (.iload_n 1, 1) := by decide +kernel
theorem d_AR_copyOfI_25 : decode b_AR_copyOfI 25 = .ok (.invokestatic 304, 3) := by decide +kernel
theorem d_AR_copyOfI_28 : decode b_AR_copyOfI 28 = .ok (.invokestatic 150, 3) := by decide +kernel
theorem d_AR_copyOfI_31 : decode b_AR_copyOfI 31 = .ok (.aload_n 2, 1) := by decide +kernel
theorem d_AR_copyOfI_32 : decode b_AR_copyOfI 32 = .ok (.areturn, 1) := by decide +kernel
theorem d_W_bind_0 : decode b_W_bind 0 = .ok (.aload 4, 2) := by decide +kernel
theorem d_W_bind_2 : decode b_W_bind 2 = .ok (.iconst 0, 1) := by decide +kernel
theorem d_W_bind_3 : decode b_W_bind 3 = .ok (.aload_n 0, 1) := by decide +kernel
theorem d_W_bind_4 : decode b_W_bind 4 = .ok (.iload_n 1, 1) := by decide +kernel
theorem d_W_bind_5 : decode b_W_bind 5 = .ok (.iload_n 2, 1) := by decide +kernel
theorem d_W_bind_6 : decode b_W_bind 6 = .ok (.iload_n 3, 1) := by decide +kernel
theorem d_W_bind_7 : decode b_W_bind 7 = .ok (.invokevirtual 32, 3) := by decide +kernel
theorem d_W_bind_10 : decode b_W_bind 10 = .ok (.i2l, 1) := by decide +kernel
theorem d_W_bind_11 : decode b_W_bind 11 = .ok (.lastore, 1) := by decide +kernel
theorem d_W_bind_12 : decode b_W_bind 12 = .ok (.goto 11, 3) := by decide +kernel
theorem d_W_bind_15 : decode b_W_bind 15 = .ok (.astore 5, 2) := by decide +kernel
theorem d_W_bind_17 : decode b_W_bind 17 = .ok (.iconst 1, 1) := by decide +kernel
theorem d_W_bind_18 : decode b_W_bind 18 = .ok (.ireturn, 1) := by decide +kernel
theorem d_W_bind_19 : decode b_W_bind 19 = .ok (.astore 5, 2) := by decide +kernel
theorem d_W_bind_21 : decode b_W_bind 21 = .ok (.iconst 2, 1) := by decide +kernel
theorem d_W_bind_22 : decode b_W_bind 22 = .ok (.ireturn, 1) := by decide +kernel
theorem d_W_bind_23 : decode b_W_bind 23 = .ok (.iconst 0, 1) := by decide +kernel
theorem d_W_bind_24 : decode b_W_bind 24 = .ok (.ireturn, 1) := by decide +kernel
theorem d_L_bind_0 : decode b_L_bind 0 = .ok (.aload_n 0, 1) := by decide +kernel
theorem d_L_bind_1 : decode b_L_bind 1 = .ok (.iload_n 1, 1) := by decide +kernel
theorem d_L_bind_2 : decode b_L_bind 2 = .ok (.iconst 3, 1) := by decide +kernel
theorem d_L_bind_3 : decode b_L_bind 3 = .ok (.invokevirtual 89, 3) := by decide +kernel
theorem d_L_bind_6 : decode b_L_bind 6 = .ok (.astore 4, 2) := by decide +kernel
theorem d_L_bind_8 : decode b_L_bind 8 = .ok (.iload_n 2, 1) := by decide +kernel
theorem d_L_bind_9 : decode b_L_bind 9 = .ok (.ifCond .lt 10, 3) := by decide +kernel
theorem d_L_bind_12 : decode b_L_bind 12 = .ok (.iload_n 2, 1) := by decide +kernel
theorem d_L_bind_13 : decode b_L_bind 13 = .ok (.sipush 255, 3) := by decide +kernel
theorem d_L_bind_16 : decode b_L_bind 16 = .ok (.if_icmp .le 13, 3) := by decide +kernel
theorem d_L_bind_19 : decode b_L_bind 19 = .ok (.new 20, 3) := by decide +kernel
theorem d_L_bind_22 : decode b_L_bind 22 = .ok (.dup, 1) := by decide +kernel
theorem d_L_bind_23 : decode b_L_bind 23 = .ok (.ldc 93, 2) := by decide +kernel
theorem d_L_bind_25 : decode b_L_bind 25 = .ok (.invokespecial 24, 3) := by decide +kernel
theorem d_L_bind_28 : decode b_L_bind 28 = .ok (.athrow, 1) := by decide +kernel
theorem d_L_bind_29 : decode b_L_bind 29 = .ok (.aload 4, 2) := by decide +kernel
theorem d_L_bind_31 : decode b_L_bind 31 = .ok (.getfield 95, 3) := by decide +kernel
theorem d_L_bind_34 : decode b_L_bind 34 = .ok (.iload_n 2, 1) := by decide +kernel
theorem d_L_bind_35 : decode b_L_bind 35 = .ok (.invokestatic 98, 3) := by decide +kernel
theorem d_L_bind_38 : decode b_L_bind 38 = .ok (.istore 5, 2) := by decide +kernel
theorem d_L_bind_40 : decode b_L_bind 40 = .ok (.aload 4, 2) := by decide +kernel
theorem d_L_bind_42 : decode b_L_bind 42 = .ok (.getfield 95, 3) := by decide +kernel
theorem d_L_bind_45 : decode b_L_bind 45 = .ok (.iload 5, 2) := by decide +kernel
theorem d_L_bind_47 : decode b_L_bind 47 = .ok (.iload_n 2, 1) := by decide +kernel
theorem d_L_bind_48 : decode b_L_bind 48 = .ok (.invokestatic 102, 3) := by decide +kernel
theorem d_L_bind_51 : decode b_L_bind 51 = .ok (.ifCond .eq 34, 3) := by decide +kernel
theorem d_L_bind_54 : decode b_L_bind 54 = .ok (.aload_n 0, 1) := by decide +kernel
theorem d_L_bind_55 : decode b_L_bind 55 = .ok (.aload 4, 2) := by decide +kernel
theorem d_L_bind_57 : decode b_L_bind 57 = .ok (.getfield 44, 3) := by decide +kernel
theorem d_L_bind_60 : decode b_L_bind 60 = .ok (.arraylength, 1) := by decide +kernel
theorem d_L_bind_61 : decode b_L_bind 61 = .ok (.invokevirtual 27, 3) := by decide +kernel
theorem d_L_bind_64 : decode b_L_bind 64 = .ok (.aload_n 0, 1) := by decide +kernel
theorem d_L_bind_65 : decode b_L_bind 65 = .ok (.aload 4, 2) := by decide +kernel
theorem d_L_bind_67 : decode b_L_bind 67 = .ok (.aload 4, 2) := by decide +kernel
theorem d_L_bind_69 : decode b_L_bind 69 = .ok (.getfield 44, 3) := by decide +kernel
theorem d_L_bind_72 : decode b_L_bind 72 = .ok (.iload 5, 2) := by decide +kernel
theorem d_L_bind_74 : decode b_L_bind 74 = .ok (.iload_n 3, 1) := by decide +kernel
theorem d_L_bind_75 : decode b_L_bind 75 = .ok (.invokestatic 106, 3) := by decide +kernel
theorem d_L_bind_78 : decode b_L_bind 78 = .ok (.invokevirtual 56, 3) := by decide +kernel
theorem d_L_bind_81 : decode b_L_bind 81 = .ok (.invokevirtual 36, 3) := by decide +kernel
theorem d_L_bind_84 : decode b_L_bind 84 = .ok (.ireturn, 1) := by decide +kernel
theorem d_L_bind_85 : decode b_L_bind 85 = .ok (.aload_n 0, 1) := by decide +kernel
theorem d_L_bind_86 : decode b_L_bind 86 = .ok (.aload 4, 2) := by decide +kernel
theorem d_L_bind_88 : decode b_L_bind 88 = .ok (.getfield 44, 3) := by decide +kernel
theorem d_L_bind_91 : decode b_L_bind 91 = .ok (.arraylength, 1) := by decide +kernel
theorem d_L_bind_92 : decode b_L_bind 92 = .ok (.iconst 1, 1) := by decide +kernel
theorem d_L_bind_93 : decode b_L_bind 93 = .ok (.iadd, 1) := by decide +kernel
theorem d_L_bind_94 : decode b_L_bind 94 = .ok (.invokevirtual 27, 3) := by decide +kernel
theorem d_L_bind_97 : decode b_L_bind 97 = .ok (.aload 4, 2) := by decide +kernel
theorem d_L_bind_99 : decode b_L_bind 99 = .ok (.getfield 95, 3) := by decide +kernel
theorem d_L_bind_102 : decode b_L_bind 102 = .ok (.iload 5, 2) := by decide +kernel
theorem d_L_bind_104 : decode b_L_bind 104 = .ok (.iload_n 2, 1) := by decide +kernel
theorem d_L_bind_105 : decode b_L_bind 105 = .ok (.invokestatic 52, 3) := by decide +kernel
theorem d_L_bind_108 : decode b_L_bind 108 = .ok (.astore 6, 2) := by decide +kernel
theorem d_L_bind_110 : decode b_L_bind 110 = .ok (.aload_n 0, 1) := by decide +kernel
theorem d_L_bind_111 : decode b_L_bind 111 = .ok (.new 31, 3) := by decide +kernel
theorem d_L_bind_114 : decode b_L_bind 114 = .ok (.dup, 1) := by decide +kernel
theorem d_L_bind_115 : decode b_L_bind 115 = .ok (.aload 4, 2) := by decide +kernel
theorem d_L_bind_117 : decode b_L_bind 117 = .ok (.getfield 78, 3) := by decide +kernel
theorem d_L_bind_120 : decode b_L_bind 120 = .ok (.aload 4, 2) := by decide +kernel
theorem d_L_bind_122 : decode b_L_bind 122 = .ok (.getfield 109, 3) := by decide +kernel
theorem d_L_bind_125 : decode b_L_bind 125 = .ok (.aload 4, 2) := by decide +kernel
theorem d_L_bind_127 : decode b_L_bind 127 = .ok (.getfield 44, 3) := by decide +kernel
theorem d_L_bind_130 : decode b_L_bind 130 = .ok (.iload 5, 2) := by decide +kernel
theorem d_L_bind_132 : decode b_L_bind 132 = .ok (.iload_n 3, 1) := by decide +kernel
theorem d_L_bind_133 : decode b_L_bind 133 = .ok (.invokestatic 52, 3) := by decide +kernel
theorem d_L_bind_136 : decode b_L_bind 136 = .ok (.aload 6, 2) := by decide +kernel
theorem d_L_bind_138 : decode b_L_bind 138 = .ok (.invokespecial 33, 3) := by decide +kernel
theorem d_L_bind_141 : decode b_L_bind 141 = .ok (.invokevirtual 36, 3) := by decide +kernel
theorem d_L_bind_144 : decode b_L_bind 144 = .ok (.ireturn, 1) := by decide +kernel
theorem d_L_foundOfKind_0 : decode b_L_foundOfKind 0 = .ok (.aload_n 0, 1) := by decide +kernel
theorem d_L_foundOfKind_1 : decode b_L_foundOfKind 1 = .ok (.iload_n 1, 1) := by decide +kernel
theorem d_L_foundOfKind_2 : decode b_L_foundOfKind 2 = .ok (.invokevirtual 69, 3) := by decide +kernel
theorem d_L_foundOfKind_5 : decode b_L_foundOfKind 5 = .ok (.astore_n 3, 1) := by decide +kernel
theorem d_L_foundOfKind_6 : decode b_L_foundOfKind 6 = .ok (.aload_n 3, 1) := by decide +kernel
theorem d_L_foundOfKind_7 : decode b_L_foundOfKind 7 = .ok (.getfield 78, 3) := by decide +kernel
theorem d_L_foundOfKind_10 : decode b_L_foundOfKind 10 = .ok (.iload_n 2, 1) := by decide +kernel
theorem d_L_foundOfKind_11 : decode b_L_foundOfKind 11 = .ok (.if_icmp .eq 13, 3) := by decide +kernel
theorem d_L_foundOfKind_14 : decode b_L_foundOfKind 14 = .ok (.new 20, 3) := by decide +kernel
theorem d_L_foundOfKind_17 : decode b_L_foundOfKind 17 = .ok (.dup, 1) := by decide +kernel
theorem d_L_foundOfKind_18 : decode b_L_foundOfKind 18 = .ok (.ldc 146, 2) := by decide +kernel
theorem d_L_foundOfKind_20 : decode b_L_foundOfKind 20 = .ok (.invokespecial 24, 3) := by decide +kernel
theorem d_L_foundOfKind_23 : decode b_L_foundOfKind 23 = .ok (.athrow, 1) := by decide +kernel
theorem d_L_foundOfKind_24 : decode b_L_foundOfKind 24 = .ok (.aload_n 3, 1) := by decide +kernel
theorem d_L_foundOfKind_25 : decode b_L_foundOfKind 25 = .ok (.areturn, 1) := by decide +kernel
theorem d_L_hasAt_0 : decode b_L_hasAt 0 = .ok (.iload_n 1, 1) := by decide +kernel
theorem d_L_hasAt_1 : decode b_L_hasAt 1 = .ok (.aload_n 0, 1) := by decide +kernel
theorem d_L_hasAt_2 : decode b_L_hasAt 2 = .ok (.arraylength, 1) := by decide +kernel
theorem d_L_hasAt_3 : decode b_L_hasAt 3 = .ok (.if_icmp .ge 14, 3) := by decide +kernel
theorem d_L_hasAt_6 : decode b_L_hasAt 6 = .ok (.aload_n 0, 1) := by decide +kernel
theorem d_L_hasAt_7 : decode b_L_hasAt 7 = .ok (.iload_n 1, 1) := by decide +kernel
theorem d_L_hasAt_8 : decode b_L_hasAt 8 = .ok (.iaload, 1) := by decide +kernel
theorem d_L_hasAt_9 : decode b_L_hasAt 9 = .ok (.iload_n 2, 1) := by decide +kernel
theorem d_L_hasAt_10 : decode b_L_hasAt 10 = .ok (.if_icmp .ne 7, 3) := by decide +kernel
theorem d_L_hasAt_13 : decode b_L_hasAt 13 = .ok (.iconst 1, 1) := by decide +kernel
theorem d_L_hasAt_14 : decode b_L_hasAt 14 = .ok (.goto 4, 3) := by decide +kernel
theorem d_L_hasAt_17 : decode b_L_hasAt 17 = .ok (.iconst 0, 1) := by decide +kernel
theorem d_L_hasAt_18 : decode b_L_hasAt 18 = .ok (.ireturn, 1) := by decide +kernel
theorem d_L_replaced_0 : decode b_L_replaced 0 = .ok (.aload_n 0, 1) := by decide +kernel
theorem d_L_replaced_1 : decode b_L_replaced 1 = .ok (.invokevirtual 177, 3) := by decide +kernel
theorem d_L_replaced_4 : decode b_L_replaced 4 = .ok (.checkcast 178, 3) := by decide +kernel
theorem d_L_replaced_7 : decode b_L_replaced 7 = .ok (.astore_n 3, 1) := by decide +kernel
theorem d_L_replaced_8 : decode b_L_replaced 8 = .ok (.aload_n 3, 1) := by decide +kernel
theorem d_L_replaced_9 : decode b_L_replaced 9 = .ok (.iload_n 1, 1) := by decide +kernel
theorem d_L_replaced_10 : decode b_L_replaced 10 = .ok (.iload_n 2, 1) := by decide +kernel
theorem d_L_replaced_11 : decode b_L_replaced 11 = .ok (.iastore, 1) := by decide +kernel
theorem d_L_replaced_12 : decode b_L_replaced 12 = .ok (.aload_n 3, 1) := by decide +kernel
theorem d_L_replaced_13 : decode b_L_replaced 13 = .ok (.areturn, 1) := by decide +kernel
theorem d_W_value_0 : decode b_W_value 0 = .ok (.aload_n 3, 1) := by decide +kernel
theorem d_W_value_1 : decode b_W_value 1 = .ok (.iconst 0, 1) := by decide +kernel
theorem d_W_value_2 : decode b_W_value 2 = .ok (.aload_n 0, 1) := by decide +kernel
theorem d_W_value_3 : decode b_W_value 3 = .ok (.iload_n 1, 1) := by decide +kernel
theorem d_W_value_4 : decode b_W_value 4 = .ok (.iload_n 2, 1) := by decide +kernel
theorem d_W_value_5 : decode b_W_value 5 = .ok (.invokevirtual 36, 3) := by decide +kernel
theorem d_W_value_8 : decode b_W_value 8 = .ok (.i2l, 1) := by decide +kernel
theorem d_W_value_9 : decode b_W_value 9 = .ok (.lastore, 1) := by decide +kernel
theorem d_W_value_10 : decode b_W_value 10 = .ok (.goto 11, 3) := by decide +kernel
theorem d_W_value_13 : decode b_W_value 13 = .ok (.astore 4, 2) := by decide +kernel
theorem d_W_value_15 : decode b_W_value 15 = .ok (.iconst 1, 1) := by decide +kernel
theorem d_W_value_16 : decode b_W_value 16 = .ok (.ireturn, 1) := by decide +kernel
theorem d_W_value_17 : decode b_W_value 17 = .ok (.astore 4, 2) := by decide +kernel
theorem d_W_value_19 : decode b_W_value 19 = .ok (.iconst 2, 1) := by decide +kernel
theorem d_W_value_20 : decode b_W_value 20 = .ok (.ireturn, 1) := by decide +kernel
theorem d_W_value_21 : decode b_W_value 21 = .ok (.iconst 0, 1) := by decide +kernel
theorem d_W_value_22 : decode b_W_value 22 = .ok (.ireturn, 1) := by decide +kernel
theorem d_L_value_0 : decode b_L_value 0 = .ok (.aload_n 0, 1) := by decide +kernel
theorem d_L_value_1 : decode b_L_value 1 = .ok (.iload_n 1, 1) := by decide +kernel
theorem d_L_value_2 : decode b_L_value 2 = .ok (.iconst 3, 1) := by decide +kernel
theorem d_L_value_3 : decode b_L_value 3 = .ok (.invokevirtual 89, 3) := by decide +kernel
theorem d_L_value_6 : decode b_L_value 6 = .ok (.astore_n 3, 1) := by decide +kernel
theorem d_L_value_7 : decode b_L_value 7 = .ok (.aload_n 3, 1) := by decide +kernel
theorem d_L_value_8 : decode b_L_value 8 = .ok (.getfield 95, 3) := by decide +kernel
theorem d_L_value_11 : decode b_L_value 11 = .ok (.iload_n 2, 1) := by decide +kernel
theorem d_L_value_12 : decode b_L_value 12 = .ok (.invokestatic 98, 3) := by decide +kernel
theorem d_L_value_15 : decode b_L_value 15 = .ok (.istore 4, 2) := by decide +kernel
theorem d_L_value_17 : decode b_L_value 17 = .ok (.aload_n 3, 1) := by decide +kernel
theorem d_L_value_18 : decode b_L_value 18 = .ok (.getfield 95, 3) := by decide +kernel
theorem d_L_value_21 : decode b_L_value 21 = .ok (.iload 4, 2) := by decide +kernel
theorem d_L_value_23 : decode b_L_value 23 = .ok (.iload_n 2, 1) := by decide +kernel
theorem d_L_value_24 : decode b_L_value 24 = .ok (.invokestatic 102, 3) := by decide +kernel
theorem d_L_value_27 : decode b_L_value 27 = .ok (.ifCond .ne 13, 3) := by decide +kernel
theorem d_L_value_30 : decode b_L_value 30 = .ok (.new 112, 3) := by decide +kernel
theorem d_L_value_33 : decode b_L_value 33 = .ok (.dup, 1) := by decide +kernel
theorem d_L_value_34 : decode b_L_value 34 = .ok (.ldc 114, 2) := by decide +kernel
theorem d_L_value_36 : decode b_L_value 36 = .ok (.invokespecial 116, 3) := by decide +kernel
theorem d_L_value_39 : decode b_L_value 39 = .ok (.athrow, 1) := by decide +kernel
theorem d_L_value_40 : decode b_L_value 40 = .ok (.aload_n 3, 1) := by decide +kernel
theorem d_L_value_41 : decode b_L_value 41 = .ok (.getfield 44, 3) := by decide +kernel
theorem d_L_value_44 : decode b_L_value 44 = .ok (.iload 4, 2) := by decide +kernel
theorem d_L_value_46 : decode b_L_value 46 = .ok (.iaload, 1) := by decide +kernel
theorem d_L_value_47 : decode b_L_value 47 = .ok (.ireturn, 1) := by decide +kernel
theorem d_W_update_0 : decode b_W_update 0 = .ok (.aload 4, 2) := by decide +kernel
theorem d_W_update_2 : decode b_W_update 2 = .ok (.iconst 0, 1) := by decide +kernel
theorem d_W_update_3 : decode b_W_update 3 = .ok (.aload_n 0, 1) := by decide +kernel
theorem d_W_update_4 : decode b_W_update 4 = .ok (.iload_n 1, 1) := by decide +kernel
theorem d_W_update_5 : decode b_W_update 5 = .ok (.iload_n 2, 1) := by decide +kernel
theorem d_W_update_6 : decode b_W_update 6 = .ok (.iload_n 3, 1) := by decide +kernel
theorem d_W_update_7 : decode b_W_update 7 = .ok (.invokevirtual 39, 3) := by decide +kernel
theorem d_W_update_10 : decode b_W_update 10 = .ok (.i2l, 1) := by decide +kernel
theorem d_W_update_11 : decode b_W_update 11 = .ok (.lastore, 1) := by decide +kernel
theorem d_W_update_12 : decode b_W_update 12 = .ok (.goto 15, 3) := by decide +kernel
theorem d_W_update_15 : decode b_W_update 15 = .ok (.astore 5, 2) := by decide +kernel
theorem d_W_update_17 : decode b_W_update 17 = .ok (.iconst 1, 1) := by decide +kernel
theorem d_W_update_18 : decode b_W_update 18 = .ok (.ireturn, 1) := by decide +kernel
theorem d_W_update_19 : decode b_W_update 19 = .ok (.astore 5, 2) := by decide +kernel
theorem d_W_update_21 : decode b_W_update 21 = .ok (.iconst 2, 1) := by decide +kernel
theorem d_W_update_22 : decode b_W_update 22 = .ok (.ireturn, 1) := by decide +kernel
theorem d_W_update_23 : decode b_W_update 23 = .ok (.astore 5, 2) := by decide +kernel
theorem d_W_update_25 : decode b_W_update 25 = .ok (.iconst 3, 1) := by decide +kernel
theorem d_W_update_26 : decode b_W_update 26 = .ok (.ireturn, 1) := by decide +kernel
theorem d_W_update_27 : decode b_W_update 27 = .ok (.iconst 0, 1) := by decide +kernel
theorem d_W_update_28 : decode b_W_update 28 = .ok (.ireturn, 1) := by decide +kernel
theorem d_L_update_0 : decode b_L_update 0 = .ok (.aload_n 0, 1) := by decide +kernel
theorem d_L_update_1 : decode b_L_update 1 = .ok (.iload_n 1, 1) := by decide +kernel
theorem d_L_update_2 : decode b_L_update 2 = .ok (.iconst 2, 1) := by decide +kernel
theorem d_L_update_3 : decode b_L_update 3 = .ok (.invokevirtual 89, 3) := by decide +kernel
theorem d_L_update_6 : decode b_L_update 6 = .ok (.astore 4, 2) := by decide +kernel
theorem d_L_update_8 : decode b_L_update 8 = .ok (.aload_n 0, 1) := by decide +kernel
theorem d_L_update_9 : decode b_L_update 9 = .ok (.aload 4, 2) := by decide +kernel
theorem d_L_update_11 : decode b_L_update 11 = .ok (.getfield 44, 3) := by decide +kernel
theorem d_L_update_14 : decode b_L_update 14 = .ok (.arraylength, 1) := by decide +kernel
theorem d_L_update_15 : decode b_L_update 15 = .ok (.invokevirtual 27, 3) := by decide +kernel
theorem d_L_update_18 : decode b_L_update 18 = .ok (.aload 4, 2) := by decide +kernel
theorem d_L_update_20 : decode b_L_update 20 = .ok (.iload_n 2, 1) := by decide +kernel
theorem d_L_update_21 : decode b_L_update 21 = .ok (.invokestatic 117, 3) := by decide +kernel
theorem d_L_update_24 : decode b_L_update 24 = .ok (.aload_n 0, 1) := by decide +kernel
theorem d_L_update_25 : decode b_L_update 25 = .ok (.aload 4, 2) := by decide +kernel
theorem d_L_update_27 : decode b_L_update 27 = .ok (.aload 4, 2) := by decide +kernel
theorem d_L_update_29 : decode b_L_update 29 = .ok (.getfield 44, 3) := by decide +kernel
theorem d_L_update_32 : decode b_L_update 32 = .ok (.iload_n 2, 1) := by decide +kernel
theorem d_L_update_33 : decode b_L_update 33 = .ok (.iload_n 3, 1) := by decide +kernel
theorem d_L_update_34 : decode b_L_update 34 = .ok (.invokestatic 106, 3) := by decide +kernel
theorem d_L_update_37 : decode b_L_update 37 = .ok (.invokevirtual 56, 3) := by decide +kernel
theorem d_L_update_40 : decode b_L_update 40 = .ok (.invokevirtual 36, 3) := by decide +kernel
theorem d_L_update_43 : decode b_L_update 43 = .ok (.ireturn, 1) := by decide +kernel
theorem d_L_refuseOutside_0 : decode b_L_refuseOutside 0 = .ok (.iload_n 1, 1) := by decide +kernel
theorem d_L_refuseOutside_1 : decode b_L_refuseOutside 1 = .ok (.ifCond .lt 12, 3) := by decide +kernel
theorem d_L_refuseOutside_4 : decode b_L_refuseOutside 4 = .ok (.iload_n 1, 1) := by decide +kernel
theorem d_L_refuseOutside_5 : decode b_L_refuseOutside 5 = .ok (.aload_n 0, 1) := by decide +kernel
theorem d_L_refuseOutside_6 : decode b_L_refuseOutside 6 = .ok (.getfield 44, 3) := by decide +kernel
theorem d_L_refuseOutside_9 : decode b_L_refuseOutside 9 = .ok (.arraylength, 1) := by decide +kernel
theorem d_L_refuseOutside_10 : decode b_L_refuseOutside 10 = .ok (.if_icmp .lt 13, 3) := by decide +kernel
theorem d_L_refuseOutside_13 : decode b_L_refuseOutside 13 = .ok (.new 163, 3) := by decide +kernel
theorem d_L_refuseOutside_16 : decode b_L_refuseOutside 16 = .ok (.dup, 1) := by decide +kernel
theorem d_L_refuseOutside_17 : decode b_L_refuseOutside 17 = .ok (.ldc 165, 2) := by decide +kernel
theorem d_L_refuseOutside_19 : decode b_L_refuseOutside 19 = .ok (.invokespecial 167, 3) := by decide +kernel
theorem d_L_refuseOutside_22 : decode b_L_refuseOutside 22 = .ok (.athrow, 1) := by decide +kernel
theorem d_L_refuseOutside_23 : decode b_L_refuseOutside 23 = .ok (.return_, 1) := by decide +kernel
theorem d_W_at_0 : decode b_W_at 0 = .ok (.aload_n 3, 1) := by decide +kernel
theorem d_W_at_1 : decode b_W_at 1 = .ok (.iconst 0, 1) := by decide +kernel
theorem d_W_at_2 : decode b_W_at 2 = .ok (.aload_n 0, 1) := by decide +kernel
theorem d_W_at_3 : decode b_W_at 3 = .ok (.iload_n 1, 1) := by decide +kernel
theorem d_W_at_4 : decode b_W_at 4 = .ok (.iload_n 2, 1) := by decide +kernel
theorem d_W_at_5 : decode b_W_at 5 = .ok (.invokevirtual 44, 3) := by decide +kernel
theorem d_W_at_8 : decode b_W_at 8 = .ok (.i2l, 1) := by decide +kernel
theorem d_W_at_9 : decode b_W_at 9 = .ok (.lastore, 1) := by decide +kernel
theorem d_W_at_10 : decode b_W_at 10 = .ok (.goto 11, 3) := by decide +kernel
theorem d_W_at_13 : decode b_W_at 13 = .ok (.astore 4, 2) := by decide +kernel
theorem d_W_at_15 : decode b_W_at 15 = .ok (.iconst 1, 1) := by decide +kernel
theorem d_W_at_16 : decode b_W_at 16 = .ok (.ireturn, 1) := by decide +kernel
theorem d_W_at_17 : decode b_W_at 17 = .ok (.astore 4, 2) := by decide +kernel
theorem d_W_at_19 : decode b_W_at 19 = .ok (.iconst 2, 1) := by decide +kernel
theorem d_W_at_20 : decode b_W_at 20 = .ok (.ireturn, 1) := by decide +kernel
theorem d_W_at_21 : decode b_W_at 21 = .ok (.iconst 0, 1) := by decide +kernel
theorem d_W_at_22 : decode b_W_at 22 = .ok (.ireturn, 1) := by decide +kernel
theorem d_L_at_0 : decode b_L_at 0 = .ok (.aload_n 0, 1) := by decide +kernel
theorem d_L_at_1 : decode b_L_at 1 = .ok (.iload_n 1, 1) := by decide +kernel
theorem d_L_at_2 : decode b_L_at 2 = .ok (.invokevirtual 69, 3) := by decide +kernel
theorem d_L_at_5 : decode b_L_at 5 = .ok (.astore_n 3, 1) := by decide +kernel
theorem d_L_at_6 : decode b_L_at 6 = .ok (.aload_n 3, 1) := by decide +kernel
theorem d_L_at_7 : decode b_L_at 7 = .ok (.iload_n 2, 1) := by decide +kernel
theorem d_L_at_8 : decode b_L_at 8 = .ok (.invokestatic 117, 3) := by decide +kernel
theorem d_L_at_11 : decode b_L_at 11 = .ok (.aload_n 3, 1) := by decide +kernel
theorem d_L_at_12 : decode b_L_at 12 = .ok (.getfield 44, 3) := by decide +kernel
theorem d_L_at_15 : decode b_L_at 15 = .ok (.iload_n 2, 1) := by decide +kernel
theorem d_L_at_16 : decode b_L_at 16 = .ok (.iaload, 1) := by decide +kernel
theorem d_L_at_17 : decode b_L_at 17 = .ok (.ireturn, 1) := by decide +kernel
theorem d_W_size_0 : decode b_W_size 0 = .ok (.aload_n 2, 1) := by decide +kernel
theorem d_W_size_1 : decode b_W_size 1 = .ok (.iconst 0, 1) := by decide +kernel
theorem d_W_size_2 : decode b_W_size 2 = .ok (.aload_n 0, 1) := by decide +kernel
theorem d_W_size_3 : decode b_W_size 3 = .ok (.iload_n 1, 1) := by decide +kernel
theorem d_W_size_4 : decode b_W_size 4 = .ok (.invokevirtual 47, 3) := by decide +kernel
theorem d_W_size_7 : decode b_W_size 7 = .ok (.i2l, 1) := by decide +kernel
theorem d_W_size_8 : decode b_W_size 8 = .ok (.lastore, 1) := by decide +kernel
theorem d_W_size_9 : decode b_W_size 9 = .ok (.goto 6, 3) := by decide +kernel
theorem d_W_size_12 : decode b_W_size 12 = .ok (.astore_n 3, 1) := by decide +kernel
theorem d_W_size_13 : decode b_W_size 13 = .ok (.iconst 1, 1) := by decide +kernel
theorem d_W_size_14 : decode b_W_size 14 = .ok (.ireturn, 1) := by decide +kernel
theorem d_W_size_15 : decode b_W_size 15 = .ok (.iconst 0, 1) := by decide +kernel
theorem d_W_size_16 : decode b_W_size 16 = .ok (.ireturn, 1) := by decide +kernel
theorem d_L_size_0 : decode b_L_size 0 = .ok (.aload_n 0, 1) := by decide +kernel
theorem d_L_size_1 : decode b_L_size 1 = .ok (.iload_n 1, 1) := by decide +kernel
theorem d_L_size_2 : decode b_L_size 2 = .ok (.invokevirtual 69, 3) := by decide +kernel
theorem d_L_size_5 : decode b_L_size 5 = .ok (.getfield 44, 3) := by decide +kernel
theorem d_L_size_8 : decode b_L_size 8 = .ok (.arraylength, 1) := by decide +kernel
theorem d_L_size_9 : decode b_L_size 9 = .ok (.ireturn, 1) := by decide +kernel
theorem d_W_parts_0 : decode b_W_parts 0 = .ok (.aload_n 2, 1) := by decide +kernel
theorem d_W_parts_1 : decode b_W_parts 1 = .ok (.iconst 0, 1) := by decide +kernel
theorem d_W_parts_2 : decode b_W_parts 2 = .ok (.aload_n 0, 1) := by decide +kernel
theorem d_W_parts_3 : decode b_W_parts 3 = .ok (.iload_n 1, 1) := by decide +kernel
theorem d_W_parts_4 : decode b_W_parts 4 = .ok (.invokevirtual 50, 3) := by decide +kernel
theorem d_W_parts_7 : decode b_W_parts 7 = .ok (.i2l, 1) := by decide +kernel
theorem d_W_parts_8 : decode b_W_parts 8 = .ok (.lastore, 1) := by decide +kernel
theorem d_W_parts_9 : decode b_W_parts 9 = .ok (.goto 6, 3) := by decide +kernel
theorem d_W_parts_12 : decode b_W_parts 12 = .ok (.astore_n 3, 1) := by decide +kernel
theorem d_W_parts_13 : decode b_W_parts 13 = .ok (.iconst 1, 1) := by decide +kernel
theorem d_W_parts_14 : decode b_W_parts 14 = .ok (.ireturn, 1) := by decide +kernel
theorem d_W_parts_15 : decode b_W_parts 15 = .ok (.iconst 0, 1) := by decide +kernel
theorem d_W_parts_16 : decode b_W_parts 16 = .ok (.ireturn, 1) := by decide +kernel
theorem d_L_parts_0 : decode b_L_parts 0 = .ok (.aload_n 0, 1) := by decide +kernel
theorem d_L_parts_1 : decode b_L_parts 1 = .ok (.iload_n 1, 1) := by decide +kernel
theorem d_L_parts_2 : decode b_L_parts 2 = .ok (.invokevirtual 69, 3) := by decide +kernel
theorem d_L_parts_5 : decode b_L_parts 5 = .ok (.astore_n 2, 1) := by decide +kernel
theorem d_L_parts_6 : decode b_L_parts 6 = .ok (.aload_n 2, 1) := by decide +kernel
theorem d_L_parts_7 : decode b_L_parts 7 = .ok (.getfield 44, 3) := by decide +kernel
theorem d_L_parts_10 : decode b_L_parts 10 = .ok (.arraylength, 1) := by decide +kernel
theorem d_L_parts_11 : decode b_L_parts 11 = .ok (.istore_n 3, 1) := by decide +kernel
theorem d_L_parts_12 : decode b_L_parts 12 = .ok (.aload_n 2, 1) := by decide +kernel
theorem d_L_parts_13 : decode b_L_parts 13 = .ok (.getfield 78, 3) := by decide +kernel
theorem d_L_parts_16 : decode b_L_parts 16 = .ok (.iconst 2, 1) := by decide +kernel
theorem d_L_parts_17 : decode b_L_parts 17 = .ok (.if_icmp .ne 15, 3) := by decide +kernel
theorem d_L_parts_20 : decode b_L_parts 20 = .ok (.aload_n 2, 1) := by decide +kernel
theorem d_L_parts_21 : decode b_L_parts 21 = .ok (.getfield 109, 3) := by decide +kernel
theorem d_L_parts_24 : decode b_L_parts 24 = .ok (.ifCond .ne 8, 3) := by decide +kernel
theorem d_L_parts_27 : decode b_L_parts 27 = .ok (.iload_n 3, 1) := by decide +kernel
theorem d_L_parts_28 : decode b_L_parts 28 = .ok (.invokestatic 121, 3) := by decide +kernel
theorem d_L_parts_31 : decode b_L_parts 31 = .ok (.ireturn, 1) := by decide +kernel
theorem d_L_parts_32 : decode b_L_parts 32 = .ok (.aload_n 2, 1) := by decide +kernel
theorem d_L_parts_33 : decode b_L_parts 33 = .ok (.getfield 109, 3) := by decide +kernel
theorem d_L_parts_36 : decode b_L_parts 36 = .ok (.iconst 1, 1) := by decide +kernel
theorem d_L_parts_37 : decode b_L_parts 37 = .ok (.if_icmp .ne 24, 3) := by decide +kernel
theorem d_L_parts_40 : decode b_L_parts 40 = .ok (.aload_n 2, 1) := by decide +kernel
theorem d_L_parts_41 : decode b_L_parts 41 = .ok (.getfield 78, 3) := by decide +kernel
theorem d_L_parts_44 : decode b_L_parts 44 = .ok (.iconst 2, 1) := by decide +kernel
theorem d_L_parts_45 : decode b_L_parts 45 = .ok (.if_icmp .eq 11, 3) := by decide +kernel
theorem d_L_parts_48 : decode b_L_parts 48 = .ok (.aload_n 2, 1) := by decide +kernel
theorem d_L_parts_49 : decode b_L_parts 49 = .ok (.getfield 78, 3) := by decide +kernel
theorem d_L_parts_52 : decode b_L_parts 52 = .ok (.iconst 1, 1) := by decide +kernel
theorem d_L_parts_53 : decode b_L_parts 53 = .ok (.if_icmp .ne 8, 3) := by decide +kernel
theorem d_L_parts_56 : decode b_L_parts 56 = .ok (.iload_n 3, 1) := by decide +kernel
theorem d_L_parts_57 : decode b_L_parts 57 = .ok (.invokestatic 125, 3) := by decide +kernel
theorem d_L_parts_60 : decode b_L_parts 60 = .ok (.ireturn, 1) := by decide +kernel
theorem d_L_parts_61 : decode b_L_parts 61 = .ok (.iload_n 3, 1) := by decide +kernel
theorem d_L_parts_62 : decode b_L_parts 62 = .ok (.iconst 1, 1) := by decide +kernel
theorem d_L_parts_63 : decode b_L_parts 63 = .ok (.invokestatic 130, 3) := by decide +kernel
theorem d_L_parts_66 : decode b_L_parts 66 = .ok (.ireturn, 1) := by decide +kernel
theorem d_L_fewestTrees_0 : decode b_L_fewestTrees 0 = .ok (.iconst 0, 1) := by decide +kernel
theorem d_L_fewestTrees_1 : decode b_L_fewestTrees 1 = .ok (.istore_n 1, 1) := by decide +kernel
theorem d_L_fewestTrees_2 : decode b_L_fewestTrees 2 = .ok (.iload_n 0, 1) := by decide +kernel
theorem d_L_fewestTrees_3 : decode b_L_fewestTrees 3 = .ok (.istore_n 2, 1) := by decide +kernel
theorem d_L_fewestTrees_4 : decode b_L_fewestTrees 4 = .ok (.bipush 63, 2) := by decide +kernel
theorem d_L_fewestTrees_6 : decode b_L_fewestTrees 6 = .ok (.istore_n 3, 1) := by decide +kernel
theorem d_L_fewestTrees_7 : decode b_L_fewestTrees 7 = .ok (.iload_n 3, 1) := by decide +kernel
theorem d_L_fewestTrees_8 : decode b_L_fewestTrees 8 = .ok (.ifCond .le 20, 3) := by decide +kernel
theorem d_L_fewestTrees_11 : decode b_L_fewestTrees 11 = .ok (.iload_n 1, 1) := by decide +kernel
theorem d_L_fewestTrees_12 : decode b_L_fewestTrees 12 = .ok (.iload_n 2, 1) := by decide +kernel
theorem d_L_fewestTrees_13 : decode b_L_fewestTrees 13 = .ok (.iload_n 3, 1) := by decide +kernel
theorem d_L_fewestTrees_14 : decode b_L_fewestTrees 14 = .ok (.idiv, 1) := by decide +kernel
theorem d_L_fewestTrees_15 : decode b_L_fewestTrees 15 = .ok (.iadd, 1) := by decide +kernel
theorem d_L_fewestTrees_16 : decode b_L_fewestTrees 16 = .ok (.istore_n 1, 1) := by decide +kernel
theorem d_L_fewestTrees_17 : decode b_L_fewestTrees 17 = .ok (.iload_n 2, 1) := by decide +kernel
theorem d_L_fewestTrees_18 : decode b_L_fewestTrees 18 = .ok (.iload_n 3, 1) := by decide +kernel
theorem d_L_fewestTrees_19 : decode b_L_fewestTrees 19 = .ok (.irem, 1) := by decide +kernel
theorem d_L_fewestTrees_20 : decode b_L_fewestTrees 20 = .ok (.istore_n 2, 1) := by decide +kernel
