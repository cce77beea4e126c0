theorem d_L_init_0 : decode b_L_init 0 = .ok (.aload_n 0, 1) := by decide +kernel
theorem d_L_init_1 : decode b_L_init 1 = .ok (.invokespecial 1, 3) := by decide +kernel
theorem d_L_init_4 : decode b_L_init 4 = .ok (.aload_n 0, 1) := by decide +kernel
theorem d_L_init_5 : decode b_L_init 5 = .ok (.new 7, 3) := by decide +kernel
theorem d_L_init_8 : decode b_L_init 8 = .ok (.dup, 1) := by decide +kernel
theorem d_L_init_9 : decode b_L_init 9 = .ok (.invokespecial 9, 3) := by decide +kernel
theorem d_L_init_12 : decode b_L_init 12 = .ok (.putfield 10, 3) := by decide +kernel
theorem d_L_init_15 : decode b_L_init 15 = .ok (.return_, 1) := by decide +kernel
theorem d_OJ_init_0 : decode b_OJ_init 0 = .ok (.return_, 1) := by decide +kernel
theorem d_AL_init_0 : decode b_AL_init 0 = .ok (.aload_n 0, 1) := by decide +kernel
theorem d_AL_init_1 : decode b_AL_init 1 = .ok (.invokespecial 1, 3) := by decide +kernel
theorem d_AL_init_4 : decode b_AL_init 4 = .ok (.aload_n 0, 1) := by decide +kernel
theorem d_AL_init_5 : decode b_AL_init 5 = .ok (.getstatic 39, 3) := by decide +kernel
theorem d_AL_init_8 : decode b_AL_init 8 = .ok (.putfield 9, 3) := by decide +kernel
theorem d_AL_init_11 : decode b_AL_init 11 = .ok (.return_, 1) := by decide +kernel
theorem d_AB_init_0 : decode b_AB_init 0 = .ok (.aload_n 0, 1) := by decide +kernel
theorem d_AB_init_1 : decode b_AB_init 1 = .ok (.invokespecial 1, 3) := by decide +kernel
theorem d_AB_init_4 : decode b_AB_init 4 = .ok (.aload_n 0, 1) := by decide +kernel
theorem d_AB_init_5 : decode b_AB_init 5 = .ok (.iconst 0, 1) := by decide +kernel
theorem d_AB_init_6 : decode b_AB_init 6 = .ok (.putfield 7, 3) := by decide +kernel
theorem d_AB_init_9 : decode b_AB_init 9 = .ok (.return_, 1) := by decide +kernel
theorem d_AC_init_0 : decode b_AC_init 0 = .ok (.aload_n 0, 1) := by decide +kernel
theorem d_AC_init_1 : decode b_AC_init 1 = .ok (.invokespecial 1, 3) := by decide +kernel
theorem d_AC_init_4 : decode b_AC_init 4 = .ok (.return_, 1) := by decide +kernel
theorem d_L_versions_0 : decode b_L_versions 0 = .ok (.aload_n 0, 1) := by decide +kernel
theorem d_L_versions_1 : decode b_L_versions 1 = .ok (.getfield 10, 3) := by decide +kernel
theorem d_L_versions_4 : decode b_L_versions 4 = .ok (.invokevirtual 136, 3) := by decide +kernel
theorem d_L_versions_7 : decode b_L_versions 7 = .ok (.ireturn, 1) := by decide +kernel
theorem d_AL_size_0 : decode b_AL_size 0 = .ok (.aload_n 0, 1) := by decide +kernel
theorem d_AL_size_1 : decode b_AL_size 1 = .ok (.getfield 48, 3) := by decide +kernel
theorem d_AL_size_4 : decode b_AL_size 4 = .ok (.ireturn, 1) := by decide +kernel
theorem d_W_empty_0 : decode b_W_empty 0 = .ok (.aload_n 3, 1) := by decide +kernel
theorem d_W_empty_1 : decode b_W_empty 1 = .ok (.iconst 0, 1) := by decide +kernel
theorem d_W_empty_2 : decode b_W_empty 2 = .ok (.aload_n 0, 1) := by decide +kernel
theorem d_W_empty_3 : decode b_W_empty 3 = .ok (.iload_n 1, 1) := by decide +kernel
theorem d_W_empty_4 : decode b_W_empty 4 = .ok (.iload_n 2, 1) := by decide +kernel
theorem d_W_empty_5 : decode b_W_empty 5 = .ok (.invokevirtual 7, 3) := by decide +kernel
theorem d_W_empty_8 : decode b_W_empty 8 = .ok (.i2l, 1) := by decide +kernel
theorem d_W_empty_9 : decode b_W_empty 9 = .ok (.lastore, 1) := by decide +kernel
theorem d_W_empty_10 : decode b_W_empty 10 = .ok (.goto 11, 3) := by decide +kernel
theorem d_W_empty_13 : decode b_W_empty 13 = .ok (.astore 4, 2) := by decide +kernel
theorem d_W_empty_15 : decode b_W_empty 15 = .ok (.iconst 1, 1) := by decide +kernel
theorem d_W_empty_16 : decode b_W_empty 16 = .ok (.ireturn, 1) := by decide +kernel
theorem d_W_empty_17 : decode b_W_empty 17 = .ok (.astore 4, 2) := by decide +kernel
theorem d_W_empty_19 : decode b_W_empty 19 = .ok (.iconst 2, 1) := by decide +kernel
theorem d_W_empty_20 : decode b_W_empty 20 = .ok (.ireturn, 1) := by decide +kernel
theorem d_W_empty_21 : decode b_W_empty 21 = .ok (.iconst 0, 1) := by decide +kernel
theorem d_W_empty_22 : decode b_W_empty 22 = .ok (.ireturn, 1) := by decide +kernel
theorem d_L_empty_0 : decode b_L_empty 0 = .ok (.iload_n 1, 1) := by decide +kernel
theorem d_L_empty_1 : decode b_L_empty 1 = .ok (.iload_n 2, 1) := by decide +kernel
theorem d_L_empty_2 : decode b_L_empty 2 = .ok (.invokestatic 16, 3) := by decide +kernel
theorem d_L_empty_5 : decode b_L_empty 5 = .ok (.ifCond .ne 13, 3) := by decide +kernel
theorem d_L_empty_8 : decode b_L_empty 8 = .ok (.new 20, 3) := by decide +kernel
theorem d_L_empty_11 : decode b_L_empty 11 = .ok (.dup, 1) := by decide +kernel
theorem d_L_empty_12 : decode b_L_empty 12 = .ok (.ldc 22, 2) := by decide +kernel
theorem d_L_empty_14 : decode b_L_empty 14 = .ok (.invokespecial 24, 3) := by decide +kernel
theorem d_L_empty_17 : decode b_L_empty 17 = .ok (.athrow, 1) := by decide +kernel
theorem d_L_empty_18 : decode b_L_empty 18 = .ok (.aload_n 0, 1) := by decide +kernel
theorem d_L_empty_19 : decode b_L_empty 19 = .ok (.iconst 0, 1) := by decide +kernel
theorem d_L_empty_20 : decode b_L_empty 20 = .ok (.invokevirtual 27, 3) := by decide +kernel
theorem d_L_empty_23 : decode b_L_empty 23 = .ok (.aload_n 0, 1) := by decide +kernel
theorem d_L_empty_24 : decode b_L_empty 24 = .ok (.new 31, 3) := by decide +kernel
theorem d_L_empty_27 : decode b_L_empty 27 = .ok (.dup, 1) := by decide +kernel
theorem d_L_empty_28 : decode b_L_empty 28 = .ok (.iload_n 1, 1) := by decide +kernel
theorem d_L_empty_29 : decode b_L_empty 29 = .ok (.iload_n 2, 1) := by decide +kernel
theorem d_L_empty_30 : decode b_L_empty 30 = .ok (.iconst 0, 1) := by decide +kernel
theorem d_L_empty_31 : decode b_L_empty 31 = .ok (.newarray .int, 2) := by decide +kernel
theorem d_L_empty_33 : decode b_L_empty 33 = .ok (.iconst 0, 1) := by decide +kernel
theorem d_L_empty_34 : decode b_L_empty 34 = .ok (.newarray .int, 2) := by decide +kernel
theorem d_L_empty_36 : decode b_L_empty 36 = .ok (.invokespecial 33, 3) := by decide +kernel
theorem d_L_empty_39 : decode b_L_empty 39 = .ok (.invokevirtual 36, 3) := by decide +kernel
theorem d_L_empty_42 : decode b_L_empty 42 = .ok (.ireturn, 1) := by decide +kernel
theorem d_L_isKindWithForm_0 : decode b_L_isKindWithForm 0 = .ok (.iload_n 0, 1) := by decide +kernel
theorem d_L_isKindWithForm_1 : decode b_L_isKindWithForm 1 = .ok (.ifCond .lt 28, 3) := by decide +kernel
theorem d_L_isKindWithForm_4 : decode b_L_isKindWithForm 4 = .ok (.iload_n 0, 1) := by decide +kernel
theorem d_L_isKindWithForm_5 : decode b_L_isKindWithForm 5 = .ok (.getstatic 168, 3) := by decide +kernel
theorem d_L_isKindWithForm_8 : decode b_L_isKindWithForm 8 = .ok (.arraylength, 1) := by decide +kernel
theorem d_L_isKindWithForm_9 : decode b_L_isKindWithForm 9 = .ok (.if_icmp .ge 20, 3) := by decide +kernel
theorem d_L_isKindWithForm_12 : decode b_L_isKindWithForm 12 = .ok (.iload_n 1, 1) := by decide +kernel
theorem d_L_isKindWithForm_13 : decode b_L_isKindWithForm 13 = .ok (.ifCond .lt 16, 3) := by decide +kernel
theorem d_L_isKindWithForm_16 : decode b_L_isKindWithForm 16 = .ok (.iload_n 1, 1) := by decide +kernel
theorem d_L_isKindWithForm_17 : decode b_L_isKindWithForm 17 = .ok (.getstatic 168, 3) := by decide +kernel
theorem d_L_isKindWithForm_20 : decode b_L_isKindWithForm 20 = .ok (.iload_n 0, 1) := by decide +kernel
theorem d_L_isKindWithForm_21 : decode b_L_isKindWithForm 21 = .ok (.iaload, 1) := by decide +kernel
theorem d_L_isKindWithForm_22 : decode b_L_isKindWithForm 22 = .ok (.if_icmp .ge 7, 3) := by decide +kernel
theorem d_L_isKindWithForm_25 : decode b_L_isKindWithForm 25 = .ok (.iconst 1, 1) := by decide +kernel
theorem d_L_isKindWithForm_26 : decode b_L_isKindWithForm 26 = .ok (.goto 4, 3) := by decide +kernel
theorem d_L_isKindWithForm_29 : decode b_L_isKindWithForm 29 = .ok (.iconst 0, 1) := by decide +kernel
theorem d_L_isKindWithForm_30 : decode b_L_isKindWithForm 30 = .ok (.ireturn, 1) := by decide +kernel
theorem d_L_refuseBeyondLimits_0 : decode b_L_refuseBeyondLimits 0 = .ok (.aload_n 0, 1) := by decide +kernel
theorem d_L_refuseBeyondLimits_1 : decode b_L_refuseBeyondLimits 1 = .ok (.getfield 10, 3) := by decide +kernel
theorem d_L_refuseBeyondLimits_4 : decode b_L_refuseBeyondLimits 4 = .ok (.invokevirtual 136, 3) := by decide +kernel
theorem d_L_refuseBeyondLimits_7 : decode b_L_refuseBeyondLimits 7 = .ok (.bipush 64, 2) := by decide +kernel
theorem d_L_refuseBeyondLimits_9 : decode b_L_refuseBeyondLimits 9 = .ok (.if_icmp .lt 13, 3) := by decide +kernel
theorem d_L_refuseBeyondLimits_12 : decode b_L_refuseBeyondLimits 12 = .ok (.new 150, 3) := by decide +kernel
theorem d_L_refuseBeyondLimits_15 : decode b_L_refuseBeyondLimits 15 = .ok (.dup, 1) := by decide +kernel
theorem d_L_refuseBeyondLimits_16 : decode b_L_refuseBeyondLimits 16 = .ok (.ldc 152, 2) := by decide +kernel
theorem d_L_refuseBeyondLimits_18 : decode b_L_refuseBeyondLimits 18 = .ok (.invokespecial 154, 3) := by decide +kernel
theorem d_L_refuseBeyondLimits_21 : decode b_L_refuseBeyondLimits 21 = .ok (.athrow, 1) := by decide +kernel
theorem d_L_refuseBeyondLimits_22 : decode b_L_refuseBeyondLimits 22 = .ok (.iload_n 1, 1) := by decide +kernel
theorem d_L_refuseBeyondLimits_23 : decode b_L_refuseBeyondLimits 23 = .ok (.bipush 100, 2) := by decide +kernel
theorem d_L_refuseBeyondLimits_25 : decode b_L_refuseBeyondLimits 25 = .ok (.if_icmp .le 13, 3) := by decide +kernel
theorem d_L_refuseBeyondLimits_28 : decode b_L_refuseBeyondLimits 28 = .ok (.new 150, 3) := by decide +kernel
theorem d_L_refuseBeyondLimits_31 : decode b_L_refuseBeyondLimits 31 = .ok (.dup, 1) := by decide +kernel
theorem d_L_refuseBeyondLimits_32 : decode b_L_refuseBeyondLimits 32 = .ok (.ldc 155, 2) := by decide +kernel
theorem d_L_refuseBeyondLimits_34 : decode b_L_refuseBeyondLimits 34 = .ok (.invokespecial 154, 3) := by decide +kernel
theorem d_L_refuseBeyondLimits_37 : decode b_L_refuseBeyondLimits 37 = .ok (.athrow, 1) := by decide +kernel
theorem d_L_refuseBeyondLimits_38 : decode b_L_refuseBeyondLimits 38 = .ok (.return_, 1) := by decide +kernel
theorem d_V_init_0 : decode b_V_init 0 = .ok (.aload_n 0, 1) := by decide +kernel
theorem d_V_init_1 : decode b_V_init 1 = .ok (.invokespecial 1, 3) := by decide +kernel
theorem d_V_init_4 : decode b_V_init 4 = .ok (.aload_n 0, 1) := by decide +kernel
theorem d_V_init_5 : decode b_V_init 5 = .ok (.iload_n 1, 1) := by decide +kernel
theorem d_V_init_6 : decode b_V_init 6 = .ok (.putfield 7, 3) := by decide +kernel
theorem d_V_init_9 : decode b_V_init 9 = .ok (.aload_n 0, 1) := by decide +kernel
theorem d_V_init_10 : decode b_V_init 10 = .ok (.iload_n 2, 1) := by decide +kernel
theorem d_V_init_11 : decode b_V_init 11 = .ok (.putfield 13, 3) := by decide +kernel
theorem d_V_init_14 : decode b_V_init 14 = .ok (.aload_n 0, 1) := by decide +kernel
theorem d_V_init_15 : decode b_V_init 15 = .ok (.aload_n 3, 1) := by decide +kernel
theorem d_V_init_16 : decode b_V_init 16 = .ok (.putfield 16, 3) := by decide +kernel
theorem d_V_init_19 : decode b_V_init 19 = .ok (.aload_n 0, 1) := by decide +kernel
theorem d_V_init_20 : decode b_V_init 20 = .ok (.aload 4, 2) := by decide +kernel
theorem d_V_init_22 : decode b_V_init 22 = .ok (.putfield 20, 3) := by decide +kernel
theorem d_V_init_25 : decode b_V_init 25 = .ok (.return_, 1) := by decide +kernel
theorem d_L_keep_0 : decode b_L_keep 0 = .ok (.aload_n 0, 1) := by decide +kernel
theorem d_L_keep_1 : decode b_L_keep 1 = .ok (.getfield 10, 3) := by decide +kernel
theorem d_L_keep_4 : decode b_L_keep 4 = .ok (.aload_n 1, 1) := by decide +kernel
theorem d_L_keep_5 : decode b_L_keep 5 = .ok (.invokevirtual 157, 3) := by decide +kernel
theorem d_L_keep_8 : decode b_L_keep 8 = .ok (.pop, 1) := by decide +kernel
theorem d_L_keep_9 : decode b_L_keep 9 = .ok (.aload_n 0, 1) := by decide +kernel
theorem d_L_keep_10 : decode b_L_keep 10 = .ok (.getfield 10, 3) := by decide +kernel
theorem d_L_keep_13 : decode b_L_keep 13 = .ok (.invokevirtual 136, 3) := by decide +kernel
theorem d_L_keep_16 : decode b_L_keep 16 = .ok (.iconst 1, 1) := by decide +kernel
theorem d_L_keep_17 : decode b_L_keep 17 = .ok (.isub, 1) := by decide +kernel
theorem d_L_keep_18 : decode b_L_keep 18 = .ok (.ireturn, 1) := by decide +kernel
theorem d_AL_add_0 : decode b_AL_add 0 = .ok (.aload_n 0, 1) := by decide +kernel
theorem d_AL_add_1 : decode b_AL_add 1 = .ok (.dup, 1) := by decide +kernel
theorem d_AL_add_2 : decode b_AL_add 2 = .ok (.getfield 63, 3) := by decide +kernel
theorem d_AL_add_5 : decode b_AL_add 5 = .ok (.iconst 1, 1) := by decide +kernel
theorem d_AL_add_6 : decode b_AL_add 6 = .ok (.iadd, 1) := by decide +kernel
theorem d_AL_add_7 : decode b_AL_add 7 = .ok (.putfield 63, 3) := by decide +kernel
theorem d_AL_add_10 : decode b_AL_add 10 = .ok (.aload_n 0, 1) := by decide +kernel
theorem d_AL_add_11 : decode b_AL_add 11 = .ok (.aload_n 1, 1) := by decide +kernel
theorem d_AL_add_12 : decode b_AL_add 12 = .ok (.aload_n 0, 1) := by decide +kernel
theorem d_AL_add_13 : decode b_AL_add 13 = .ok (.getfield 9, 3) := by decide +kernel
theorem d_AL_add_16 : decode b_AL_add 16 = .ok (.aload_n 0, 1) := by decide +kernel
theorem d_AL_add_17 : decode b_AL_add 17 = .ok (.getfield 48, 3) := by decide +kernel
theorem d_AL_add_20 : decode b_AL_add 20 = .ok (.invokevirtual 131, 3) := by decide +kernel
theorem d_AL_add_23 : decode b_AL_add 23 = .ok (.iconst 1, 1) := by decide +kernel
theorem d_AL_add_24 : decode b_AL_add 24 = .ok (.ireturn, 1) := by decide +kernel
theorem d_AL_add3_0 : decode b_AL_add3 0 = .ok (.iload_n 3, 1) := by decide +kernel
theorem d_AL_add3_1 : decode b_AL_add3 1 = .ok (.aload_n 2, 1) := by decide +kernel
theorem d_AL_add3_2 : decode b_AL_add3 2 = .ok (.arraylength, 1) := by decide +kernel
theorem d_AL_add3_3 : decode b_AL_add3 3 = .ok (.if_icmp .ne 8, 3) := by decide +kernel
theorem d_AL_add3_6 : decode b_AL_add3 6 = .ok (.aload_n 0, 1) := by decide +kernel
theorem d_AL_add3_7 : decode b_AL_add3 7 = .ok (.invokevirtual 129, 3) := by decide +kernel
theorem d_AL_add3_10 : decode b_AL_add3 10 = .ok (.astore_n 2, 1) := by decide +kernel
theorem d_AL_add3_11 : decode b_AL_add3 11 = .ok (.aload_n 2, 1) := by decide +kernel
theorem d_AL_add3_12 : decode b_AL_add3 12 = .ok (.iload_n 3, 1) := by decide +kernel
theorem d_AL_add3_13 : decode b_AL_add3 13 = .ok (.aload_n 1, 1) := by decide +kernel
theorem d_AL_add3_14 : decode b_AL_add3 14 = .ok (.aastore, 1) := by decide +kernel
theorem d_AL_add3_15 : decode b_AL_add3 15 = .ok (.aload_n 0, 1) := by decide +kernel
theorem d_AL_add3_16 : decode b_AL_add3 16 = .ok (.iload_n 3, 1) := by decide +kernel
theorem d_AL_add3_17 : decode b_AL_add3 17 = .ok (.iconst 1, 1) := by decide +kernel
theorem d_AL_add3_18 : decode b_AL_add3 18 = .ok (.iadd, 1) := by decide +kernel
theorem d_AL_add3_19 : decode b_AL_add3 19 = .ok (.putfield 48, 3) := by decide +kernel
theorem d_AL_add3_22 : decode b_AL_add3 22 = .ok (.return_, 1) := by decide +kernel
theorem d_AL_grow_0 : decode b_AL_grow 0 = .ok (.aload_n 0, 1) := by decide +kernel
theorem d_AL_grow_1 : decode b_AL_grow 1 = .ok (.aload_n 0, 1) := by decide +kernel
theorem d_AL_grow_2 : decode b_AL_grow 2 = .ok (.getfield 48, 3) := by decide +kernel
theorem d_AL_grow_5 : decode b_AL_grow 5 = .ok (.iconst 1, 1) := by decide +kernel
theorem d_AL_grow_6 : decode b_AL_grow 6 = .ok (.iadd, 1) := by decide +kernel
theorem d_AL_grow_7 : decode b_AL_grow 7 = .ok (.invokevirtual 69, 3) := by decide +kernel
theorem d_AL_grow_10 : decode b_AL_grow 10 = .ok (.areturn, 1) := by decide +kernel
theorem d_AL_growI_0 : decode b_AL_growI 0 = .ok (.aload_n 0, 1) := by decide +kernel
theorem d_AL_growI_1 : decode b_AL_growI 1 = .ok (.getfield 9, 3) := by decide +kernel
theorem d_AL_growI_4 : decode b_AL_growI 4 = .ok (.arraylength, 1) := by decide +kernel
theorem d_AL_growI_5 : decode b_AL_growI 5 = .ok (.istore_n 2, 1) := by decide +kernel
theorem d_AL_growI_6 : decode b_AL_growI 6 = .ok (.iload_n 2, 1) := by decide +kernel
theorem d_AL_growI_7 : decode b_AL_growI 7 = .ok (.ifCond .gt 13, 3) := by decide +kernel
theorem d_AL_growI_10 : decode b_AL_growI 10 = .ok (.aload_n 0, 1) := by decide +kernel
theorem d_AL_growI_11 : decode b_AL_growI 11 = .ok (.getfield 9, 3) := by decide +kernel
theorem d_AL_growI_14 : decode b_AL_growI 14 = .ok (.getstatic 39, 3) := by decide +kernel
theorem d_AL_growI_17 : decode b_AL_growI 17 = .ok (.if_acmp .eq 28, 3) := by decide +kernel
theorem d_AL_growI_20 : decode b_AL_growI 20 = .ok (.iload_n 2, 1) := by decide +kernel
theorem d_AL_growI_21 : decode b_AL_growI 21 = .ok (.iload_n 1, 1) := by decide +kernel
theorem d_AL_growI_22 : decode b_AL_growI 22 = .ok (.iload_n 2, 1) := by decide +kernel
theorem d_AL_growI_23 : decode b_AL_growI 23 = .ok (.isub, 1) := by decide +kernel
theorem d_AL_growI_24 : decode b_AL_growI 24 = .ok (.iload_n 2, 1) := by decide +kernel
theorem d_AL_growI_25 : decode b_AL_growI 25 = .ok (.iconst 1, 1) := by decide +kernel
theorem d_AL_growI_26 : decode b_AL_growI 26 = .ok (.ishr, 1) := by decide +kernel
theorem d_AL_growI_27 : decode b_AL_growI 27 = .ok (.invokestatic 73, 3) := by decide +kernel
theorem d_AL_growI_30 : decode b_AL_growI 30 = .ok (.istore_n 3, 1) := by decide +kernel
theorem d_AL_growI_31 : decode b_AL_growI 31 = .ok (.aload_n 0, 1) := by decide +kernel
theorem d_AL_growI_32 : decode b_AL_growI 32 = .ok (.aload_n 0, 1) := by decide +kernel
theorem d_AL_growI_33 : decode b_AL_growI 33 = .ok (.getfield 9, 3) := by decide +kernel
theorem d_AL_growI_36 : decode b_AL_growI 36 = .ok (.iload_n 3, 1) := by decide +kernel
theorem d_AL_growI_37 : decode b_AL_growI 37 = .ok (.invokestatic 66, 3) := by decide +kernel
theorem d_AL_growI_40 : decode b_AL_growI 40 = .ok (.dup_x1, 1) := by decide +kernel
theorem d_AL_growI_41 : decode b_AL_growI 41 = .ok (.putfield 9, 3) := by decide +kernel
theorem d_AL_growI_44 : decode b_AL_growI 44 = .ok (.areturn, 1) := by decide +kernel
theorem d_AL_growI_45 : decode b_AL_growI 45 = .ok (.aload_n 0, 1) := by decide +kernel
theorem d_AL_growI_46 : decode b_AL_growI 46 = .ok (.bipush 10, 2) := by decide +kernel
theorem d_AL_growI_48 : decode b_AL_growI 48 = .ok (.iload_n 1, 1) := by decide +kernel
theorem d_AL_growI_49 : decode b_AL_growI 49 = .ok (.invokestatic 79, 3) := by decide +kernel
theorem d_AL_growI_52 : decode b_AL_growI 52 = .ok (.anewarray 7, 3) := by decide +kernel
theorem d_AL_growI_55 : decode b_AL_growI 55 = .ok (.dup_x1, 1) := by decide +kernel
theorem d_AL_growI_56 : decode b_AL_growI 56 = .ok (.putfield 9, 3) := by decide +kernel
theorem d_AL_growI_59 : decode b_AL_growI 59 = .ok (.areturn, 1) := by decide +kernel
theorem d_AS_newLength_0 : decode b_AS_newLength 0 = .ok (.iload_n 0, 1) := by decide +kernel
theorem d_AS_newLength_1 : decode b_AS_newLength 1 = .ok (.iload_n 1, 1) := by decide +kernel
theorem d_AS_newLength_2 : decode b_AS_newLength 2 = .ok (.iload_n 2, 1) := by decide +kernel
theorem d_AS_newLength_3 : decode b_AS_newLength 3 = .ok (.invokestatic 194, 3) := by decide +kernel
theorem d_AS_newLength_6 : decode b_AS_newLength 6 = .ok (.iadd, 1) := by decide +kernel
theorem d_AS_newLength_7 : decode b_AS_newLength 7 = .ok (.istore_n 3, 1) := by decide +kernel
theorem d_AS_newLength_8 : decode b_AS_newLength 8 = .ok (.iconst 0, 1) := by decide +kernel
theorem d_AS_newLength_9 : decode b_AS_newLength 9 = .ok (.iload_n 3, 1) := by decide +kernel
theorem d_AS_newLength_10 : decode b_AS_newLength 10 = .ok (.if_icmp .ge 11, 3) := by decide +kernel
theorem d_AS_newLength_13 : decode b_AS_newLength 13 = .ok (.iload_n 3, 1) := by decide +kernel
theorem d_AS_newLength_14 : decode b_AS_newLength 14 = .ok (.ldc 200, 2) := by decide +kernel
theorem d_AS_newLength_16 : decode b_AS_newLength 16 = .ok (.if_icmp .gt 5, 3) := by decide +kernel
theorem d_AS_newLength_19 : decode b_AS_newLength 19 = .ok (.iload_n 3, 1) := by decide +kernel
theorem d_AS_newLength_20 : decode b_AS_newLength 20 = .ok (.ireturn, 1) := by decide +kernel
theorem d_AS_newLength_21 : decode b_AS_newLength 21 = .ok (.iload_n 0, 1) := by decide +kernel
theorem d_AS_newLength_22 : decode b_AS_newLength 22 = .ok (.iload_n 1, 1) := by decide +kernel
theorem d_AS_newLength_23 : decode b_AS_newLength 23 = .ok (.invokestatic 201, 3) := by decide +kernel
theorem d_AS_newLength_26 : decode b_AS_newLength 26 = .ok (.ireturn, 1) := by decide +kernel
theorem d_MT_max_0 : decode b_MT_max 0 = .ok (.iload_n 0, 1) := by decide +kernel
theorem d_MT_max_1 : decode b_MT_max 1 = .ok (.iload_n 1, 1) := by decide +kernel
theorem d_MT_max_2 : decode b_MT_max 2 = .ok (.if_icmp .lt 7, 3) := by decide +kernel
theorem d_MT_max_5 : decode b_MT_max 5 = .ok (.iload_n 0, 1) := by decide +kernel
theorem d_MT_max_6 : decode b_MT_max 6 = .ok (.goto 4, 3) := by decide +kernel
theorem d_MT_max_9 : decode b_MT_max 9 = .ok (.iload_n 1, 1) := by decide +kernel
theorem d_MT_max_10 : decode b_MT_max 10 = .ok (.ireturn, 1) := by decide +kernel
theorem d_AS_hugeLength_0 : decode b_AS_hugeLength 0 = .ok (.iload_n 0, 1) := by decide +kernel
theorem d_AS_hugeLength_1 : decode b_AS_hugeLength 1 = .ok (.iload_n 1, 1) := by decide +kernel
theorem d_AS_hugeLength_2 : decode b_AS_hugeLength 2 = .ok (.iadd, 1) := by decide +kernel
theorem d_AS_hugeLength_3 : decode b_AS_hugeLength 3 = .ok (.istore_n 2, 1) := by decide +kernel
theorem d_AS_hugeLength_4 : decode b_AS_hugeLength 4 = .ok (.iload_n 2, 1) := by decide +kernel
theorem d_AS_hugeLength_5 : decode b_AS_hugeLength 5 = .ok (.ifCond .ge 44, 3) := by decide +kernel
theorem d_AS_hugeLength_8 : decode b_AS_hugeLength 8 = .ok (.new 204, 3) := by decide +kernel
theorem d_AS_hugeLength_11 : decode b_AS_hugeLength 11 = .ok (.dup, 1) := by decide +kernel
theorem d_AS_hugeLength_12 : decode b_AS_hugeLength 12 = .ok (.new 89, 3) := by decide +kernel
theorem d_AS_hugeLength_15 : decode b_AS_hugeLength 15 = .ok (.dup, 1) := by decide +kernel
theorem d_AS_hugeLength_16 : decode b_AS_hugeLength 16 = .ok (.invokespecial 91, 3) := by decide +kernel
theorem d_AS_hugeLength_19 : decode b_AS_hugeLength 19 = .ok (.ldc 206, 2) := by decide +kernel
theorem d_AS_hugeLength_21 : decode b_AS_hugeLength 21 = .ok (.invokevirtual 94, 3) := by decide +kernel
theorem d_AS_hugeLength_24 : decode b_AS_hugeLength 24 = .ok (.iload_n 0, 1) := by decide +kernel
theorem d_AS_hugeLength_25 : decode b_AS_hugeLength 25 = .ok (.invokevirtual 98, 3) := by decide +kernel
theorem d_AS_hugeLength_28 : decode b_AS_hugeLength 28 = .ok (.ldc 208, 2) := by decide +kernel
theorem d_AS_hugeLength_30 : decode b_AS_hugeLength 30 = .ok (.invokevirtual 94, 3) := by decide +kernel
theorem d_AS_hugeLength_33 : decode b_AS_hugeLength 33 = .ok (.iload_n 1, 1) := by decide +kernel
theorem d_AS_hugeLength_34 : decode b_AS_hugeLength 34 = .ok (.invokevirtual 98, 3) := by decide +kernel
theorem d_AS_hugeLength_37 : decode b_AS_hugeLength 37 = .ok (.ldc 210, 2) := by decide +kernel
theorem d_AS_hugeLength_39 : decode b_AS_hugeLength 39 = .ok (.invokevirtual 94, 3) := by decide +kernel
theorem d_AS_hugeLength_42 : decode b_AS_hugeLength 42 = .ok (.invokevirtual 101, 3) := by decide +kernel
theorem d_AS_hugeLength_45 : decode b_AS_hugeLength 45 = .ok (.invokespecial 212, 3) := by decide +kernel
theorem d_AS_hugeLength_48 : decode b_AS_hugeLength 48 = .ok (.athrow, 1) := by decide +kernel
theorem d_AS_hugeLength_49 : decode b_AS_hugeLength 49 = .ok (.iload_n 2, 1) := by decide +kernel
theorem d_AS_hugeLength_50 : decode b_AS_hugeLength 50 = .ok (.ldc 200, 2) := by decide +kernel
theorem d_AS_hugeLength_52 : decode b_AS_hugeLength 52 = .ok (.if_icmp .gt 6, 3) := by decide +kernel
theorem d_AS_hugeLength_55 : decode b_AS_hugeLength 55 = .ok (.ldc 200, 2) := by decide +kernel
theorem d_AS_hugeLength_57 : decode b_AS_hugeLength 57 = .ok (.ireturn, 1) := by decide +kernel
theorem d_AS_hugeLength_58 : decode b_AS_hugeLength 58 = .ok (.iload_n 2, 1) := by decide +kernel
theorem d_AS_hugeLength_59 : decode b_AS_hugeLength 59 = .ok (.ireturn, 1) := by decide +kernel
theorem d_AR_copyOf2_0 : decode b_AR_copyOf2 0 = .ok (.aload_n 0, 1) := by decide +kernel
theorem d_AR_copyOf2_1 : decode b_AR_copyOf2 1 = .ok (.iload_n 1, 1) := by decide +kernel
theorem d_AR_copyOf2_2 : decode b_AR_copyOf2 2 = .ok (.aload_n 0, 1) := by decide +kernel
theorem d_AR_copyOf2_3 : decode b_AR_copyOf2 3 = .ok (.invokevirtual 86, 3) := by decide +kernel
theorem d_AR_copyOf2_6 : decode b_AR_copyOf2 6 = .ok (.invokestatic 300, 3) := by decide +kernel
theorem d_AR_copyOf2_9 : decode b_AR_copyOf2 9 = .ok (.areturn, 1) := by decide +kernel
theorem d_AR_copyOf3_0 : decode b_AR_copyOf3 0 = .ok (.aload_n 2, 1) := by decide +kernel
theorem d_AR_copyOf3_1 : decode b_AR_copyOf3 1 = .ok (.ldc 110, 2) := by decide +kernel
theorem d_AR_copyOf3_3 : decode b_AR_copyOf3 3 = .ok (.if_acmp .ne 10, 3) := by decide +kernel
theorem d_AR_copyOf3_6 : decode b_AR_copyOf3 6 = .ok (.iload_n 1, 1) := by decide +kernel
theorem d_AR_copyOf3_7 : decode b_AR_copyOf3 7 = .ok (.anewarray 2, 3) := by decide +kernel
theorem d_AR_copyOf3_10 : decode b_AR_copyOf3 10 = .ok (.goto 14, 3) := by decide +kernel
theorem d_AR_copyOf3_13 : decode b_AR_copyOf3 13 = .ok (.aload_n 2, 1) := by decide +kernel
theorem d_AR_copyOf3_14 : decode b_AR_copyOf3 14 = .ok (.invokevirtual 90, 3) := by decide +kernel
theorem d_AR_copyOf3_17 : decode b_AR_copyOf3 17 = .ok (.iload_n 1, 1) := by decide +kernel
theorem d_AR_copyOf3_18 : decode b_AR_copyOf3 18 = .ok (.invokestatic 95, 3) := by decide +kernel
theorem d_AR_copyOf3_21 : decode b_AR_copyOf3 21 = .ok (.checkcast 110, 3) := by decide +kernel
theorem d_AR_copyOf3_24 : decode b_AR_copyOf3 24 = .ok (.astore_n 3, 1) := by decide +kernel
theorem d_AR_copyOf3_25 : decode b_AR_copyOf3 25 = .ok (.aload_n 0, 1) := by decide +kernel
theorem d_AR_copyOf3_26 : decode b_AR_copyOf3 26 = .ok (.iconst 0, 1) := by decide +kernel
theorem d_AR_copyOf3_27 : decode b_AR_copyOf3 27 = .ok (.aload_n 3, 1) := by decide +kernel
theorem d_AR_copyOf3_28 : decode b_AR_copyOf3 28 = .ok (.iconst 0, 1) := by decide +kernel
theorem d_AR_copyOf3_29 : decode b_AR_copyOf3 29 = .ok (.aload_n 0, 1) := by decide +kernel
theorem d_AR_copyOf3_30 : decode b_AR_copyOf3 30 = .ok (.arraylength, 1) := by decide +kernel
theorem d_AR_copyOf3_31 : decode b_AR_copyOf3 31 = .ok (.iload_n 1, 1) := by decide +kernel
theorem d_AR_copyOf3_32 : decode b_AR_copyOf3 32 = .ok (.invokestatic 304, 3) := by decide +kernel
theorem d_AR_copyOf3_35 : decode b_AR_copyOf3 35 = .ok (.invokestatic 150, 3) := by decide +kernel
theorem d_AR_copyOf3_38 : decode b_AR_copyOf3 38 = .ok (.aload_n 3, 1) := by decide +kernel
theorem d_AR_copyOf3_39 : decode b_AR_copyOf3 39 = .ok (.areturn, 1) := by decide +kernel
theorem d_MT_min_0 : decode b_MT_min 0 = .ok (.iload_n 0, 1) := by decide +kernel
theorem d_MT_min_1 : decode b_MT_min 1 = .ok (.iload_n 1, 1) := by decide +kernel
theorem d_MT_min_2 : decode b_MT_min 2 = .ok (.if_icmp .gt 7, 3) := by decide +kernel
theorem d_MT_min_5 : decode b_MT_min 5 = .ok (.iload_n 0, 1) := by decide +kernel
theorem d_MT_min_6 : decode b_MT_min 6 = .ok (.goto 4, 3) := by decide +kernel
theorem d_MT_min_9 : decode b_MT_min 9 = .ok (.iload_n 1, 1) := by decide +kernel
theorem d_MT_min_10 : decode b_MT_min 10 = .ok (.ireturn, 1) := by decide +kernel
theorem d_W_add_0 : decode b_W_add 0 = .ok (.aload_n 3, 1) := by decide +kernel
theorem d_W_add_1 : decode b_W_add 1 = .ok (.iconst 0, 1) := by decide +kernel
theorem d_W_add_2 : decode b_W_add 2 = .ok (.aload_n 0, 1) := by decide +kernel
theorem d_W_add_3 : decode b_W_add 3 = .ok (.iload_n 1, 1) := by decide +kernel
theorem d_W_add_4 : decode b_W_add 4 = .ok (.iload_n 2, 1) := by decide +kernel
theorem d_W_add_5 : decode b_W_add 5 = .ok (.invokevirtual 17, 3) := by decide +kernel
theorem d_W_add_8 : decode b_W_add 8 = .ok (.i2l, 1) := by decide +kernel
theorem d_W_add_9 : decode b_W_add 9 = .ok (.lastore, 1) := by decide +kernel
theorem d_W_add_10 : decode b_W_add 10 = .ok (.goto 11, 3) := by decide +kernel
theorem d_W_add_13 : decode b_W_add 13 = .ok (.astore 4, 2) := by decide +kernel
theorem d_W_add_15 : decode b_W_add 15 = .ok (.iconst 1, 1) := by decide +kernel
theorem d_W_add_16 : decode b_W_add 16 = .ok (.ireturn, 1) := by decide +kernel
theorem d_W_add_17 : decode b_W_add 17 = .ok (.astore 4, 2) := by decide +kernel
theorem d_W_add_19 : decode b_W_add 19 = .ok (.iconst 2, 1) := by decide +kernel
theorem d_W_add_20 : decode b_W_add 20 = .ok (.ireturn, 1) := by decide +kernel
theorem d_W_add_21 : decode b_W_add 21 = .ok (.iconst 0, 1) := by decide +kernel
theorem d_W_add_22 : decode b_W_add 22 = .ok (.ireturn, 1) := by decide +kernel
theorem d_L_add_0 : decode b_L_add 0 = .ok (.aload_n 0, 1) := by decide +kernel
theorem d_L_add_1 : decode b_L_add 1 = .ok (.iload_n 1, 1) := by decide +kernel
theorem d_L_add_2 : decode b_L_add 2 = .ok (.invokevirtual 40, 3) := by decide +kernel
theorem d_L_add_5 : decode b_L_add 5 = .ok (.astore_n 3, 1) := by decide +kernel
theorem d_L_add_6 : decode b_L_add 6 = .ok (.aload_n 0, 1) := by decide +kernel
theorem d_L_add_7 : decode b_L_add 7 = .ok (.aload_n 3, 1) := by decide +kernel
theorem d_L_add_8 : decode b_L_add 8 = .ok (.getfield 44, 3) := by decide +kernel
theorem d_L_add_11 : decode b_L_add 11 = .ok (.arraylength, 1) := by decide +kernel
theorem d_L_add_12 : decode b_L_add 12 = .ok (.iconst 1, 1) := by decide +kernel
theorem d_L_add_13 : decode b_L_add 13 = .ok (.iadd, 1) := by decide +kernel
theorem d_L_add_14 : decode b_L_add 14 = .ok (.invokevirtual 27, 3) := by decide +kernel
theorem d_L_add_17 : decode b_L_add 17 = .ok (.aload_n 0, 1) := by decide +kernel
theorem d_L_add_18 : decode b_L_add 18 = .ok (.aload_n 3, 1) := by decide +kernel
theorem d_L_add_19 : decode b_L_add 19 = .ok (.aload_n 3, 1) := by decide +kernel
theorem d_L_add_20 : decode b_L_add 20 = .ok (.getfield 44, 3) := by decide +kernel
theorem d_L_add_23 : decode b_L_add 23 = .ok (.aload_n 3, 1) := by decide +kernel
theorem d_L_add_24 : decode b_L_add 24 = .ok (.iload_n 2, 1) := by decide +kernel
theorem d_L_add_25 : decode b_L_add 25 = .ok (.invokestatic 48, 3) := by decide +kernel
theorem d_L_add_28 : decode b_L_add 28 = .ok (.iload_n 2, 1) := by decide +kernel
theorem d_L_add_29 : decode b_L_add 29 = .ok (.invokestatic 52, 3) := by decide +kernel
theorem d_L_add_32 : decode b_L_add 32 = .ok (.invokevirtual 56, 3) := by decide +kernel
theorem d_L_add_35 : decode b_L_add 35 = .ok (.invokevirtual 36, 3) := by decide +kernel
theorem d_L_add_38 : decode b_L_add 38 = .ok (.ireturn, 1) := by decide +kernel
theorem d_L_foundButNoMap_0 : decode b_L_foundButNoMap 0 = .ok (.aload_n 0, 1) := by decide +kernel
theorem d_L_foundButNoMap_1 : decode b_L_foundButNoMap 1 = .ok (.iload_n 1, 1) := by decide +kernel
theorem d_L_foundButNoMap_2 : decode b_L_foundButNoMap 2 = .ok (.invokevirtual 69, 3) := by decide +kernel
theorem d_L_foundButNoMap_5 : decode b_L_foundButNoMap 5 = .ok (.astore_n 2, 1) := by decide +kernel
theorem d_L_foundButNoMap_6 : decode b_L_foundButNoMap 6 = .ok (.aload_n 2, 1) := by decide +kernel
theorem d_L_foundButNoMap_7 : decode b_L_foundButNoMap 7 = .ok (.getfield 78, 3) := by decide +kernel
theorem d_L_foundButNoMap_10 : decode b_L_foundButNoMap 10 = .ok (.iconst 3, 1) := by decide +kernel
theorem d_L_foundButNoMap_11 : decode b_L_foundButNoMap 11 = .ok (.if_icmp .ne 13, 3) := by decide +kernel
theorem d_L_foundButNoMap_14 : decode b_L_foundButNoMap 14 = .ok (.new 20, 3) := by decide +kernel
theorem d_L_foundButNoMap_17 : decode b_L_foundButNoMap 17 = .ok (.dup, 1) := by decide +kernel
theorem d_L_foundButNoMap_18 : decode b_L_foundButNoMap 18 = .ok (.ldc 148, 2) := by decide +kernel
theorem d_L_foundButNoMap_20 : decode b_L_foundButNoMap 20 = .ok (.invokespecial 24, 3) := by decide +kernel
theorem d_L_foundButNoMap_23 : decode b_L_foundButNoMap 23 = .ok (.athrow, 1) := by decide +kernel
theorem d_L_foundButNoMap_24 : decode b_L_foundButNoMap 24 = .ok (.aload_n 2, 1) := by decide +kernel
theorem d_L_foundButNoMap_25 : decode b_L_foundButNoMap 25 = .ok (.areturn, 1) := by decide +kernel
theorem d_L_found_0 : decode b_L_found 0 = .ok (.iload_n 1, 1) := by decide +kernel
theorem d_L_found_1 : decode b_L_found 1 = .ok (.ifCond .lt 14, 3) := by decide +kernel
theorem d_L_found_4 : decode b_L_found 4 = .ok (.iload_n 1, 1) := by decide +kernel
theorem d_L_found_5 : decode b_L_found 5 = .ok (.aload_n 0, 1) := by decide +kernel
theorem d_L_found_6 : decode b_L_found 6 = .ok (.getfield 10, 3) := by decide +kernel
theorem d_L_found_9 : decode b_L_found 9 = .ok (.invokevirtual 136, 3) := by decide +kernel
theorem d_L_found_12 : decode b_L_found 12 = .ok (.if_icmp .lt 13, 3) := by decide +kernel
theorem d_L_found_15 : decode b_L_found 15 = .ok (.new 20, 3) := by decide +kernel
theorem d_L_found_18 : decode b_L_found 18 = .ok (.dup, 1) := by decide +kernel
theorem d_L_found_19 : decode b_L_found 19 = .ok (.ldc 140, 2) := by decide +kernel
theorem d_L_found_21 : decode b_L_found 21 = .ok (.invokespecial 24, 3) := by decide +kernel
theorem d_L_found_24 : decode b_L_found 24 = .ok (.athrow, 1) := by decide +kernel
theorem d_L_found_25 : decode b_L_found 25 = .ok (.aload_n 0, 1) := by decide +kernel
theorem d_L_found_26 : decode b_L_found 26 = .ok (.getfield 10, 3) := by decide +kernel
theorem d_L_found_29 : decode b_L_found 29 = .ok (.iload_n 1, 1) := by decide +kernel
theorem d_L_found_30 : decode b_L_found 30 = .ok (.invokevirtual 142, 3) := by decide +kernel
theorem d_L_found_33 : decode b_L_found 33 = .ok (.checkcast 31, 3) := by decide +kernel
theorem d_L_found_36 : decode b_L_found 36 = .ok (.areturn, 1) := by decide +kernel
theorem d_AL_get_0 : decode b_AL_get 0 = .ok (.iload_n 1, 1) := by decide +kernel
theorem d_AL_get_1 : decode b_AL_get 1 = .ok (.aload_n 0, 1) := by decide +kernel
theorem d_AL_get_2 : decode b_AL_get 2 = .ok (.getfield 48, 3) := by decide +kernel
theorem d_AL_get_5 : decode b_AL_get 5 = .ok (.invokestatic 118, 3) := by decide +kernel
theorem d_AL_get_8 : decode b_AL_get 8 = .ok (.pop, 1) := by decide +kernel
theorem d_AL_get_9 : decode b_AL_get 9 = .ok (.aload_n 0, 1) := by decide +kernel
theorem d_AL_get_10 : decode b_AL_get 10 = .ok (.iload_n 1, 1) := by decide +kernel
theorem d_AL_get_11 : decode b_AL_get 11 = .ok (.invokevirtual 123, 3) := by decide +kernel
theorem d_AL_get_14 : decode b_AL_get 14 = .ok (.areturn, 1) := by decide +kernel
theorem d_OB_checkIndex_0 : decode b_OB_checkIndex 0 = .ok (.iload_n 0, 1) := by decide +kernel
theorem d_OB_checkIndex_1 : decode b_OB_checkIndex 1 = .ok (.iload_n 1, 1) := by decide +kernel
theorem d_OB_checkIndex_2 : decode b_OB_checkIndex 2 = .ok (.aconst_null, 1) := by decide +kernel
theorem d_OB_checkIndex_3 : decode b_OB_checkIndex 3 = .ok (.invokestatic 105, 3) := by decide +kernel
theorem d_OB_checkIndex_6 : decode b_OB_checkIndex 6 = .ok (.ireturn, 1) := by decide +kernel
theorem d_PC_checkIndex_0 : decode b_PC_checkIndex 0 = .ok (.iload_n 0, 1) := by decide +kernel
theorem d_PC_checkIndex_1 : decode b_PC_checkIndex 1 = .ok (.ifCond .lt 8, 3) := by decide +kernel
theorem d_PC_checkIndex_4 : decode b_PC_checkIndex 4 = .ok (.iload_n 0, 1) := by decide +kernel
theorem d_PC_checkIndex_5 : decode b_PC_checkIndex 5 = .ok (.iload_n 1, 1) := by decide +kernel
theorem d_PC_checkIndex_6 : decode b_PC_checkIndex 6 = .ok (.if_icmp .lt 10, 3) := by decide +kernel
theorem d_PC_checkIndex_9 : decode b_PC_checkIndex 9 = .ok (.aload_n 2, 1) := by decide +kernel
theorem d_PC_checkIndex_10 : decode b_PC_checkIndex 10 = .ok (.iload_n 0, 1) := by decide +kernel
theorem d_PC_checkIndex_11 : decode b_PC_checkIndex 11 = .ok (.iload_n 1, 1) := by decide +kernel
theorem d_PC_checkIndex_12 : decode b_PC_checkIndex 12 = .ok (.invokestatic 95, 3) := by decide +kernel
theorem d_PC_checkIndex_15 : decode b_PC_checkIndex 15 = .ok (.athrow, 1) := by decide +kernel
theorem d_PC_checkIndex_16 : decode b_PC_checkIndex 16 = .ok (.iload_n 0, 1) := by decide +kernel
theorem d_PC_checkIndex_17 : decode b_PC_checkIndex 17 = .ok (.ireturn, 1) := by decide +kernel
theorem d_AL_elementData_0 : decode b_AL_elementData 0 = .ok (.aload_n 0, 1) := by decide +kernel
theorem d_AL_elementData_1 : decode b_AL_elementData 1 = .ok (.getfield 9, 3) := by decide +kernel
theorem d_AL_elementData_4 : decode b_AL_elementData 4 = .ok (.iload_n 1, 1) := by decide +kernel
theorem d_AL_elementData_5 : decode b_AL_elementData 5 = .ok (.aaload, 1) := by decide +kernel
theorem d_AL_elementData_6 : decode b_AL_elementData 6 = .ok (.areturn, 1) := by decide +kernel
theorem d_L_placeToAdd_0 : decode b_L_placeToAdd 0 = .ok (.aload_n 0, 1) := by decide +kernel
theorem d_L_placeToAdd_1 : decode b_L_placeToAdd 1 = .ok (.getfield 78, 3) := by decide +kernel
theorem d_L_placeToAdd_4 : decode b_L_placeToAdd 4 = .ok (.lookupswitch 39 #[(1, 30), (2, 28)], 28) := by decide +kernel
theorem d_L_placeToAdd_32 : decode b_L_placeToAdd 32 = .ok (.iconst 0, 1) := by decide +kernel
theorem d_L_placeToAdd_33 : decode b_L_placeToAdd 33 = .ok (.ireturn, 1) := by decide +kernel
theorem d_L_placeToAdd_34 : decode b_L_placeToAdd 34 = .ok (.aload_n 0, 1) := by decide +kernel
theorem d_L_placeToAdd_35 : decode b_L_placeToAdd 35 = .ok (.getfield 44, 3) := by decide +kernel
theorem d_L_placeToAdd_38 : decode b_L_placeToAdd 38 = .ok (.iload_n 1, 1) := by decide +kernel
theorem d_L_placeToAdd_39 : decode b_L_placeToAdd 39 = .ok (.invokestatic 98, 3) := by decide +kernel
theorem d_L_placeToAdd_42 : decode b_L_placeToAdd 42 = .ok (.ireturn, 1) := by decide +kernel
theorem d_L_placeToAdd_43 : decode b_L_placeToAdd 43 = .ok (.aload_n 0, 1) := by decide +kernel
theorem d_L_placeToAdd_44 : decode b_L_placeToAdd 44 = .ok (.getfield 44, 3) := by decide +kernel
theorem d_L_placeToAdd_47 : decode b_L_placeToAdd 47 = .ok (.arraylength, 1) := by decide +kernel
theorem d_L_placeToAdd_48 : decode b_L_placeToAdd 48 = .ok (.ireturn, 1) := by decide +kernel
theorem d_L_countBelow_0 : decode b_L_countBelow 0 = .ok (.iconst 0, 1) := by decide +kernel
theorem d_L_countBelow_1 : decode b_L_countBelow 1 = .ok (.istore_n 2, 1) := by decide +kernel
theorem d_L_countBelow_2 : decode b_L_countBelow 2 = .ok (.iload_n 2, 1) := by decide +kernel
theorem d_L_countBelow_3 : decode b_L_countBelow 3 = .ok (.aload_n 0, 1) := by decide +kernel
theorem d_L_countBelow_4 : decode b_L_countBelow 4 = .ok (.arraylength, 1) := by decide +kernel
theorem d_L_countBelow_5 : decode b_L_countBelow 5 = .ok (.if_icmp .ge 16, 3) := by decide +kernel
theorem d_L_countBelow_8 : decode b_L_countBelow 8 = .ok (.aload_n 0, 1) := by decide +kernel
theorem d_L_countBelow_9 : decode b_L_countBelow 9 = .ok (.iload_n 2, 1) := by decide +kernel
theorem d_L_countBelow_10 : decode b_L_countBelow 10 = .ok (.iaload, 1) := by decide +kernel
theorem d_L_countBelow_11 : decode b_L_countBelow 11 = .ok (.iload_n 1, 1) := by decide +kernel
theorem d_L_countBelow_12 : decode b_L_countBelow 12 = .ok (.if_icmp .ge 9, 3) := by decide +kernel
theorem d_L_countBelow_15 : decode b_L_countBelow 15 = .ok (.iinc 2 1, 3) := by decide +kernel
theorem d_L_countBelow_18 : decode b_L_countBelow 18 = .ok (.goto (-16), 3) := by decide +kernel
theorem d_L_countBelow_21 : decode b_L_countBelow 21 = .ok (.iload_n 2, 1) := by decide +kernel
theorem d_L_countBelow_22 : decode b_L_countBelow 22 = .ok (.ireturn, 1) := by decide +kernel
theorem d_L_inserted_0 : decode b_L_inserted 0 = .ok (.aload_n 0, 1) := by decide +kernel
theorem d_L_inserted_1 : decode b_L_inserted 1 = .ok (.arraylength, 1) := by decide +kernel
theorem d_L_inserted_2 : decode b_L_inserted 2 = .ok (.iconst 1, 1) := by decide +kernel
theorem d_L_inserted_3 : decode b_L_inserted 3 = .ok (.iadd, 1) := by decide +kernel
theorem d_L_inserted_4 : decode b_L_inserted 4 = .ok (.newarray .int, 2) := by decide +kernel
theorem d_L_inserted_6 : decode b_L_inserted 6 = .ok (.astore_n 3, 1) := by decide +kernel
theorem d_L_inserted_7 : decode b_L_inserted 7 = .ok (.aload_n 0, 1) := by decide +kernel
theorem d_L_inserted_8 : decode b_L_inserted 8 = .ok (.iconst 0, 1) := by decide +kernel
theorem d_L_inserted_9 : decode b_L_inserted 9 = .ok (.aload_n 3, 1) := by decide +kernel
theorem d_L_inserted_10 : decode b_L_inserted 10 = .ok (.iconst 0, 1) := by decide +kernel
theorem d_L_inserted_11 : decode b_L_inserted 11 = .ok (.iload_n 1, 1) := by decide +kernel
theorem d_L_inserted_12 : decode b_L_inserted 12 = .ok (.invokestatic 171, 3) := by decide +kernel
theorem d_L_inserted_15 : decode b_L_inserted 15 = .ok (.aload_n 3, 1) := by decide +kernel
theorem d_L_inserted_16 : decode b_L_inserted 16 = .ok (.iload_n 1, 1) := by decide +kernel
theorem d_L_inserted_17 : decode b_L_inserted 17 = .ok (.iload_n 2, 1) := by decide +kernel
theorem d_L_inserted_18 : decode b_L_inserted 18 = .ok (.iastore, 1) := by decide +kernel
theorem d_L_inserted_19 : decode b_L_inserted 19 = .ok (.aload_n 0, 1) := by decide +kernel
theorem d_L_inserted_20 : decode b_L_inserted 20 = .ok (.iload_n 1, 1) := by decide +kernel
theorem d_L_inserted_21 : decode b_L_inserted 21 = .ok (.aload_n 3, 1) := by decide +kernel
theorem d_L_inserted_22 : decode b_L_inserted 22 = .ok (.iload_n 1, 1) := by decide +kernel
theorem d_L_inserted_23 : decode b_L_inserted 23 = .ok (.iconst 1, 1) := by decide +kernel
theorem d_L_inserted_24 : decode b_L_inserted 24 = .ok (.iadd, 1) := by decide +kernel
theorem d_L_inserted_25 : decode b_L_inserted 25 = .ok (.aload_n 0, 1) := by decide +kernel
theorem d_L_inserted_26 : decode b_L_inserted 26 = .ok (.arraylength, 1) := by decide +kernel
theorem d_L_inserted_27 : decode b_L_inserted 27 = .ok (.iload_n 1, 1) := by decide +kernel
theorem d_L_inserted_28 : decode b_L_inserted 28 = .ok (.isub, 1) := by decide +kernel
theorem d_L_inserted_29 : decode b_L_inserted 29 = .ok (.invokestatic 171, 3) := by decide +kernel
theorem d_L_inserted_32 : decode b_L_inserted 32 = .ok (.aload_n 3, 1) := by decide +kernel
theorem d_L_inserted_33 : decode b_L_inserted 33 = .ok (.areturn, 1) := by decide +kernel
theorem d_V_with_0 : decode b_V_with 0 = .ok (.new 8, 3) := by decide +kernel
theorem d_V_with_3 : decode b_V_with 3 = .ok (.dup, 1) := by decide +kernel
theorem d_V_with_4 : decode b_V_with 4 = .ok (.aload_n 0, 1) := by decide +kernel
theorem d_V_with_5 : decode b_V_with 5 = .ok (.getfield 7, 3) := by decide +kernel
theorem d_V_with_8 : decode b_V_with 8 = .ok (.aload_n 0, 1) := by decide +kernel
theorem d_V_with_9 : decode b_V_with 9 = .ok (.getfield 13, 3) := by decide +kernel
theorem d_V_with_12 : decode b_V_with 12 = .ok (.aload_n 1, 1) := by decide +kernel
theorem d_V_with_13 : decode b_V_with 13 = .ok (.aload_n 0, 1) := by decide +kernel
theorem d_V_with_14 : decode b_V_with 14 = .ok (.getfield 20, 3) := by decide +kernel
theorem d_V_with_17 : decode b_V_with 17 = .ok (.invokespecial 23, 3) := by decide +kernel
theorem d_V_with_20 : decode b_V_with 20 = .ok (.areturn, 1) := by decide +kernel
theorem d_W_first_0 : decode b_W_first 0 = .ok (.aload_n 2, 1) := by decide +kernel
theorem d_W_first_1 : decode b_W_first 1 = .ok (.iconst 0, 1) := by decide +kernel
theorem d_W_first_2 : decode b_W_first 2 = .ok (.aload_n 0, 1) := by decide +kernel
theorem d_W_first_3 : decode b_W_first 3 = .ok (.iload_n 1, 1) := by decide +kernel
theorem d_W_first_4 : decode b_W_first 4 = .ok (.invokevirtual 20, 3) := by decide +kernel
theorem d_W_first_7 : decode b_W_first 7 = .ok (.i2l, 1) := by decide +kernel
theorem d_W_first_8 : decode b_W_first 8 = .ok (.lastore, 1) := by decide +kernel
theorem d_W_first_9 : decode b_W_first 9 = .ok (.goto 9, 3) := by decide +kernel
theorem d_W_first_12 : decode b_W_first 12 = .ok (.astore_n 3, 1) := by decide +kernel
theorem d_W_first_13 : decode b_W_first 13 = .ok (.iconst 1, 1) := by decide +kernel
theorem d_W_first_14 : decode b_W_first 14 = .ok (.ireturn, 1) := by decide +kernel
theorem d_W_first_15 : decode b_W_first 15 = .ok (.astore_n 3, 1) := by decide +kernel
theorem d_W_first_16 : decode b_W_first 16 = .ok (.iconst 2, 1) := by decide +kernel
theorem d_W_first_17 : decode b_W_first 17 = .ok (.ireturn, 1) := by decide +kernel
theorem d_W_first_18 : decode b_W_first 18 = .ok (.iconst 0, 1) := by decide +kernel
theorem d_W_first_19 : decode b_W_first 19 = .ok (.ireturn, 1) := by decide +kernel
theorem d_L_first_0 : decode b_L_first 0 = .ok (.aload_n 0, 1) := by decide +kernel
theorem d_L_first_1 : decode b_L_first 1 = .ok (.iload_n 1, 1) := by decide +kernel
theorem d_L_first_2 : decode b_L_first 2 = .ok (.invokevirtual 40, 3) := by decide +kernel
theorem d_L_first_5 : decode b_L_first 5 = .ok (.astore_n 2, 1) := by decide +kernel
theorem d_L_first_6 : decode b_L_first 6 = .ok (.aload_n 2, 1) := by decide +kernel
theorem d_L_first_7 : decode b_L_first 7 = .ok (.invokestatic 60, 3) := by decide +kernel
theorem d_L_first_10 : decode b_L_first 10 = .ok (.aload_n 2, 1) := by decide +kernel
theorem d_L_first_11 : decode b_L_first 11 = .ok (.getfield 44, 3) := by decide +kernel
theorem d_L_first_14 : decode b_L_first 14 = .ok (.iconst 0, 1) := by decide +kernel
theorem d_L_first_15 : decode b_L_first 15 = .ok (.iaload, 1) := by decide +kernel
theorem d_L_first_16 : decode b_L_first 16 = .ok (.ireturn, 1) := by decide +kernel
theorem d_L_refuseWithoutElements_0 : decode b_L_refuseWithoutElements 0 = .ok (.aload_n 0, 1) := by decide +kernel
theorem d_L_refuseWithoutElements_1 : decode b_L_refuseWithoutElements 1 = .ok (.getfield 44, 3) := by decide +kernel
theorem d_L_refuseWithoutElements_4 : decode b_L_refuseWithoutElements 4 = .ok (.arraylength, 1) := by decide +kernel
theorem d_L_refuseWithoutElements_5 : decode b_L_refuseWithoutElements 5 = .ok (.ifCond .ne 13, 3) := by decide +kernel
theorem d_L_refuseWithoutElements_8 : decode b_L_refuseWithoutElements 8 = .ok (.new 112, 3) := by decide +kernel
theorem d_L_refuseWithoutElements_11 : decode b_L_refuseWithoutElements 11 = .ok (.dup, 1) := by decide +kernel
theorem d_L_refuseWithoutElements_12 : decode b_L_refuseWithoutElements 12 = .ok (.ldc 161, 2) := by decide +kernel
theorem d_L_refuseWithoutElements_14 : decode b_L_refuseWithoutElements 14 = .ok (.invokespecial 116, 3) := by decide +kernel
theorem d_L_refuseWithoutElements_17 : decode b_L_refuseWithoutElements 17 = .ok (.athrow, 1) := by decide +kernel
theorem d_L_refuseWithoutElements_18 : decode b_L_refuseWithoutElements 18 = .ok (.return_, 1) := by decide +kernel
theorem d_W_rest_0 : decode b_W_rest 0 = .ok (.aload_n 2, 1) := by decide +kernel
theorem d_W_rest_1 : decode b_W_rest 1 = .ok (.iconst 0, 1) := by decide +kernel
theorem d_W_rest_2 : decode b_W_rest 2 = .ok (.aload_n 0, 1) := by decide +kernel
theorem d_W_rest_3 : decode b_W_rest 3 = .ok (.iload_n 1, 1) := by decide +kernel
theorem d_W_rest_4 : decode b_W_rest 4 = .ok (.invokevirtual 26, 3) := by decide +kernel
theorem d_W_rest_7 : decode b_W_rest 7 = .ok (.i2l, 1) := by decide +kernel
theorem d_W_rest_8 : decode b_W_rest 8 = .ok (.lastore, 1) := by decide +kernel
theorem d_W_rest_9 : decode b_W_rest 9 = .ok (.goto 12, 3) := by decide +kernel
theorem d_W_rest_12 : decode b_W_rest 12 = .ok (.astore_n 3, 1) := by decide +kernel
theorem d_W_rest_13 : decode b_W_rest 13 = .ok (.iconst 1, 1) := by decide +kernel
theorem d_W_rest_14 : decode b_W_rest 14 = .ok (.ireturn, 1) := by decide +kernel
theorem d_W_rest_15 : decode b_W_rest 15 = .ok (.astore_n 3, 1) := by decide +kernel
theorem d_W_rest_16 : decode b_W_rest 16 = .ok (.iconst 2, 1) := by decide +kernel
theorem d_W_rest_17 : decode b_W_rest 17 = .ok (.ireturn, 1) := by decide +kernel
theorem d_W_rest_18 : decode b_W_rest 18 = .ok (.astore_n 3, 1) := by decide +kernel
theorem d_W_rest_19 : decode b_W_rest 19 = .ok (.iconst 3, 1) := by decide +kernel
theorem d_W_rest_20 : decode b_W_rest 20 = .ok (.ireturn, 1) := by decide +kernel
theorem d_W_rest_21 : decode b_W_rest 21 = .ok (.iconst 0, 1) := by decide +kernel
theorem d_W_rest_22 : decode b_W_rest 22 = .ok (.ireturn, 1) := by decide +kernel
theorem d_L_rest_0 : decode b_L_rest 0 = .ok (.aload_n 0, 1) := by decide +kernel
theorem d_L_rest_1 : decode b_L_rest 1 = .ok (.iload_n 1, 1) := by decide +kernel
theorem d_L_rest_2 : decode b_L_rest 2 = .ok (.invokevirtual 40, 3) := by decide +kernel
theorem d_L_rest_5 : decode b_L_rest 5 = .ok (.astore_n 2, 1) := by decide +kernel
theorem d_L_rest_6 : decode b_L_rest 6 = .ok (.aload_n 0, 1) := by decide +kernel
theorem d_L_rest_7 : decode b_L_rest 7 = .ok (.aload_n 2, 1) := by decide +kernel
theorem d_L_rest_8 : decode b_L_rest 8 = .ok (.getfield 44, 3) := by decide +kernel
theorem d_L_rest_11 : decode b_L_rest 11 = .ok (.arraylength, 1) := by decide +kernel
theorem d_L_rest_12 : decode b_L_rest 12 = .ok (.iconst 1, 1) := by decide +kernel
theorem d_L_rest_13 : decode b_L_rest 13 = .ok (.isub, 1) := by decide +kernel
theorem d_L_rest_14 : decode b_L_rest 14 = .ok (.invokevirtual 27, 3) := by decide +kernel
theorem d_L_rest_17 : decode b_L_rest 17 = .ok (.aload_n 2, 1) := by decide +kernel
theorem d_L_rest_18 : decode b_L_rest 18 = .ok (.invokestatic 60, 3) := by decide +kernel
theorem d_L_rest_21 : decode b_L_rest 21 = .ok (.aload_n 0, 1) := by decide +kernel
theorem d_L_rest_22 : decode b_L_rest 22 = .ok (.aload_n 2, 1) := by decide +kernel
theorem d_L_rest_23 : decode b_L_rest 23 = .ok (.aload_n 2, 1) := by decide +kernel
theorem d_L_rest_24 : decode b_L_rest 24 = .ok (.getfield 44, 3) := by decide +kernel
theorem d_L_rest_27 : decode b_L_rest 27 = .ok (.iconst 1, 1) := by decide +kernel
theorem d_L_rest_28 : decode b_L_rest 28 = .ok (.aload_n 2, 1) := by decide +kernel
theorem d_L_rest_29 : decode b_L_rest 29 = .ok (.getfield 44, 3) := by decide +kernel
theorem d_L_rest_32 : decode b_L_rest 32 = .ok (.arraylength, 1) := by decide +kernel
theorem d_L_rest_33 : decode b_L_rest 33 = .ok (.invokestatic 64, 3) := by decide +kernel
theorem d_L_rest_36 : decode b_L_rest 36 = .ok (.invokevirtual 56, 3) := by decide +kernel
theorem d_L_rest_39 : decode b_L_rest 39 = .ok (.invokevirtual 36, 3) := by decide +kernel
theorem d_L_rest_42 : decode b_L_rest 42 = .ok (.ireturn, 1) := by decide +kernel
theorem d_AR_copyOfRange_0 : decode b_AR_copyOfRange 0 = .ok (.iload_n 1, 1) := by decide +kernel
theorem d_AR_copyOfRange_1 : decode b_AR_copyOfRange 1 = .ok (.ifCond .ne 9, 3) := by decide +kernel
theorem d_AR_copyOfRange_4 : decode b_AR_copyOfRange 4 = .ok (.iload_n 2, 1) := by decide +kernel
theorem d_AR_copyOfRange_5 : decode b_AR_copyOfRange 5 = .ok (.aload_n 0, 1) := by decide +kernel
theorem d_AR_copyOfRange_6 : decode b_AR_copyOfRange 6 = .ok (.arraylength, 1) := by decide +kernel
theorem d_AR_copyOfRange_7 : decode b_AR_copyOfRange 7 = .ok (.if_icmp .eq 10, 3) := by decide +kernel
theorem d_AR_copyOfRange_10 : decode b_AR_copyOfRange 10 = .ok (.aload_n 0, 1) := by decide +kernel
theorem d_AR_copyOfRange_11 : decode b_AR_copyOfRange 11 = .ok (.iload_n 1, 1) := by decide +kernel
theorem d_AR_copyOfRange_12 : decode b_AR_copyOfRange 12 = .ok (.iload_n 2, 1) := by decide +kernel
theorem d_AR_copyOfRange_13 : decode b_AR_copyOfRange 13 = .ok (.invokestatic 351, 3) := by decide +kernel
theorem d_AR_copyOfRange_16 : decode b_AR_copyOfRange 16 = .ok (.areturn, 1) := by decide +kernel
theorem d_AR_copyOfRange_17 : decode b_AR_copyOfRange 17 = .ok (.aload_n 0, 1) := by decide +kernel
theorem d_AR_copyOfRange_18 : decode b_AR_copyOfRange 18 = .ok (.invokevirtual 316, 3) := by decide +kernel
