theorem d_AbC_init_0 : decode b_AbC_init 0 = .ok (.aload_n 0, 1) := by decide +kernel
theorem d_AbC_init_1 : decode b_AbC_init 1 = .ok (.invokespecial 1, 3) := by decide +kernel
theorem d_AbC_init_4 : decode b_AbC_init 4 = .ok (.return_, 1) := by decide +kernel
theorem d_AbL_init_0 : decode b_AbL_init 0 = .ok (.aload_n 0, 1) := by decide +kernel
theorem d_AbL_init_1 : decode b_AbL_init 1 = .ok (.invokespecial 1, 3) := by decide +kernel
theorem d_AbL_init_4 : decode b_AbL_init 4 = .ok (.aload_n 0, 1) := by decide +kernel
theorem d_AbL_init_5 : decode b_AbL_init 5 = .ok (.iconst 0, 1) := by decide +kernel
theorem d_AbL_init_6 : decode b_AbL_init 6 = .ok (.putfield 7, 3) := by decide +kernel
theorem d_AbL_init_9 : decode b_AbL_init 9 = .ok (.return_, 1) := by decide +kernel
theorem d_AL_init_v_0 : decode b_AL_init_v 0 = .ok (.aload_n 0, 1) := by decide +kernel
theorem d_AL_init_v_1 : decode b_AL_init_v 1 = .ok (.invokespecial 1, 3) := by decide +kernel
theorem d_AL_init_v_4 : decode b_AL_init_v 4 = .ok (.aload_n 0, 1) := by decide +kernel
theorem d_AL_init_v_5 : decode b_AL_init_v 5 = .ok (.getstatic 39, 3) := by decide +kernel
theorem d_AL_init_v_8 : decode b_AL_init_v 8 = .ok (.putfield 9, 3) := by decide +kernel
theorem d_AL_init_v_11 : decode b_AL_init_v 11 = .ok (.return_, 1) := by decide +kernel
theorem d_NS_init_0 : decode b_NS_init 0 = .ok (.aload_n 0, 1) := by decide +kernel
theorem d_NS_init_1 : decode b_NS_init 1 = .ok (.invokespecial 1, 3) := by decide +kernel
theorem d_NS_init_4 : decode b_NS_init 4 = .ok (.aload_n 0, 1) := by decide +kernel
theorem d_NS_init_5 : decode b_NS_init 5 = .ok (.lconst 0, 1) := by decide +kernel
theorem d_NS_init_6 : decode b_NS_init 6 = .ok (.putfield 7, 3) := by decide +kernel
theorem d_NS_init_9 : decode b_NS_init 9 = .ok (.aload_n 0, 1) := by decide +kernel
theorem d_NS_init_10 : decode b_NS_init 10 = .ok (.lconst 0, 1) := by decide +kernel
theorem d_NS_init_11 : decode b_NS_init 11 = .ok (.putfield 13, 3) := by decide +kernel
theorem d_NS_init_14 : decode b_NS_init 14 = .ok (.return_, 1) := by decide +kernel
theorem d_Load_init_0 : decode b_Load_init 0 = .ok (.aload_n 0, 1) := by decide +kernel
theorem d_Load_init_1 : decode b_Load_init 1 = .ok (.invokespecial 3, 3) := by decide +kernel
theorem d_Load_init_4 : decode b_Load_init 4 = .ok (.aload_n 0, 1) := by decide +kernel
theorem d_Load_init_5 : decode b_Load_init 5 = .ok (.bipush 36, 2) := by decide +kernel
theorem d_Load_init_7 : decode b_Load_init 7 = .ok (.newarray .int, 2) := by decide +kernel
theorem d_Load_init_9 : decode b_Load_init 9 = .ok (.putfield 9, 3) := by decide +kernel
theorem d_Load_init_12 : decode b_Load_init 12 = .ok (.aload_n 0, 1) := by decide +kernel
theorem d_Load_init_13 : decode b_Load_init 13 = .ok (.iconst 4, 1) := by decide +kernel
theorem d_Load_init_14 : decode b_Load_init 14 = .ok (.newarray .int, 2) := by decide +kernel
theorem d_Load_init_16 : decode b_Load_init 16 = .ok (.putfield 15, 3) := by decide +kernel
theorem d_Load_init_19 : decode b_Load_init 19 = .ok (.aload_n 0, 1) := by decide +kernel
theorem d_Load_init_20 : decode b_Load_init 20 = .ok (.new 18, 3) := by decide +kernel
theorem d_Load_init_23 : decode b_Load_init 23 = .ok (.dup, 1) := by decide +kernel
theorem d_Load_init_24 : decode b_Load_init 24 = .ok (.invokespecial 20, 3) := by decide +kernel
theorem d_Load_init_27 : decode b_Load_init 27 = .ok (.putfield 21, 3) := by decide +kernel
theorem d_Load_init_30 : decode b_Load_init 30 = .ok (.aload_n 0, 1) := by decide +kernel
theorem d_Load_init_31 : decode b_Load_init 31 = .ok (.iconst 0, 1) := by decide +kernel
theorem d_Load_init_32 : decode b_Load_init 32 = .ok (.putfield 25, 3) := by decide +kernel
theorem d_Load_init_35 : decode b_Load_init 35 = .ok (.aload_n 0, 1) := by decide +kernel
theorem d_Load_init_36 : decode b_Load_init 36 = .ok (.iconst 0, 1) := by decide +kernel
theorem d_Load_init_37 : decode b_Load_init 37 = .ok (.putfield 29, 3) := by decide +kernel
theorem d_Load_init_40 : decode b_Load_init 40 = .ok (.return_, 1) := by decide +kernel
theorem d_Rows_init_0 : decode b_Rows_init 0 = .ok (.aload_n 0, 1) := by decide +kernel
theorem d_Rows_init_1 : decode b_Rows_init 1 = .ok (.invokespecial 1, 3) := by decide +kernel
theorem d_Rows_init_4 : decode b_Rows_init 4 = .ok (.aload_n 0, 1) := by decide +kernel
theorem d_Rows_init_5 : decode b_Rows_init 5 = .ok (.new 7, 3) := by decide +kernel
theorem d_Rows_init_8 : decode b_Rows_init 8 = .ok (.dup, 1) := by decide +kernel
theorem d_Rows_init_9 : decode b_Rows_init 9 = .ok (.invokespecial 9, 3) := by decide +kernel
theorem d_Rows_init_12 : decode b_Rows_init 12 = .ok (.putfield 10, 3) := by decide +kernel
theorem d_Rows_init_15 : decode b_Rows_init 15 = .ok (.aload_n 0, 1) := by decide +kernel
theorem d_Rows_init_16 : decode b_Rows_init 16 = .ok (.new 7, 3) := by decide +kernel
theorem d_Rows_init_19 : decode b_Rows_init 19 = .ok (.dup, 1) := by decide +kernel
theorem d_Rows_init_20 : decode b_Rows_init 20 = .ok (.invokespecial 9, 3) := by decide +kernel
theorem d_Rows_init_23 : decode b_Rows_init 23 = .ok (.putfield 16, 3) := by decide +kernel
theorem d_Rows_init_26 : decode b_Rows_init 26 = .ok (.aload_n 0, 1) := by decide +kernel
theorem d_Rows_init_27 : decode b_Rows_init 27 = .ok (.bipush 36, 2) := by decide +kernel
theorem d_Rows_init_29 : decode b_Rows_init 29 = .ok (.newarray .int, 2) := by decide +kernel
theorem d_Rows_init_31 : decode b_Rows_init 31 = .ok (.putfield 19, 3) := by decide +kernel
theorem d_Rows_init_34 : decode b_Rows_init 34 = .ok (.iconst 0, 1) := by decide +kernel
theorem d_Rows_init_35 : decode b_Rows_init 35 = .ok (.istore_n 1, 1) := by decide +kernel
theorem d_Rows_init_36 : decode b_Rows_init 36 = .ok (.iload_n 1, 1) := by decide +kernel
theorem d_Rows_init_37 : decode b_Rows_init 37 = .ok (.aload_n 0, 1) := by decide +kernel
theorem d_Rows_init_38 : decode b_Rows_init 38 = .ok (.getfield 19, 3) := by decide +kernel
theorem d_Rows_init_41 : decode b_Rows_init 41 = .ok (.arraylength, 1) := by decide +kernel
theorem d_Rows_init_42 : decode b_Rows_init 42 = .ok (.if_icmp .ge 17, 3) := by decide +kernel
theorem d_Rows_init_45 : decode b_Rows_init 45 = .ok (.aload_n 0, 1) := by decide +kernel
theorem d_Rows_init_46 : decode b_Rows_init 46 = .ok (.getfield 19, 3) := by decide +kernel
theorem d_Rows_init_49 : decode b_Rows_init 49 = .ok (.iload_n 1, 1) := by decide +kernel
theorem d_Rows_init_50 : decode b_Rows_init 50 = .ok (.bipush 40, 2) := by decide +kernel
theorem d_Rows_init_52 : decode b_Rows_init 52 = .ok (.iastore, 1) := by decide +kernel
theorem d_Rows_init_53 : decode b_Rows_init 53 = .ok (.iinc 1 1, 3) := by decide +kernel
theorem d_Rows_init_56 : decode b_Rows_init 56 = .ok (.goto (-20), 3) := by decide +kernel
theorem d_Rows_init_59 : decode b_Rows_init 59 = .ok (.aload_n 0, 1) := by decide +kernel
theorem d_Rows_init_60 : decode b_Rows_init 60 = .ok (.bipush 36, 2) := by decide +kernel
theorem d_Rows_init_62 : decode b_Rows_init 62 = .ok (.newarray .int, 2) := by decide +kernel
theorem d_Rows_init_64 : decode b_Rows_init 64 = .ok (.putfield 23, 3) := by decide +kernel
theorem d_Rows_init_67 : decode b_Rows_init 67 = .ok (.aload_n 0, 1) := by decide +kernel
theorem d_Rows_init_68 : decode b_Rows_init 68 = .ok (.bipush 36, 2) := by decide +kernel
theorem d_Rows_init_70 : decode b_Rows_init 70 = .ok (.newarray .int, 2) := by decide +kernel
theorem d_Rows_init_72 : decode b_Rows_init 72 = .ok (.putfield 26, 3) := by decide +kernel
theorem d_Rows_init_75 : decode b_Rows_init 75 = .ok (.aload_n 0, 1) := by decide +kernel
theorem d_Rows_init_76 : decode b_Rows_init 76 = .ok (.bipush 36, 2) := by decide +kernel
theorem d_Rows_init_78 : decode b_Rows_init 78 = .ok (.newarray .int, 2) := by decide +kernel
theorem d_Rows_init_80 : decode b_Rows_init 80 = .ok (.putfield 29, 3) := by decide +kernel
theorem d_Rows_init_83 : decode b_Rows_init 83 = .ok (.aload_n 0, 1) := by decide +kernel
theorem d_Rows_init_84 : decode b_Rows_init 84 = .ok (.iconst 4, 1) := by decide +kernel
theorem d_Rows_init_85 : decode b_Rows_init 85 = .ok (.newarray .int, 2) := by decide +kernel
theorem d_Rows_init_87 : decode b_Rows_init 87 = .ok (.putfield 32, 3) := by decide +kernel
theorem d_Rows_init_90 : decode b_Rows_init 90 = .ok (.aload_n 0, 1) := by decide +kernel
theorem d_Rows_init_91 : decode b_Rows_init 91 = .ok (.new 35, 3) := by decide +kernel
theorem d_Rows_init_94 : decode b_Rows_init 94 = .ok (.dup, 1) := by decide +kernel
theorem d_Rows_init_95 : decode b_Rows_init 95 = .ok (.invokespecial 37, 3) := by decide +kernel
theorem d_Rows_init_98 : decode b_Rows_init 98 = .ok (.putfield 38, 3) := by decide +kernel
theorem d_Rows_init_101 : decode b_Rows_init 101 = .ok (.aload_n 0, 1) := by decide +kernel
theorem d_Rows_init_102 : decode b_Rows_init 102 = .ok (.new 42, 3) := by decide +kernel
theorem d_Rows_init_105 : decode b_Rows_init 105 = .ok (.dup, 1) := by decide +kernel
theorem d_Rows_init_106 : decode b_Rows_init 106 = .ok (.invokespecial 44, 3) := by decide +kernel
theorem d_Rows_init_109 : decode b_Rows_init 109 = .ok (.putfield 45, 3) := by decide +kernel
theorem d_Rows_init_112 : decode b_Rows_init 112 = .ok (.aload_n 0, 1) := by decide +kernel
theorem d_Rows_init_113 : decode b_Rows_init 113 = .ok (.lconst 0, 1) := by decide +kernel
theorem d_Rows_init_114 : decode b_Rows_init 114 = .ok (.putfield 49, 3) := by decide +kernel
theorem d_Rows_init_117 : decode b_Rows_init 117 = .ok (.aload_n 0, 1) := by decide +kernel
theorem d_Rows_init_118 : decode b_Rows_init 118 = .ok (.lconst 0, 1) := by decide +kernel
theorem d_Rows_init_119 : decode b_Rows_init 119 = .ok (.putfield 53, 3) := by decide +kernel
theorem d_Rows_init_122 : decode b_Rows_init 122 = .ok (.aload_n 0, 1) := by decide +kernel
theorem d_Rows_init_123 : decode b_Rows_init 123 = .ok (.iconst 0, 1) := by decide +kernel
theorem d_Rows_init_124 : decode b_Rows_init 124 = .ok (.putfield 56, 3) := by decide +kernel
theorem d_Rows_init_127 : decode b_Rows_init 127 = .ok (.return_, 1) := by decide +kernel
theorem d_AL_size_0 : decode b_AL_size 0 = .ok (.aload_n 0, 1) := by decide +kernel
theorem d_AL_size_1 : decode b_AL_size 1 = .ok (.getfield 48, 3) := by decide +kernel
theorem d_AL_size_4 : decode b_AL_size 4 = .ok (.ireturn, 1) := by decide +kernel
theorem d_Ini_init_0 : decode b_Ini_init 0 = .ok (.aload_n 0, 1) := by decide +kernel
theorem d_Ini_init_1 : decode b_Ini_init 1 = .ok (.invokespecial 3, 3) := by decide +kernel
theorem d_Ini_init_4 : decode b_Ini_init 4 = .ok (.aload_n 0, 1) := by decide +kernel
theorem d_Ini_init_5 : decode b_Ini_init 5 = .ok (.bipush 8, 2) := by decide +kernel
theorem d_Ini_init_7 : decode b_Ini_init 7 = .ok (.newarray .int, 2) := by decide +kernel
theorem d_Ini_init_9 : decode b_Ini_init 9 = .ok (.putfield 9, 3) := by decide +kernel
theorem d_Ini_init_12 : decode b_Ini_init 12 = .ok (.iconst 0, 1) := by decide +kernel
theorem d_Ini_init_13 : decode b_Ini_init 13 = .ok (.istore_n 1, 1) := by decide +kernel
theorem d_Ini_init_14 : decode b_Ini_init 14 = .ok (.iload_n 1, 1) := by decide +kernel
theorem d_Ini_init_15 : decode b_Ini_init 15 = .ok (.aload_n 0, 1) := by decide +kernel
theorem d_Ini_init_16 : decode b_Ini_init 16 = .ok (.getfield 9, 3) := by decide +kernel
theorem d_Ini_init_19 : decode b_Ini_init 19 = .ok (.arraylength, 1) := by decide +kernel
theorem d_Ini_init_20 : decode b_Ini_init 20 = .ok (.if_icmp .ge 16, 3) := by decide +kernel
theorem d_Ini_init_23 : decode b_Ini_init 23 = .ok (.aload_n 0, 1) := by decide +kernel
theorem d_Ini_init_24 : decode b_Ini_init 24 = .ok (.getfield 9, 3) := by decide +kernel
theorem d_Ini_init_27 : decode b_Ini_init 27 = .ok (.iload_n 1, 1) := by decide +kernel
theorem d_Ini_init_28 : decode b_Ini_init 28 = .ok (.iconst (-1), 1) := by decide +kernel
theorem d_Ini_init_29 : decode b_Ini_init 29 = .ok (.iastore, 1) := by decide +kernel
theorem d_Ini_init_30 : decode b_Ini_init 30 = .ok (.iinc 1 1, 3) := by decide +kernel
theorem d_Ini_init_33 : decode b_Ini_init 33 = .ok (.goto (-19), 3) := by decide +kernel
theorem d_Ini_init_36 : decode b_Ini_init 36 = .ok (.aload_n 0, 1) := by decide +kernel
theorem d_Ini_init_37 : decode b_Ini_init 37 = .ok (.iconst 0, 1) := by decide +kernel
theorem d_Ini_init_38 : decode b_Ini_init 38 = .ok (.putfield 15, 3) := by decide +kernel
theorem d_Ini_init_41 : decode b_Ini_init 41 = .ok (.aload_n 0, 1) := by decide +kernel
theorem d_Ini_init_42 : decode b_Ini_init 42 = .ok (.iconst 0, 1) := by decide +kernel
theorem d_Ini_init_43 : decode b_Ini_init 43 = .ok (.putfield 19, 3) := by decide +kernel
theorem d_Ini_init_46 : decode b_Ini_init 46 = .ok (.return_, 1) := by decide +kernel
theorem d_ASup_newLength_0 : decode b_ASup_newLength 0 = .ok (.iload_n 0, 1) := by decide +kernel
theorem d_ASup_newLength_1 : decode b_ASup_newLength 1 = .ok (.iload_n 1, 1) := by decide +kernel
theorem d_ASup_newLength_2 : decode b_ASup_newLength 2 = .ok (.iload_n 2, 1) := by decide +kernel
theorem d_ASup_newLength_3 : decode b_ASup_newLength 3 = .ok (.invokestatic 194, 3) := by decide +kernel
theorem d_ASup_newLength_6 : decode b_ASup_newLength 6 = .ok (.iadd, 1) := by decide +kernel
theorem d_ASup_newLength_7 : decode b_ASup_newLength 7 = .ok (.istore_n 3, 1) := by decide +kernel
theorem d_ASup_newLength_8 : decode b_ASup_newLength 8 = .ok (.iconst 0, 1) := by decide +kernel
theorem d_ASup_newLength_9 : decode b_ASup_newLength 9 = .ok (.iload_n 3, 1) := by decide +kernel
theorem d_ASup_newLength_10 : decode b_ASup_newLength 10 = .ok (.if_icmp .ge 11, 3) := by decide +kernel
theorem d_ASup_newLength_13 : decode b_ASup_newLength 13 = .ok (.iload_n 3, 1) := by decide +kernel
theorem d_ASup_newLength_14 : decode b_ASup_newLength 14 = .ok (.ldc 200, 2) := by decide +kernel
theorem d_ASup_newLength_16 : decode b_ASup_newLength 16 = .ok (.if_icmp .gt 5, 3) := by decide +kernel
theorem d_ASup_newLength_19 : decode b_ASup_newLength 19 = .ok (.iload_n 3, 1) := by decide +kernel
theorem d_ASup_newLength_20 : decode b_ASup_newLength 20 = .ok (.ireturn, 1) := by decide +kernel
theorem d_ASup_newLength_21 : decode b_ASup_newLength 21 = .ok (.iload_n 0, 1) := by decide +kernel
theorem d_ASup_newLength_22 : decode b_ASup_newLength 22 = .ok (.iload_n 1, 1) := by decide +kernel
theorem d_ASup_newLength_23 : decode b_ASup_newLength 23 = .ok (.invokestatic 201, 3) := by decide +kernel
theorem d_ASup_newLength_26 : decode b_ASup_newLength 26 = .ok (.ireturn, 1) := by decide +kernel
theorem d_Arrs_copyOf_AIL_0 : decode b_Arrs_copyOf_AIL 0 = .ok (.aload_n 2, 1) := by decide +kernel
theorem d_Arrs_copyOf_AIL_1 : decode b_Arrs_copyOf_AIL 1 = .ok (.ldc 110, 2) := by decide +kernel
theorem d_Arrs_copyOf_AIL_3 : decode b_Arrs_copyOf_AIL 3 = .ok (.if_acmp .ne 10, 3) := by decide +kernel
theorem d_Arrs_copyOf_AIL_6 : decode b_Arrs_copyOf_AIL 6 = .ok (.iload_n 1, 1) := by decide +kernel
theorem d_Arrs_copyOf_AIL_7 : decode b_Arrs_copyOf_AIL 7 = .ok (.anewarray 2, 3) := by decide +kernel
theorem d_Arrs_copyOf_AIL_10 : decode b_Arrs_copyOf_AIL 10 = .ok (.goto 14, 3) := by decide +kernel
theorem d_Arrs_copyOf_AIL_13 : decode b_Arrs_copyOf_AIL 13 = .ok (.aload_n 2, 1) := by decide +kernel
theorem d_Arrs_copyOf_AIL_14 : decode b_Arrs_copyOf_AIL 14 = .ok (.invokevirtual 90, 3) := by decide +kernel
theorem d_Arrs_copyOf_AIL_17 : decode b_Arrs_copyOf_AIL 17 = .ok (.iload_n 1, 1) := by decide +kernel
theorem d_Arrs_copyOf_AIL_18 : decode b_Arrs_copyOf_AIL 18 = .ok (.invokestatic 95, 3) := by decide +kernel
theorem d_Arrs_copyOf_AIL_21 : decode b_Arrs_copyOf_AIL 21 = .ok (.checkcast 110, 3) := by decide +kernel
theorem d_Arrs_copyOf_AIL_24 : decode b_Arrs_copyOf_AIL 24 = .ok (.astore_n 3, 1) := by decide +kernel
theorem d_Arrs_copyOf_AIL_25 : decode b_Arrs_copyOf_AIL 25 = .ok (.aload_n 0, 1) := by decide +kernel
theorem d_Arrs_copyOf_AIL_26 : decode b_Arrs_copyOf_AIL 26 = .ok (.iconst 0, 1) := by decide +kernel
theorem d_Arrs_copyOf_AIL_27 : decode b_Arrs_copyOf_AIL 27 = .ok (.aload_n 3, 1) := by decide +kernel
theorem d_Arrs_copyOf_AIL_28 : decode b_Arrs_copyOf_AIL 28 = .ok (.iconst 0, 1) := by decide +kernel
theorem d_Arrs_copyOf_AIL_29 : decode b_Arrs_copyOf_AIL 29 = .ok (.aload_n 0, 1) := by decide +kernel
theorem d_Arrs_copyOf_AIL_30 : decode b_Arrs_copyOf_AIL 30 = .ok (.arraylength, 1) := by decide +kernel
theorem d_Arrs_copyOf_AIL_31 : decode b_Arrs_copyOf_AIL 31 = .ok (.iload_n 1, 1) := by decide +kernel
theorem d_Arrs_copyOf_AIL_32 : decode b_Arrs_copyOf_AIL 32 = .ok (.invokestatic 304, 3) := by decide +kernel
theorem d_Arrs_copyOf_AIL_35 : decode b_Arrs_copyOf_AIL 35 = .ok (.invokestatic 150, 3) := by decide +kernel
theorem d_Arrs_copyOf_AIL_38 : decode b_Arrs_copyOf_AIL 38 = .ok (.aload_n 3, 1) := by decide +kernel
theorem d_Arrs_copyOf_AIL_39 : decode b_Arrs_copyOf_AIL 39 = .ok (.areturn, 1) := by decide +kernel
theorem d_Arrs_copyOf_AI_0 : decode b_Arrs_copyOf_AI 0 = .ok (.aload_n 0, 1) := by decide +kernel
theorem d_Arrs_copyOf_AI_1 : decode b_Arrs_copyOf_AI 1 = .ok (.iload_n 1, 1) := by decide +kernel
theorem d_Arrs_copyOf_AI_2 : decode b_Arrs_copyOf_AI 2 = .ok (.aload_n 0, 1) := by decide +kernel
theorem d_Arrs_copyOf_AI_3 : decode b_Arrs_copyOf_AI 3 = .ok (.invokevirtual 86, 3) := by decide +kernel
theorem d_Arrs_copyOf_AI_6 : decode b_Arrs_copyOf_AI 6 = .ok (.invokestatic 300, 3) := by decide +kernel
theorem d_Arrs_copyOf_AI_9 : decode b_Arrs_copyOf_AI 9 = .ok (.areturn, 1) := by decide +kernel
theorem d_AL_grow_I_0 : decode b_AL_grow_I 0 = .ok (.aload_n 0, 1) := by decide +kernel
theorem d_AL_grow_I_1 : decode b_AL_grow_I 1 = .ok (.getfield 9, 3) := by decide +kernel
theorem d_AL_grow_I_4 : decode b_AL_grow_I 4 = .ok (.arraylength, 1) := by decide +kernel
theorem d_AL_grow_I_5 : decode b_AL_grow_I 5 = .ok (.istore_n 2, 1) := by decide +kernel
theorem d_AL_grow_I_6 : decode b_AL_grow_I 6 = .ok (.iload_n 2, 1) := by decide +kernel
theorem d_AL_grow_I_7 : decode b_AL_grow_I 7 = .ok (.ifCond .gt 13, 3) := by decide +kernel
theorem d_AL_grow_I_10 : decode b_AL_grow_I 10 = .ok (.aload_n 0, 1) := by decide +kernel
theorem d_AL_grow_I_11 : decode b_AL_grow_I 11 = .ok (.getfield 9, 3) := by decide +kernel
theorem d_AL_grow_I_14 : decode b_AL_grow_I 14 = .ok (.getstatic 39, 3) := by decide +kernel
theorem d_AL_grow_I_17 : decode b_AL_grow_I 17 = .ok (.if_acmp .eq 28, 3) := by decide +kernel
theorem d_AL_grow_I_20 : decode b_AL_grow_I 20 = .ok (.iload_n 2, 1) := by decide +kernel
theorem d_AL_grow_I_21 : decode b_AL_grow_I 21 = .ok (.iload_n 1, 1) := by decide +kernel
theorem d_AL_grow_I_22 : decode b_AL_grow_I 22 = .ok (.iload_n 2, 1) := by decide +kernel
theorem d_AL_grow_I_23 : decode b_AL_grow_I 23 = .ok (.isub, 1) := by decide +kernel
theorem d_AL_grow_I_24 : decode b_AL_grow_I 24 = .ok (.iload_n 2, 1) := by decide +kernel
theorem d_AL_grow_I_25 : decode b_AL_grow_I 25 = .ok (.iconst 1, 1) := by decide +kernel
theorem d_AL_grow_I_26 : decode b_AL_grow_I 26 = .ok (.ishr, 1) := by decide +kernel
theorem d_AL_grow_I_27 : decode b_AL_grow_I 27 = .ok (.invokestatic 73, 3) := by decide +kernel
theorem d_AL_grow_I_30 : decode b_AL_grow_I 30 = .ok (.istore_n 3, 1) := by decide +kernel
theorem d_AL_grow_I_31 : decode b_AL_grow_I 31 = .ok (.aload_n 0, 1) := by decide +kernel
theorem d_AL_grow_I_32 : decode b_AL_grow_I 32 = .ok (.aload_n 0, 1) := by decide +kernel
theorem d_AL_grow_I_33 : decode b_AL_grow_I 33 = .ok (.getfield 9, 3) := by decide +kernel
theorem d_AL_grow_I_36 : decode b_AL_grow_I 36 = .ok (.iload_n 3, 1) := by decide +kernel
theorem d_AL_grow_I_37 : decode b_AL_grow_I 37 = .ok (.invokestatic 66, 3) := by decide +kernel
theorem d_AL_grow_I_40 : decode b_AL_grow_I 40 = .ok (.dup_x1, 1) := by decide +kernel
theorem d_AL_grow_I_41 : decode b_AL_grow_I 41 = .ok (.putfield 9, 3) := by decide +kernel
theorem d_AL_grow_I_44 : decode b_AL_grow_I 44 = .ok (.areturn, 1) := by decide +kernel
theorem d_AL_grow_I_45 : decode b_AL_grow_I 45 = .ok (.aload_n 0, 1) := by decide +kernel
theorem d_AL_grow_I_46 : decode b_AL_grow_I 46 = .ok (.bipush 10, 2) := by decide +kernel
theorem d_AL_grow_I_48 : decode b_AL_grow_I 48 = .ok (.iload_n 1, 1) := by decide +kernel
theorem d_AL_grow_I_49 : decode b_AL_grow_I 49 = .ok (.invokestatic 79, 3) := by decide +kernel
theorem d_AL_grow_I_52 : decode b_AL_grow_I 52 = .ok (.anewarray 7, 3) := by decide +kernel
theorem d_AL_grow_I_55 : decode b_AL_grow_I 55 = .ok (.dup_x1, 1) := by decide +kernel
theorem d_AL_grow_I_56 : decode b_AL_grow_I 56 = .ok (.putfield 9, 3) := by decide +kernel
theorem d_AL_grow_I_59 : decode b_AL_grow_I 59 = .ok (.areturn, 1) := by decide +kernel
theorem d_AL_grow_v_0 : decode b_AL_grow_v 0 = .ok (.aload_n 0, 1) := by decide +kernel
theorem d_AL_grow_v_1 : decode b_AL_grow_v 1 = .ok (.aload_n 0, 1) := by decide +kernel
theorem d_AL_grow_v_2 : decode b_AL_grow_v 2 = .ok (.getfield 48, 3) := by decide +kernel
theorem d_AL_grow_v_5 : decode b_AL_grow_v 5 = .ok (.iconst 1, 1) := by decide +kernel
theorem d_AL_grow_v_6 : decode b_AL_grow_v 6 = .ok (.iadd, 1) := by decide +kernel
theorem d_AL_grow_v_7 : decode b_AL_grow_v 7 = .ok (.invokevirtual 69, 3) := by decide +kernel
theorem d_AL_grow_v_10 : decode b_AL_grow_v 10 = .ok (.areturn, 1) := by decide +kernel
theorem d_AL_add_LAI_0 : decode b_AL_add_LAI 0 = .ok (.iload_n 3, 1) := by decide +kernel
theorem d_AL_add_LAI_1 : decode b_AL_add_LAI 1 = .ok (.aload_n 2, 1) := by decide +kernel
theorem d_AL_add_LAI_2 : decode b_AL_add_LAI 2 = .ok (.arraylength, 1) := by decide +kernel
theorem d_AL_add_LAI_3 : decode b_AL_add_LAI 3 = .ok (.if_icmp .ne 8, 3) := by decide +kernel
theorem d_AL_add_LAI_6 : decode b_AL_add_LAI 6 = .ok (.aload_n 0, 1) := by decide +kernel
theorem d_AL_add_LAI_7 : decode b_AL_add_LAI 7 = .ok (.invokevirtual 129, 3) := by decide +kernel
theorem d_AL_add_LAI_10 : decode b_AL_add_LAI 10 = .ok (.astore_n 2, 1) := by decide +kernel
theorem d_AL_add_LAI_11 : decode b_AL_add_LAI 11 = .ok (.aload_n 2, 1) := by decide +kernel
theorem d_AL_add_LAI_12 : decode b_AL_add_LAI 12 = .ok (.iload_n 3, 1) := by decide +kernel
theorem d_AL_add_LAI_13 : decode b_AL_add_LAI 13 = .ok (.aload_n 1, 1) := by decide +kernel
theorem d_AL_add_LAI_14 : decode b_AL_add_LAI 14 = .ok (.aastore, 1) := by decide +kernel
theorem d_AL_add_LAI_15 : decode b_AL_add_LAI 15 = .ok (.aload_n 0, 1) := by decide +kernel
theorem d_AL_add_LAI_16 : decode b_AL_add_LAI 16 = .ok (.iload_n 3, 1) := by decide +kernel
theorem d_AL_add_LAI_17 : decode b_AL_add_LAI 17 = .ok (.iconst 1, 1) := by decide +kernel
theorem d_AL_add_LAI_18 : decode b_AL_add_LAI 18 = .ok (.iadd, 1) := by decide +kernel
theorem d_AL_add_LAI_19 : decode b_AL_add_LAI 19 = .ok (.putfield 48, 3) := by decide +kernel
theorem d_AL_add_LAI_22 : decode b_AL_add_LAI 22 = .ok (.return_, 1) := by decide +kernel
theorem d_AL_add_L_0 : decode b_AL_add_L 0 = .ok (.aload_n 0, 1) := by decide +kernel
theorem d_AL_add_L_1 : decode b_AL_add_L 1 = .ok (.dup, 1) := by decide +kernel
theorem d_AL_add_L_2 : decode b_AL_add_L 2 = .ok (.getfield 63, 3) := by decide +kernel
theorem d_AL_add_L_5 : decode b_AL_add_L 5 = .ok (.iconst 1, 1) := by decide +kernel
theorem d_AL_add_L_6 : decode b_AL_add_L 6 = .ok (.iadd, 1) := by decide +kernel
theorem d_AL_add_L_7 : decode b_AL_add_L 7 = .ok (.putfield 63, 3) := by decide +kernel
theorem d_AL_add_L_10 : decode b_AL_add_L 10 = .ok (.aload_n 0, 1) := by decide +kernel
theorem d_AL_add_L_11 : decode b_AL_add_L 11 = .ok (.aload_n 1, 1) := by decide +kernel
theorem d_AL_add_L_12 : decode b_AL_add_L 12 = .ok (.aload_n 0, 1) := by decide +kernel
theorem d_AL_add_L_13 : decode b_AL_add_L 13 = .ok (.getfield 9, 3) := by decide +kernel
theorem d_AL_add_L_16 : decode b_AL_add_L 16 = .ok (.aload_n 0, 1) := by decide +kernel
theorem d_AL_add_L_17 : decode b_AL_add_L 17 = .ok (.getfield 48, 3) := by decide +kernel
theorem d_AL_add_L_20 : decode b_AL_add_L 20 = .ok (.invokevirtual 131, 3) := by decide +kernel
theorem d_AL_add_L_23 : decode b_AL_add_L 23 = .ok (.iconst 1, 1) := by decide +kernel
theorem d_AL_add_L_24 : decode b_AL_add_L 24 = .ok (.ireturn, 1) := by decide +kernel
theorem d_Rows_initiator_0 : decode b_Rows_initiator 0 = .ok (.aload_n 0, 1) := by decide +kernel
theorem d_Rows_initiator_1 : decode b_Rows_initiator 1 = .ok (.getfield 10, 3) := by decide +kernel
theorem d_Rows_initiator_4 : decode b_Rows_initiator 4 = .ok (.invokevirtual 60, 3) := by decide +kernel
theorem d_Rows_initiator_7 : decode b_Rows_initiator 7 = .ok (.bipush 12, 2) := by decide +kernel
theorem d_Rows_initiator_9 : decode b_Rows_initiator 9 = .ok (.if_icmp .lt 5, 3) := by decide +kernel
theorem d_Rows_initiator_12 : decode b_Rows_initiator 12 = .ok (.iconst (-1), 1) := by decide +kernel
theorem d_Rows_initiator_13 : decode b_Rows_initiator 13 = .ok (.ireturn, 1) := by decide +kernel
theorem d_Rows_initiator_14 : decode b_Rows_initiator 14 = .ok (.aload_n 0, 1) := by decide +kernel
theorem d_Rows_initiator_15 : decode b_Rows_initiator 15 = .ok (.getfield 10, 3) := by decide +kernel
theorem d_Rows_initiator_18 : decode b_Rows_initiator 18 = .ok (.new 64, 3) := by decide +kernel
theorem d_Rows_initiator_21 : decode b_Rows_initiator 21 = .ok (.dup, 1) := by decide +kernel
theorem d_Rows_initiator_22 : decode b_Rows_initiator 22 = .ok (.invokespecial 66, 3) := by decide +kernel
theorem d_Rows_initiator_25 : decode b_Rows_initiator 25 = .ok (.invokevirtual 67, 3) := by decide +kernel
theorem d_Rows_initiator_28 : decode b_Rows_initiator 28 = .ok (.pop, 1) := by decide +kernel
theorem d_Rows_initiator_29 : decode b_Rows_initiator 29 = .ok (.aload_n 0, 1) := by decide +kernel
theorem d_Rows_initiator_30 : decode b_Rows_initiator 30 = .ok (.getfield 10, 3) := by decide +kernel
theorem d_Rows_initiator_33 : decode b_Rows_initiator 33 = .ok (.invokevirtual 60, 3) := by decide +kernel
theorem d_Rows_initiator_36 : decode b_Rows_initiator 36 = .ok (.ireturn, 1) := by decide +kernel
theorem d_Rows_isIn_0 : decode b_Rows_isIn 0 = .ok (.iload_n 0, 1) := by decide +kernel
theorem d_Rows_isIn_1 : decode b_Rows_isIn 1 = .ok (.iload_n 1, 1) := by decide +kernel
theorem d_Rows_isIn_2 : decode b_Rows_isIn 2 = .ok (.if_icmp .lt 12, 3) := by decide +kernel
theorem d_Rows_isIn_5 : decode b_Rows_isIn 5 = .ok (.iload_n 0, 1) := by decide +kernel
theorem d_Rows_isIn_6 : decode b_Rows_isIn 6 = .ok (.iload_n 2, 1) := by decide +kernel
theorem d_Rows_isIn_7 : decode b_Rows_isIn 7 = .ok (.if_icmp .gt 7, 3) := by decide +kernel
theorem d_Rows_isIn_10 : decode b_Rows_isIn 10 = .ok (.iconst 1, 1) := by decide +kernel
theorem d_Rows_isIn_11 : decode b_Rows_isIn 11 = .ok (.goto 4, 3) := by decide +kernel
theorem d_Rows_isIn_14 : decode b_Rows_isIn 14 = .ok (.iconst 0, 1) := by decide +kernel
theorem d_Rows_isIn_15 : decode b_Rows_isIn 15 = .ok (.ireturn, 1) := by decide +kernel
theorem d_Prec_checkIndex_IIL_0 : decode b_Prec_checkIndex_IIL 0 = .ok (.iload_n 0, 1) := by decide +kernel
theorem d_Prec_checkIndex_IIL_1 : decode b_Prec_checkIndex_IIL 1 = .ok (.ifCond .lt 8, 3) := by decide +kernel
theorem d_Prec_checkIndex_IIL_4 : decode b_Prec_checkIndex_IIL 4 = .ok (.iload_n 0, 1) := by decide +kernel
theorem d_Prec_checkIndex_IIL_5 : decode b_Prec_checkIndex_IIL 5 = .ok (.iload_n 1, 1) := by decide +kernel
theorem d_Prec_checkIndex_IIL_6 : decode b_Prec_checkIndex_IIL 6 = .ok (.if_icmp .lt 10, 3) := by decide +kernel
theorem d_Prec_checkIndex_IIL_16 : decode b_Prec_checkIndex_IIL 16 = .ok (.iload_n 0, 1) := by decide +kernel
theorem d_Prec_checkIndex_IIL_17 : decode b_Prec_checkIndex_IIL 17 = .ok (.ireturn, 1) := by decide +kernel
theorem d_Objs_checkIndex_II_0 : decode b_Objs_checkIndex_II 0 = .ok (.iload_n 0, 1) := by decide +kernel
theorem d_Objs_checkIndex_II_1 : decode b_Objs_checkIndex_II 1 = .ok (.iload_n 1, 1) := by decide +kernel
theorem d_Objs_checkIndex_II_2 : decode b_Objs_checkIndex_II 2 = .ok (.aconst_null, 1) := by decide +kernel
theorem d_Objs_checkIndex_II_3 : decode b_Objs_checkIndex_II 3 = .ok (.invokestatic 105, 3) := by decide +kernel
theorem d_Objs_checkIndex_II_6 : decode b_Objs_checkIndex_II 6 = .ok (.ireturn, 1) := by decide +kernel
theorem d_AL_elementData_0 : decode b_AL_elementData 0 = .ok (.aload_n 0, 1) := by decide +kernel
theorem d_AL_elementData_1 : decode b_AL_elementData 1 = .ok (.getfield 9, 3) := by decide +kernel
theorem d_AL_elementData_4 : decode b_AL_elementData 4 = .ok (.iload_n 1, 1) := by decide +kernel
theorem d_AL_elementData_5 : decode b_AL_elementData 5 = .ok (.aaload, 1) := by decide +kernel
theorem d_AL_elementData_6 : decode b_AL_elementData 6 = .ok (.areturn, 1) := by decide +kernel
theorem d_AL_get_0 : decode b_AL_get 0 = .ok (.iload_n 1, 1) := by decide +kernel
theorem d_AL_get_1 : decode b_AL_get 1 = .ok (.aload_n 0, 1) := by decide +kernel
theorem d_AL_get_2 : decode b_AL_get 2 = .ok (.getfield 48, 3) := by decide +kernel
theorem d_AL_get_5 : decode b_AL_get 5 = .ok (.invokestatic 118, 3) := by decide +kernel
theorem d_AL_get_8 : decode b_AL_get 8 = .ok (.pop, 1) := by decide +kernel
theorem d_AL_get_9 : decode b_AL_get 9 = .ok (.aload_n 0, 1) := by decide +kernel
theorem d_AL_get_10 : decode b_AL_get 10 = .ok (.iload_n 1, 1) := by decide +kernel
theorem d_AL_get_11 : decode b_AL_get 11 = .ok (.invokevirtual 123, 3) := by decide +kernel
theorem d_AL_get_14 : decode b_AL_get 14 = .ok (.areturn, 1) := by decide +kernel
theorem d_Rows_findInitiator_0 : decode b_Rows_findInitiator 0 = .ok (.iload_n 1, 1) := by decide +kernel
theorem d_Rows_findInitiator_1 : decode b_Rows_findInitiator 1 = .ok (.iconst 1, 1) := by decide +kernel
theorem d_Rows_findInitiator_2 : decode b_Rows_findInitiator 2 = .ok (.aload_n 0, 1) := by decide +kernel
theorem d_Rows_findInitiator_3 : decode b_Rows_findInitiator 3 = .ok (.getfield 10, 3) := by decide +kernel
theorem d_Rows_findInitiator_6 : decode b_Rows_findInitiator 6 = .ok (.invokevirtual 60, 3) := by decide +kernel
theorem d_Rows_findInitiator_9 : decode b_Rows_findInitiator 9 = .ok (.invokestatic 75, 3) := by decide +kernel
theorem d_Rows_findInitiator_12 : decode b_Rows_findInitiator 12 = .ok (.ifCond .eq 19, 3) := by decide +kernel
theorem d_Rows_findInitiator_15 : decode b_Rows_findInitiator 15 = .ok (.aload_n 0, 1) := by decide +kernel
theorem d_Rows_findInitiator_16 : decode b_Rows_findInitiator 16 = .ok (.getfield 10, 3) := by decide +kernel
theorem d_Rows_findInitiator_19 : decode b_Rows_findInitiator 19 = .ok (.iload_n 1, 1) := by decide +kernel
theorem d_Rows_findInitiator_20 : decode b_Rows_findInitiator 20 = .ok (.iconst 1, 1) := by decide +kernel
theorem d_Rows_findInitiator_21 : decode b_Rows_findInitiator 21 = .ok (.isub, 1) := by decide +kernel
theorem d_Rows_findInitiator_22 : decode b_Rows_findInitiator 22 = .ok (.invokevirtual 156, 3) := by decide +kernel
theorem d_Rows_findInitiator_25 : decode b_Rows_findInitiator 25 = .ok (.checkcast 64, 3) := by decide +kernel
theorem d_Rows_findInitiator_28 : decode b_Rows_findInitiator 28 = .ok (.goto 4, 3) := by decide +kernel
theorem d_Rows_findInitiator_31 : decode b_Rows_findInitiator 31 = .ok (.aconst_null, 1) := by decide +kernel
theorem d_Rows_findInitiator_32 : decode b_Rows_findInitiator 32 = .ok (.areturn, 1) := by decide +kernel
theorem d_Rows_isClass_0 : decode b_Rows_isClass 0 = .ok (.iload_n 0, 1) := by decide +kernel
theorem d_Rows_isClass_1 : decode b_Rows_isClass 1 = .ok (.iconst 0, 1) := by decide +kernel
theorem d_Rows_isClass_2 : decode b_Rows_isClass 2 = .ok (.bipush 35, 2) := by decide +kernel
theorem d_Rows_isClass_4 : decode b_Rows_isClass 4 = .ok (.invokestatic 75, 3) := by decide +kernel
theorem d_Rows_isClass_7 : decode b_Rows_isClass 7 = .ok (.ireturn, 1) := by decide +kernel
theorem d_Rows_cls_0 : decode b_Rows_cls 0 = .ok (.aload_n 0, 1) := by decide +kernel
theorem d_Rows_cls_1 : decode b_Rows_cls 1 = .ok (.iload_n 1, 1) := by decide +kernel
theorem d_Rows_cls_2 : decode b_Rows_cls 2 = .ok (.invokevirtual 71, 3) := by decide +kernel
theorem d_Rows_cls_5 : decode b_Rows_cls 5 = .ok (.astore 4, 2) := by decide +kernel
theorem d_Rows_cls_7 : decode b_Rows_cls 7 = .ok (.aload 4, 2) := by decide +kernel
theorem d_Rows_cls_9 : decode b_Rows_cls 9 = .ok (.ifnonnull 6, 3) := by decide +kernel
theorem d_Rows_cls_12 : decode b_Rows_cls 12 = .ok (.bipush (-2), 2) := by decide +kernel
theorem d_Rows_cls_14 : decode b_Rows_cls 14 = .ok (.ireturn, 1) := by decide +kernel
theorem d_Rows_cls_15 : decode b_Rows_cls 15 = .ok (.iload_n 2, 1) := by decide +kernel
theorem d_Rows_cls_16 : decode b_Rows_cls 16 = .ok (.iconst 0, 1) := by decide +kernel
theorem d_Rows_cls_17 : decode b_Rows_cls 17 = .ok (.bipush 7, 2) := by decide +kernel
theorem d_Rows_cls_19 : decode b_Rows_cls 19 = .ok (.invokestatic 75, 3) := by decide +kernel
theorem d_Rows_cls_22 : decode b_Rows_cls 22 = .ok (.ifCond .eq 15, 3) := by decide +kernel
theorem d_Rows_cls_25 : decode b_Rows_cls 25 = .ok (.iload_n 3, 1) := by decide +kernel
theorem d_Rows_cls_26 : decode b_Rows_cls 26 = .ok (.iconst (-1), 1) := by decide +kernel
theorem d_Rows_cls_27 : decode b_Rows_cls 27 = .ok (.if_icmp .eq 13, 3) := by decide +kernel
theorem d_Rows_cls_30 : decode b_Rows_cls 30 = .ok (.iload_n 3, 1) := by decide +kernel
theorem d_Rows_cls_31 : decode b_Rows_cls 31 = .ok (.invokestatic 79, 3) := by decide +kernel
theorem d_Rows_cls_34 : decode b_Rows_cls 34 = .ok (.ifCond .ne 6, 3) := by decide +kernel
theorem d_Rows_cls_37 : decode b_Rows_cls 37 = .ok (.bipush (-4), 2) := by decide +kernel
theorem d_Rows_cls_39 : decode b_Rows_cls 39 = .ok (.ireturn, 1) := by decide +kernel
theorem d_Rows_cls_40 : decode b_Rows_cls 40 = .ok (.aload 4, 2) := by decide +kernel
theorem d_Rows_cls_42 : decode b_Rows_cls 42 = .ok (.getfield 83, 3) := by decide +kernel
theorem d_Rows_cls_45 : decode b_Rows_cls 45 = .ok (.iload_n 2, 1) := by decide +kernel
theorem d_Rows_cls_46 : decode b_Rows_cls 46 = .ok (.iload_n 3, 1) := by decide +kernel
theorem d_Rows_cls_47 : decode b_Rows_cls 47 = .ok (.iastore, 1) := by decide +kernel
theorem d_Rows_cls_48 : decode b_Rows_cls 48 = .ok (.iconst 1, 1) := by decide +kernel
theorem d_Rows_cls_49 : decode b_Rows_cls 49 = .ok (.ireturn, 1) := by decide +kernel
theorem d_Rows_limit_0 : decode b_Rows_limit 0 = .ok (.iload_n 1, 1) := by decide +kernel
theorem d_Rows_limit_1 : decode b_Rows_limit 1 = .ok (.invokestatic 79, 3) := by decide +kernel
theorem d_Rows_limit_4 : decode b_Rows_limit 4 = .ok (.ifCond .eq 13, 3) := by decide +kernel
theorem d_Rows_limit_7 : decode b_Rows_limit 7 = .ok (.iload_n 2, 1) := by decide +kernel
theorem d_Rows_limit_8 : decode b_Rows_limit 8 = .ok (.iconst 0, 1) := by decide +kernel
theorem d_Rows_limit_9 : decode b_Rows_limit 9 = .ok (.bipush 40, 2) := by decide +kernel
theorem d_Rows_limit_11 : decode b_Rows_limit 11 = .ok (.invokestatic 75, 3) := by decide +kernel
theorem d_Rows_limit_14 : decode b_Rows_limit 14 = .ok (.ifCond .ne 6, 3) := by decide +kernel
theorem d_Rows_limit_17 : decode b_Rows_limit 17 = .ok (.bipush (-4), 2) := by decide +kernel
theorem d_Rows_limit_19 : decode b_Rows_limit 19 = .ok (.ireturn, 1) := by decide +kernel
theorem d_Rows_limit_20 : decode b_Rows_limit 20 = .ok (.aload_n 0, 1) := by decide +kernel
theorem d_Rows_limit_21 : decode b_Rows_limit 21 = .ok (.getfield 19, 3) := by decide +kernel
theorem d_Rows_limit_24 : decode b_Rows_limit 24 = .ok (.iload_n 1, 1) := by decide +kernel
theorem d_Rows_limit_25 : decode b_Rows_limit 25 = .ok (.iload_n 2, 1) := by decide +kernel
theorem d_Rows_limit_26 : decode b_Rows_limit 26 = .ok (.iastore, 1) := by decide +kernel
theorem d_Rows_limit_27 : decode b_Rows_limit 27 = .ok (.iconst 1, 1) := by decide +kernel
theorem d_Rows_limit_28 : decode b_Rows_limit 28 = .ok (.ireturn, 1) := by decide +kernel
theorem d_Rows_window_0 : decode b_Rows_window 0 = .ok (.iload_n 1, 1) := by decide +kernel
theorem d_Rows_window_1 : decode b_Rows_window 1 = .ok (.invokestatic 79, 3) := by decide +kernel
theorem d_Rows_window_4 : decode b_Rows_window 4 = .ok (.ifCond .eq 25, 3) := by decide +kernel
theorem d_Rows_window_7 : decode b_Rows_window 7 = .ok (.iload_n 2, 1) := by decide +kernel
theorem d_Rows_window_8 : decode b_Rows_window 8 = .ok (.iconst 0, 1) := by decide +kernel
theorem d_Rows_window_9 : decode b_Rows_window 9 = .ok (.sipush 1439, 3) := by decide +kernel
theorem d_Rows_window_12 : decode b_Rows_window 12 = .ok (.invokestatic 75, 3) := by decide +kernel
theorem d_Rows_window_15 : decode b_Rows_window 15 = .ok (.ifCond .eq 14, 3) := by decide +kernel
theorem d_Rows_window_18 : decode b_Rows_window 18 = .ok (.iload_n 3, 1) := by decide +kernel
theorem d_Rows_window_19 : decode b_Rows_window 19 = .ok (.iconst 0, 1) := by decide +kernel
theorem d_Rows_window_20 : decode b_Rows_window 20 = .ok (.sipush 1439, 3) := by decide +kernel
theorem d_Rows_window_23 : decode b_Rows_window 23 = .ok (.invokestatic 75, 3) := by decide +kernel
theorem d_Rows_window_26 : decode b_Rows_window 26 = .ok (.ifCond .ne 6, 3) := by decide +kernel
theorem d_Rows_window_29 : decode b_Rows_window 29 = .ok (.bipush (-4), 2) := by decide +kernel
theorem d_Rows_window_31 : decode b_Rows_window 31 = .ok (.ireturn, 1) := by decide +kernel
theorem d_Rows_window_32 : decode b_Rows_window 32 = .ok (.aload_n 0, 1) := by decide +kernel
