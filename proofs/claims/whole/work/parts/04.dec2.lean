theorem d_Rows_window_33 : decode b_Rows_window 33 = .ok (.getfield 23, 3) := by decide +kernel
theorem d_Rows_window_36 : decode b_Rows_window 36 = .ok (.iload_n 1, 1) := by decide +kernel
theorem d_Rows_window_37 : decode b_Rows_window 37 = .ok (.iload_n 2, 1) := by decide +kernel
theorem d_Rows_window_38 : decode b_Rows_window 38 = .ok (.iastore, 1) := by decide +kernel
theorem d_Rows_window_39 : decode b_Rows_window 39 = .ok (.aload_n 0, 1) := by decide +kernel
theorem d_Rows_window_40 : decode b_Rows_window 40 = .ok (.getfield 26, 3) := by decide +kernel
theorem d_Rows_window_43 : decode b_Rows_window 43 = .ok (.iload_n 1, 1) := by decide +kernel
theorem d_Rows_window_44 : decode b_Rows_window 44 = .ok (.iload_n 3, 1) := by decide +kernel
theorem d_Rows_window_45 : decode b_Rows_window 45 = .ok (.iastore, 1) := by decide +kernel
theorem d_Rows_window_46 : decode b_Rows_window 46 = .ok (.iconst 1, 1) := by decide +kernel
theorem d_Rows_window_47 : decode b_Rows_window 47 = .ok (.ireturn, 1) := by decide +kernel
theorem d_Job_init_0 : decode b_Job_init 0 = .ok (.aload_n 0, 1) := by decide +kernel
theorem d_Job_init_1 : decode b_Job_init 1 = .ok (.invokespecial 3, 3) := by decide +kernel
theorem d_Job_init_4 : decode b_Job_init 4 = .ok (.aload_n 0, 1) := by decide +kernel
theorem d_Job_init_5 : decode b_Job_init 5 = .ok (.iload_n 1, 1) := by decide +kernel
theorem d_Job_init_6 : decode b_Job_init 6 = .ok (.putfield 9, 3) := by decide +kernel
theorem d_Job_init_9 : decode b_Job_init 9 = .ok (.aload_n 0, 1) := by decide +kernel
theorem d_Job_init_10 : decode b_Job_init 10 = .ok (.iload_n 2, 1) := by decide +kernel
theorem d_Job_init_11 : decode b_Job_init 11 = .ok (.putfield 15, 3) := by decide +kernel
theorem d_Job_init_14 : decode b_Job_init 14 = .ok (.aload_n 0, 1) := by decide +kernel
theorem d_Job_init_15 : decode b_Job_init 15 = .ok (.iload_n 3, 1) := by decide +kernel
theorem d_Job_init_16 : decode b_Job_init 16 = .ok (.putfield 18, 3) := by decide +kernel
theorem d_Job_init_19 : decode b_Job_init 19 = .ok (.aload_n 0, 1) := by decide +kernel
theorem d_Job_init_20 : decode b_Job_init 20 = .ok (.iload 4, 2) := by decide +kernel
theorem d_Job_init_22 : decode b_Job_init 22 = .ok (.putfield 21, 3) := by decide +kernel
theorem d_Job_init_25 : decode b_Job_init 25 = .ok (.aload_n 0, 1) := by decide +kernel
theorem d_Job_init_26 : decode b_Job_init 26 = .ok (.lload 5, 2) := by decide +kernel
theorem d_Job_init_28 : decode b_Job_init 28 = .ok (.putfield 24, 3) := by decide +kernel
theorem d_Job_init_31 : decode b_Job_init 31 = .ok (.aload_n 0, 1) := by decide +kernel
theorem d_Job_init_32 : decode b_Job_init 32 = .ok (.iconst 4, 1) := by decide +kernel
theorem d_Job_init_33 : decode b_Job_init 33 = .ok (.newarray .int, 2) := by decide +kernel
theorem d_Job_init_35 : decode b_Job_init 35 = .ok (.putfield 28, 3) := by decide +kernel
theorem d_Job_init_38 : decode b_Job_init 38 = .ok (.aload_n 0, 1) := by decide +kernel
theorem d_Job_init_39 : decode b_Job_init 39 = .ok (.new 32, 3) := by decide +kernel
theorem d_Job_init_42 : decode b_Job_init 42 = .ok (.dup, 1) := by decide +kernel
theorem d_Job_init_43 : decode b_Job_init 43 = .ok (.invokespecial 34, 3) := by decide +kernel
theorem d_Job_init_46 : decode b_Job_init 46 = .ok (.putfield 35, 3) := by decide +kernel
theorem d_Job_init_49 : decode b_Job_init 49 = .ok (.aload_n 0, 1) := by decide +kernel
theorem d_Job_init_50 : decode b_Job_init 50 = .ok (.iconst 0, 1) := by decide +kernel
theorem d_Job_init_51 : decode b_Job_init 51 = .ok (.putfield 39, 3) := by decide +kernel
theorem d_Job_init_54 : decode b_Job_init 54 = .ok (.aload_n 0, 1) := by decide +kernel
theorem d_Job_init_55 : decode b_Job_init 55 = .ok (.iconst 0, 1) := by decide +kernel
theorem d_Job_init_56 : decode b_Job_init 56 = .ok (.putfield 43, 3) := by decide +kernel
theorem d_Job_init_59 : decode b_Job_init 59 = .ok (.aload_n 0, 1) := by decide +kernel
theorem d_Job_init_60 : decode b_Job_init 60 = .ok (.lload 5, 2) := by decide +kernel
theorem d_Job_init_62 : decode b_Job_init 62 = .ok (.putfield 46, 3) := by decide +kernel
theorem d_Job_init_65 : decode b_Job_init 65 = .ok (.return_, 1) := by decide +kernel
theorem d_Rows_job_0 : decode b_Rows_job 0 = .ok (.iload_n 1, 1) := by decide +kernel
theorem d_Rows_job_1 : decode b_Rows_job 1 = .ok (.invokestatic 79, 3) := by decide +kernel
theorem d_Rows_job_4 : decode b_Rows_job 4 = .ok (.ifCond .eq 33, 3) := by decide +kernel
theorem d_Rows_job_7 : decode b_Rows_job 7 = .ok (.iload_n 2, 1) := by decide +kernel
theorem d_Rows_job_8 : decode b_Rows_job 8 = .ok (.iconst 0, 1) := by decide +kernel
theorem d_Rows_job_9 : decode b_Rows_job 9 = .ok (.bipush 15, 2) := by decide +kernel
theorem d_Rows_job_11 : decode b_Rows_job 11 = .ok (.invokestatic 75, 3) := by decide +kernel
theorem d_Rows_job_14 : decode b_Rows_job 14 = .ok (.ifCond .eq 23, 3) := by decide +kernel
theorem d_Rows_job_17 : decode b_Rows_job 17 = .ok (.iload_n 3, 1) := by decide +kernel
theorem d_Rows_job_18 : decode b_Rows_job 18 = .ok (.iconst 0, 1) := by decide +kernel
theorem d_Rows_job_19 : decode b_Rows_job 19 = .ok (.bipush 99, 2) := by decide +kernel
theorem d_Rows_job_21 : decode b_Rows_job 21 = .ok (.invokestatic 75, 3) := by decide +kernel
theorem d_Rows_job_24 : decode b_Rows_job 24 = .ok (.ifCond .eq 13, 3) := by decide +kernel
theorem d_Rows_job_27 : decode b_Rows_job 27 = .ok (.lload 4, 2) := by decide +kernel
theorem d_Rows_job_29 : decode b_Rows_job 29 = .ok (.aload_n 0, 1) := by decide +kernel
theorem d_Rows_job_30 : decode b_Rows_job 30 = .ok (.getfield 49, 3) := by decide +kernel
theorem d_Rows_job_33 : decode b_Rows_job 33 = .ok (.lcmp, 1) := by decide +kernel
theorem d_Rows_job_34 : decode b_Rows_job 34 = .ok (.ifCond .ge 6, 3) := by decide +kernel
theorem d_Rows_job_37 : decode b_Rows_job 37 = .ok (.bipush (-4), 2) := by decide +kernel
theorem d_Rows_job_39 : decode b_Rows_job 39 = .ok (.ireturn, 1) := by decide +kernel
theorem d_Rows_job_40 : decode b_Rows_job 40 = .ok (.aload_n 0, 1) := by decide +kernel
theorem d_Rows_job_41 : decode b_Rows_job 41 = .ok (.getfield 16, 3) := by decide +kernel
theorem d_Rows_job_44 : decode b_Rows_job 44 = .ok (.invokevirtual 60, 3) := by decide +kernel
theorem d_Rows_job_47 : decode b_Rows_job 47 = .ok (.bipush 100, 2) := by decide +kernel
theorem d_Rows_job_49 : decode b_Rows_job 49 = .ok (.if_icmp .lt 5, 3) := by decide +kernel
theorem d_Rows_job_52 : decode b_Rows_job 52 = .ok (.iconst (-1), 1) := by decide +kernel
theorem d_Rows_job_53 : decode b_Rows_job 53 = .ok (.ireturn, 1) := by decide +kernel
theorem d_Rows_job_54 : decode b_Rows_job 54 = .ok (.aload_n 0, 1) := by decide +kernel
theorem d_Rows_job_55 : decode b_Rows_job 55 = .ok (.lload 4, 2) := by decide +kernel
theorem d_Rows_job_57 : decode b_Rows_job 57 = .ok (.putfield 49, 3) := by decide +kernel
theorem d_Rows_job_60 : decode b_Rows_job 60 = .ok (.aload_n 0, 1) := by decide +kernel
theorem d_Rows_job_61 : decode b_Rows_job 61 = .ok (.getfield 16, 3) := by decide +kernel
theorem d_Rows_job_64 : decode b_Rows_job 64 = .ok (.invokevirtual 60, 3) := by decide +kernel
theorem d_Rows_job_67 : decode b_Rows_job 67 = .ok (.iconst 1, 1) := by decide +kernel
theorem d_Rows_job_68 : decode b_Rows_job 68 = .ok (.iadd, 1) := by decide +kernel
theorem d_Rows_job_69 : decode b_Rows_job 69 = .ok (.istore 6, 2) := by decide +kernel
theorem d_Rows_job_71 : decode b_Rows_job 71 = .ok (.aload_n 0, 1) := by decide +kernel
theorem d_Rows_job_72 : decode b_Rows_job 72 = .ok (.getfield 16, 3) := by decide +kernel
theorem d_Rows_job_75 : decode b_Rows_job 75 = .ok (.new 86, 3) := by decide +kernel
theorem d_Rows_job_78 : decode b_Rows_job 78 = .ok (.dup, 1) := by decide +kernel
theorem d_Rows_job_79 : decode b_Rows_job 79 = .ok (.iload 6, 2) := by decide +kernel
theorem d_Rows_job_81 : decode b_Rows_job 81 = .ok (.iload_n 1, 1) := by decide +kernel
theorem d_Rows_job_82 : decode b_Rows_job 82 = .ok (.iload_n 2, 1) := by decide +kernel
theorem d_Rows_job_83 : decode b_Rows_job 83 = .ok (.iload_n 3, 1) := by decide +kernel
theorem d_Rows_job_84 : decode b_Rows_job 84 = .ok (.lload 4, 2) := by decide +kernel
theorem d_Rows_job_86 : decode b_Rows_job 86 = .ok (.invokespecial 88, 3) := by decide +kernel
theorem d_Rows_job_89 : decode b_Rows_job 89 = .ok (.invokevirtual 67, 3) := by decide +kernel
theorem d_Rows_job_92 : decode b_Rows_job 92 = .ok (.pop, 1) := by decide +kernel
theorem d_Rows_job_93 : decode b_Rows_job 93 = .ok (.iload 6, 2) := by decide +kernel
theorem d_Rows_job_95 : decode b_Rows_job 95 = .ok (.ireturn, 1) := by decide +kernel
theorem d_Rows_findJob_0 : decode b_Rows_findJob 0 = .ok (.iload_n 1, 1) := by decide +kernel
theorem d_Rows_findJob_1 : decode b_Rows_findJob 1 = .ok (.iconst 1, 1) := by decide +kernel
theorem d_Rows_findJob_2 : decode b_Rows_findJob 2 = .ok (.aload_n 0, 1) := by decide +kernel
theorem d_Rows_findJob_3 : decode b_Rows_findJob 3 = .ok (.getfield 16, 3) := by decide +kernel
theorem d_Rows_findJob_6 : decode b_Rows_findJob 6 = .ok (.invokevirtual 60, 3) := by decide +kernel
theorem d_Rows_findJob_9 : decode b_Rows_findJob 9 = .ok (.invokestatic 75, 3) := by decide +kernel
theorem d_Rows_findJob_12 : decode b_Rows_findJob 12 = .ok (.ifCond .eq 19, 3) := by decide +kernel
theorem d_Rows_findJob_15 : decode b_Rows_findJob 15 = .ok (.aload_n 0, 1) := by decide +kernel
theorem d_Rows_findJob_16 : decode b_Rows_findJob 16 = .ok (.getfield 16, 3) := by decide +kernel
theorem d_Rows_findJob_19 : decode b_Rows_findJob 19 = .ok (.iload_n 1, 1) := by decide +kernel
theorem d_Rows_findJob_20 : decode b_Rows_findJob 20 = .ok (.iconst 1, 1) := by decide +kernel
theorem d_Rows_findJob_21 : decode b_Rows_findJob 21 = .ok (.isub, 1) := by decide +kernel
theorem d_Rows_findJob_22 : decode b_Rows_findJob 22 = .ok (.invokevirtual 156, 3) := by decide +kernel
theorem d_Rows_findJob_25 : decode b_Rows_findJob 25 = .ok (.checkcast 86, 3) := by decide +kernel
theorem d_Rows_findJob_28 : decode b_Rows_findJob 28 = .ok (.goto 4, 3) := by decide +kernel
theorem d_Rows_findJob_31 : decode b_Rows_findJob 31 = .ok (.aconst_null, 1) := by decide +kernel
theorem d_Rows_findJob_32 : decode b_Rows_findJob 32 = .ok (.areturn, 1) := by decide +kernel
theorem d_Job_isWaiting_0 : decode b_Job_isWaiting 0 = .ok (.aload_n 0, 1) := by decide +kernel
theorem d_Job_isWaiting_1 : decode b_Job_isWaiting 1 = .ok (.getfield 43, 3) := by decide +kernel
theorem d_Job_isWaiting_4 : decode b_Job_isWaiting 4 = .ok (.ifCond .eq 11, 3) := by decide +kernel
theorem d_Job_isWaiting_7 : decode b_Job_isWaiting 7 = .ok (.aload_n 0, 1) := by decide +kernel
theorem d_Job_isWaiting_8 : decode b_Job_isWaiting 8 = .ok (.getfield 43, 3) := by decide +kernel
theorem d_Job_isWaiting_11 : decode b_Job_isWaiting 11 = .ok (.iconst 1, 1) := by decide +kernel
theorem d_Job_isWaiting_12 : decode b_Job_isWaiting 12 = .ok (.if_icmp .ne 7, 3) := by decide +kernel
theorem d_Job_isWaiting_15 : decode b_Job_isWaiting 15 = .ok (.iconst 1, 1) := by decide +kernel
theorem d_Job_isWaiting_16 : decode b_Job_isWaiting 16 = .ok (.goto 4, 3) := by decide +kernel
theorem d_Job_isWaiting_19 : decode b_Job_isWaiting 19 = .ok (.iconst 0, 1) := by decide +kernel
theorem d_Job_isWaiting_20 : decode b_Job_isWaiting 20 = .ok (.ireturn, 1) := by decide +kernel
theorem d_NS_has_0 : decode b_NS_has 0 = .ok (.iload_n 1, 1) := by decide +kernel
theorem d_NS_has_1 : decode b_NS_has 1 = .ok (.bipush 64, 2) := by decide +kernel
theorem d_NS_has_3 : decode b_NS_has 3 = .ok (.if_icmp .ge 14, 3) := by decide +kernel
theorem d_NS_has_6 : decode b_NS_has 6 = .ok (.aload_n 0, 1) := by decide +kernel
theorem d_NS_has_7 : decode b_NS_has 7 = .ok (.getfield 7, 3) := by decide +kernel
theorem d_NS_has_10 : decode b_NS_has 10 = .ok (.lconst 1, 1) := by decide +kernel
theorem d_NS_has_11 : decode b_NS_has 11 = .ok (.iload_n 1, 1) := by decide +kernel
theorem d_NS_has_12 : decode b_NS_has 12 = .ok (.lshl, 1) := by decide +kernel
theorem d_NS_has_13 : decode b_NS_has 13 = .ok (.land, 1) := by decide +kernel
theorem d_NS_has_14 : decode b_NS_has 14 = .ok (.goto 14, 3) := by decide +kernel
theorem d_NS_has_17 : decode b_NS_has 17 = .ok (.aload_n 0, 1) := by decide +kernel
theorem d_NS_has_18 : decode b_NS_has 18 = .ok (.getfield 13, 3) := by decide +kernel
theorem d_NS_has_21 : decode b_NS_has 21 = .ok (.lconst 1, 1) := by decide +kernel
theorem d_NS_has_22 : decode b_NS_has 22 = .ok (.iload_n 1, 1) := by decide +kernel
theorem d_NS_has_23 : decode b_NS_has 23 = .ok (.bipush 64, 2) := by decide +kernel
theorem d_NS_has_25 : decode b_NS_has 25 = .ok (.isub, 1) := by decide +kernel
theorem d_NS_has_26 : decode b_NS_has 26 = .ok (.lshl, 1) := by decide +kernel
theorem d_NS_has_27 : decode b_NS_has 27 = .ok (.land, 1) := by decide +kernel
theorem d_NS_has_28 : decode b_NS_has 28 = .ok (.lstore_n 2, 1) := by decide +kernel
theorem d_NS_has_29 : decode b_NS_has 29 = .ok (.lload_n 2, 1) := by decide +kernel
theorem d_NS_has_30 : decode b_NS_has 30 = .ok (.lconst 0, 1) := by decide +kernel
theorem d_NS_has_31 : decode b_NS_has 31 = .ok (.lcmp, 1) := by decide +kernel
theorem d_NS_has_32 : decode b_NS_has 32 = .ok (.ifCond .eq 7, 3) := by decide +kernel
theorem d_NS_has_35 : decode b_NS_has 35 = .ok (.iconst 1, 1) := by decide +kernel
theorem d_NS_has_36 : decode b_NS_has 36 = .ok (.goto 4, 3) := by decide +kernel
theorem d_NS_has_39 : decode b_NS_has 39 = .ok (.iconst 0, 1) := by decide +kernel
theorem d_NS_has_40 : decode b_NS_has 40 = .ok (.ireturn, 1) := by decide +kernel
theorem d_NS_put_0 : decode b_NS_put 0 = .ok (.iload_n 1, 1) := by decide +kernel
theorem d_NS_put_1 : decode b_NS_put 1 = .ok (.bipush 64, 2) := by decide +kernel
theorem d_NS_put_3 : decode b_NS_put 3 = .ok (.if_icmp .ge 18, 3) := by decide +kernel
theorem d_NS_put_6 : decode b_NS_put 6 = .ok (.aload_n 0, 1) := by decide +kernel
theorem d_NS_put_7 : decode b_NS_put 7 = .ok (.dup, 1) := by decide +kernel
theorem d_NS_put_8 : decode b_NS_put 8 = .ok (.getfield 7, 3) := by decide +kernel
theorem d_NS_put_11 : decode b_NS_put 11 = .ok (.lconst 1, 1) := by decide +kernel
theorem d_NS_put_12 : decode b_NS_put 12 = .ok (.iload_n 1, 1) := by decide +kernel
theorem d_NS_put_13 : decode b_NS_put 13 = .ok (.lshl, 1) := by decide +kernel
theorem d_NS_put_14 : decode b_NS_put 14 = .ok (.lor, 1) := by decide +kernel
theorem d_NS_put_15 : decode b_NS_put 15 = .ok (.putfield 7, 3) := by decide +kernel
theorem d_NS_put_18 : decode b_NS_put 18 = .ok (.goto 18, 3) := by decide +kernel
theorem d_NS_put_21 : decode b_NS_put 21 = .ok (.aload_n 0, 1) := by decide +kernel
theorem d_NS_put_22 : decode b_NS_put 22 = .ok (.dup, 1) := by decide +kernel
theorem d_NS_put_23 : decode b_NS_put 23 = .ok (.getfield 13, 3) := by decide +kernel
theorem d_NS_put_26 : decode b_NS_put 26 = .ok (.lconst 1, 1) := by decide +kernel
theorem d_NS_put_27 : decode b_NS_put 27 = .ok (.iload_n 1, 1) := by decide +kernel
theorem d_NS_put_28 : decode b_NS_put 28 = .ok (.bipush 64, 2) := by decide +kernel
theorem d_NS_put_30 : decode b_NS_put 30 = .ok (.isub, 1) := by decide +kernel
theorem d_NS_put_31 : decode b_NS_put 31 = .ok (.lshl, 1) := by decide +kernel
theorem d_NS_put_32 : decode b_NS_put 32 = .ok (.lor, 1) := by decide +kernel
theorem d_NS_put_33 : decode b_NS_put 33 = .ok (.putfield 13, 3) := by decide +kernel
theorem d_NS_put_36 : decode b_NS_put 36 = .ok (.return_, 1) := by decide +kernel
theorem d_NS_putAll_0 : decode b_NS_putAll 0 = .ok (.aload_n 0, 1) := by decide +kernel
theorem d_NS_putAll_1 : decode b_NS_putAll 1 = .ok (.dup, 1) := by decide +kernel
theorem d_NS_putAll_2 : decode b_NS_putAll 2 = .ok (.getfield 7, 3) := by decide +kernel
theorem d_NS_putAll_5 : decode b_NS_putAll 5 = .ok (.aload_n 1, 1) := by decide +kernel
theorem d_NS_putAll_6 : decode b_NS_putAll 6 = .ok (.getfield 7, 3) := by decide +kernel
theorem d_NS_putAll_9 : decode b_NS_putAll 9 = .ok (.lor, 1) := by decide +kernel
theorem d_NS_putAll_10 : decode b_NS_putAll 10 = .ok (.putfield 7, 3) := by decide +kernel
theorem d_NS_putAll_13 : decode b_NS_putAll 13 = .ok (.aload_n 0, 1) := by decide +kernel
theorem d_NS_putAll_14 : decode b_NS_putAll 14 = .ok (.dup, 1) := by decide +kernel
theorem d_NS_putAll_15 : decode b_NS_putAll 15 = .ok (.getfield 13, 3) := by decide +kernel
theorem d_NS_putAll_18 : decode b_NS_putAll 18 = .ok (.aload_n 1, 1) := by decide +kernel
theorem d_NS_putAll_19 : decode b_NS_putAll 19 = .ok (.getfield 13, 3) := by decide +kernel
theorem d_NS_putAll_22 : decode b_NS_putAll 22 = .ok (.lor, 1) := by decide +kernel
theorem d_NS_putAll_23 : decode b_NS_putAll 23 = .ok (.putfield 13, 3) := by decide +kernel
theorem d_NS_putAll_26 : decode b_NS_putAll 26 = .ok (.return_, 1) := by decide +kernel
theorem d_Rows_addNeed_0 : decode b_Rows_addNeed 0 = .ok (.iconst 0, 1) := by decide +kernel
theorem d_Rows_addNeed_1 : decode b_Rows_addNeed 1 = .ok (.istore_n 3, 1) := by decide +kernel
theorem d_Rows_addNeed_2 : decode b_Rows_addNeed 2 = .ok (.iload_n 3, 1) := by decide +kernel
theorem d_Rows_addNeed_3 : decode b_Rows_addNeed 3 = .ok (.aload_n 0, 1) := by decide +kernel
theorem d_Rows_addNeed_4 : decode b_Rows_addNeed 4 = .ok (.getfield 16, 3) := by decide +kernel
theorem d_Rows_addNeed_7 : decode b_Rows_addNeed 7 = .ok (.invokevirtual 60, 3) := by decide +kernel
theorem d_Rows_addNeed_10 : decode b_Rows_addNeed 10 = .ok (.if_icmp .ge 67, 3) := by decide +kernel
theorem d_Rows_addNeed_13 : decode b_Rows_addNeed 13 = .ok (.aload_n 0, 1) := by decide +kernel
theorem d_Rows_addNeed_14 : decode b_Rows_addNeed 14 = .ok (.getfield 16, 3) := by decide +kernel
theorem d_Rows_addNeed_17 : decode b_Rows_addNeed 17 = .ok (.iload_n 3, 1) := by decide +kernel
theorem d_Rows_addNeed_18 : decode b_Rows_addNeed 18 = .ok (.invokevirtual 156, 3) := by decide +kernel
theorem d_Rows_addNeed_21 : decode b_Rows_addNeed 21 = .ok (.checkcast 86, 3) := by decide +kernel
theorem d_Rows_addNeed_24 : decode b_Rows_addNeed 24 = .ok (.astore 4, 2) := by decide +kernel
theorem d_Rows_addNeed_26 : decode b_Rows_addNeed 26 = .ok (.aload 4, 2) := by decide +kernel
theorem d_Rows_addNeed_28 : decode b_Rows_addNeed 28 = .ok (.aload_n 1, 1) := by decide +kernel
theorem d_Rows_addNeed_29 : decode b_Rows_addNeed 29 = .ok (.if_acmp .eq 18, 3) := by decide +kernel
theorem d_Rows_addNeed_32 : decode b_Rows_addNeed 32 = .ok (.aload 4, 2) := by decide +kernel
theorem d_Rows_addNeed_34 : decode b_Rows_addNeed 34 = .ok (.getfield 99, 3) := by decide +kernel
theorem d_Rows_addNeed_37 : decode b_Rows_addNeed 37 = .ok (.aload_n 1, 1) := by decide +kernel
theorem d_Rows_addNeed_38 : decode b_Rows_addNeed 38 = .ok (.getfield 136, 3) := by decide +kernel
theorem d_Rows_addNeed_41 : decode b_Rows_addNeed 41 = .ok (.invokevirtual 102, 3) := by decide +kernel
theorem d_Rows_addNeed_44 : decode b_Rows_addNeed 44 = .ok (.ifCond .eq 27, 3) := by decide +kernel
theorem d_Rows_addNeed_47 : decode b_Rows_addNeed 47 = .ok (.aload 4, 2) := by decide +kernel
theorem d_Rows_addNeed_49 : decode b_Rows_addNeed 49 = .ok (.getfield 99, 3) := by decide +kernel
theorem d_Rows_addNeed_52 : decode b_Rows_addNeed 52 = .ok (.aload_n 2, 1) := by decide +kernel
theorem d_Rows_addNeed_53 : decode b_Rows_addNeed 53 = .ok (.getfield 136, 3) := by decide +kernel
theorem d_Rows_addNeed_56 : decode b_Rows_addNeed 56 = .ok (.invokevirtual 183, 3) := by decide +kernel
theorem d_Rows_addNeed_59 : decode b_Rows_addNeed 59 = .ok (.aload 4, 2) := by decide +kernel
theorem d_Rows_addNeed_61 : decode b_Rows_addNeed 61 = .ok (.getfield 99, 3) := by decide +kernel
theorem d_Rows_addNeed_64 : decode b_Rows_addNeed 64 = .ok (.aload_n 2, 1) := by decide +kernel
theorem d_Rows_addNeed_65 : decode b_Rows_addNeed 65 = .ok (.getfield 99, 3) := by decide +kernel
theorem d_Rows_addNeed_68 : decode b_Rows_addNeed 68 = .ok (.invokevirtual 187, 3) := by decide +kernel
theorem d_Rows_addNeed_71 : decode b_Rows_addNeed 71 = .ok (.iinc 3 1, 3) := by decide +kernel
theorem d_Rows_addNeed_74 : decode b_Rows_addNeed 74 = .ok (.goto (-72), 3) := by decide +kernel
theorem d_Rows_addNeed_77 : decode b_Rows_addNeed 77 = .ok (.return_, 1) := by decide +kernel
theorem d_Rows_needs_0 : decode b_Rows_needs 0 = .ok (.aload_n 0, 1) := by decide +kernel
theorem d_Rows_needs_1 : decode b_Rows_needs 1 = .ok (.iload_n 1, 1) := by decide +kernel
theorem d_Rows_needs_2 : decode b_Rows_needs 2 = .ok (.invokevirtual 91, 3) := by decide +kernel
theorem d_Rows_needs_5 : decode b_Rows_needs 5 = .ok (.astore_n 3, 1) := by decide +kernel
theorem d_Rows_needs_6 : decode b_Rows_needs 6 = .ok (.aload_n 0, 1) := by decide +kernel
theorem d_Rows_needs_7 : decode b_Rows_needs 7 = .ok (.iload_n 2, 1) := by decide +kernel
theorem d_Rows_needs_8 : decode b_Rows_needs 8 = .ok (.invokevirtual 91, 3) := by decide +kernel
theorem d_Rows_needs_11 : decode b_Rows_needs 11 = .ok (.astore 4, 2) := by decide +kernel
theorem d_Rows_needs_13 : decode b_Rows_needs 13 = .ok (.aload_n 3, 1) := by decide +kernel
theorem d_Rows_needs_14 : decode b_Rows_needs 14 = .ok (.ifnull 8, 3) := by decide +kernel
theorem d_Rows_needs_17 : decode b_Rows_needs 17 = .ok (.aload 4, 2) := by decide +kernel
theorem d_Rows_needs_19 : decode b_Rows_needs 19 = .ok (.ifnonnull 6, 3) := by decide +kernel
theorem d_Rows_needs_22 : decode b_Rows_needs 22 = .ok (.bipush (-2), 2) := by decide +kernel
theorem d_Rows_needs_24 : decode b_Rows_needs 24 = .ok (.ireturn, 1) := by decide +kernel
theorem d_Rows_needs_25 : decode b_Rows_needs 25 = .ok (.aload_n 3, 1) := by decide +kernel
theorem d_Rows_needs_26 : decode b_Rows_needs 26 = .ok (.invokevirtual 95, 3) := by decide +kernel
theorem d_Rows_needs_29 : decode b_Rows_needs 29 = .ok (.ifCond .ne 6, 3) := by decide +kernel
theorem d_Rows_needs_32 : decode b_Rows_needs 32 = .ok (.bipush (-5), 2) := by decide +kernel
theorem d_Rows_needs_34 : decode b_Rows_needs 34 = .ok (.ireturn, 1) := by decide +kernel
theorem d_Rows_needs_35 : decode b_Rows_needs 35 = .ok (.iload_n 1, 1) := by decide +kernel
theorem d_Rows_needs_36 : decode b_Rows_needs 36 = .ok (.iload_n 2, 1) := by decide +kernel
theorem d_Rows_needs_37 : decode b_Rows_needs 37 = .ok (.if_icmp .eq 15, 3) := by decide +kernel
theorem d_Rows_needs_40 : decode b_Rows_needs 40 = .ok (.aload 4, 2) := by decide +kernel
theorem d_Rows_needs_42 : decode b_Rows_needs 42 = .ok (.getfield 99, 3) := by decide +kernel
theorem d_Rows_needs_45 : decode b_Rows_needs 45 = .ok (.iload_n 1, 1) := by decide +kernel
theorem d_Rows_needs_46 : decode b_Rows_needs 46 = .ok (.invokevirtual 102, 3) := by decide +kernel
theorem d_Rows_needs_49 : decode b_Rows_needs 49 = .ok (.ifCond .eq 5, 3) := by decide +kernel
theorem d_Rows_needs_52 : decode b_Rows_needs 52 = .ok (.iconst 0, 1) := by decide +kernel
theorem d_Rows_needs_53 : decode b_Rows_needs 53 = .ok (.ireturn, 1) := by decide +kernel
theorem d_Rows_needs_54 : decode b_Rows_needs 54 = .ok (.aload_n 0, 1) := by decide +kernel
theorem d_Rows_needs_55 : decode b_Rows_needs 55 = .ok (.aload_n 3, 1) := by decide +kernel
theorem d_Rows_needs_56 : decode b_Rows_needs 56 = .ok (.aload 4, 2) := by decide +kernel
theorem d_Rows_needs_58 : decode b_Rows_needs 58 = .ok (.invokevirtual 105, 3) := by decide +kernel
theorem d_Rows_needs_61 : decode b_Rows_needs 61 = .ok (.iconst 1, 1) := by decide +kernel
theorem d_Rows_needs_62 : decode b_Rows_needs 62 = .ok (.ireturn, 1) := by decide +kernel
theorem d_Rows_isKind_0 : decode b_Rows_isKind 0 = .ok (.iload_n 0, 1) := by decide +kernel
theorem d_Rows_isKind_1 : decode b_Rows_isKind 1 = .ok (.iconst 0, 1) := by decide +kernel
theorem d_Rows_isKind_2 : decode b_Rows_isKind 2 = .ok (.iconst 3, 1) := by decide +kernel
theorem d_Rows_isKind_3 : decode b_Rows_isKind 3 = .ok (.invokestatic 75, 3) := by decide +kernel
theorem d_Rows_isKind_6 : decode b_Rows_isKind 6 = .ok (.ireturn, 1) := by decide +kernel
theorem d_Rows_units_0 : decode b_Rows_units 0 = .ok (.iload_n 1, 1) := by decide +kernel
theorem d_Rows_units_1 : decode b_Rows_units 1 = .ok (.invokestatic 109, 3) := by decide +kernel
theorem d_Rows_units_4 : decode b_Rows_units 4 = .ok (.ifCond .eq 14, 3) := by decide +kernel
theorem d_Rows_units_7 : decode b_Rows_units 7 = .ok (.iload_n 2, 1) := by decide +kernel
theorem d_Rows_units_8 : decode b_Rows_units 8 = .ok (.iconst 0, 1) := by decide +kernel
theorem d_Rows_units_9 : decode b_Rows_units 9 = .ok (.sipush 1000, 3) := by decide +kernel
theorem d_Rows_units_12 : decode b_Rows_units 12 = .ok (.invokestatic 75, 3) := by decide +kernel
theorem d_Rows_units_15 : decode b_Rows_units 15 = .ok (.ifCond .ne 6, 3) := by decide +kernel
theorem d_Rows_units_18 : decode b_Rows_units 18 = .ok (.bipush (-4), 2) := by decide +kernel
theorem d_Rows_units_20 : decode b_Rows_units 20 = .ok (.ireturn, 1) := by decide +kernel
theorem d_Rows_units_21 : decode b_Rows_units 21 = .ok (.aload_n 0, 1) := by decide +kernel
theorem d_Rows_units_22 : decode b_Rows_units 22 = .ok (.getfield 32, 3) := by decide +kernel
theorem d_Rows_units_25 : decode b_Rows_units 25 = .ok (.iload_n 1, 1) := by decide +kernel
theorem d_Rows_units_26 : decode b_Rows_units 26 = .ok (.iload_n 2, 1) := by decide +kernel
theorem d_Rows_units_27 : decode b_Rows_units 27 = .ok (.iastore, 1) := by decide +kernel
theorem d_Rows_units_28 : decode b_Rows_units 28 = .ok (.iconst 1, 1) := by decide +kernel
theorem d_Rows_units_29 : decode b_Rows_units 29 = .ok (.ireturn, 1) := by decide +kernel
theorem d_Rows_uses_0 : decode b_Rows_uses 0 = .ok (.aload_n 0, 1) := by decide +kernel
theorem d_Rows_uses_1 : decode b_Rows_uses 1 = .ok (.iload_n 1, 1) := by decide +kernel
theorem d_Rows_uses_2 : decode b_Rows_uses 2 = .ok (.invokevirtual 91, 3) := by decide +kernel
theorem d_Rows_uses_5 : decode b_Rows_uses 5 = .ok (.astore 4, 2) := by decide +kernel
theorem d_Rows_uses_7 : decode b_Rows_uses 7 = .ok (.aload 4, 2) := by decide +kernel
theorem d_Rows_uses_9 : decode b_Rows_uses 9 = .ok (.ifnonnull 6, 3) := by decide +kernel
theorem d_Rows_uses_12 : decode b_Rows_uses 12 = .ok (.bipush (-2), 2) := by decide +kernel
theorem d_Rows_uses_14 : decode b_Rows_uses 14 = .ok (.ireturn, 1) := by decide +kernel
theorem d_Rows_uses_15 : decode b_Rows_uses 15 = .ok (.iload_n 2, 1) := by decide +kernel
theorem d_Rows_uses_16 : decode b_Rows_uses 16 = .ok (.invokestatic 109, 3) := by decide +kernel
theorem d_Rows_uses_19 : decode b_Rows_uses 19 = .ok (.ifCond .eq 14, 3) := by decide +kernel
theorem d_Rows_uses_22 : decode b_Rows_uses 22 = .ok (.iload_n 3, 1) := by decide +kernel
theorem d_Rows_uses_23 : decode b_Rows_uses 23 = .ok (.iconst 0, 1) := by decide +kernel
theorem d_Rows_uses_24 : decode b_Rows_uses 24 = .ok (.sipush 1000, 3) := by decide +kernel
theorem d_Rows_uses_27 : decode b_Rows_uses 27 = .ok (.invokestatic 75, 3) := by decide +kernel
theorem d_Rows_uses_30 : decode b_Rows_uses 30 = .ok (.ifCond .ne 6, 3) := by decide +kernel
theorem d_Rows_uses_33 : decode b_Rows_uses 33 = .ok (.bipush (-4), 2) := by decide +kernel
theorem d_Rows_uses_35 : decode b_Rows_uses 35 = .ok (.ireturn, 1) := by decide +kernel
theorem d_Rows_uses_36 : decode b_Rows_uses 36 = .ok (.aload 4, 2) := by decide +kernel
theorem d_Rows_uses_38 : decode b_Rows_uses 38 = .ok (.invokevirtual 95, 3) := by decide +kernel
theorem d_Rows_uses_41 : decode b_Rows_uses 41 = .ok (.ifCond .ne 6, 3) := by decide +kernel
theorem d_Rows_uses_44 : decode b_Rows_uses 44 = .ok (.bipush (-5), 2) := by decide +kernel
theorem d_Rows_uses_46 : decode b_Rows_uses 46 = .ok (.ireturn, 1) := by decide +kernel
theorem d_Rows_uses_47 : decode b_Rows_uses 47 = .ok (.aload 4, 2) := by decide +kernel
theorem d_Rows_uses_49 : decode b_Rows_uses 49 = .ok (.getfield 112, 3) := by decide +kernel
theorem d_Rows_uses_52 : decode b_Rows_uses 52 = .ok (.iload_n 2, 1) := by decide +kernel
theorem d_Rows_uses_53 : decode b_Rows_uses 53 = .ok (.iload_n 3, 1) := by decide +kernel
theorem d_Rows_uses_54 : decode b_Rows_uses 54 = .ok (.iastore, 1) := by decide +kernel
theorem d_Rows_uses_55 : decode b_Rows_uses 55 = .ok (.iconst 1, 1) := by decide +kernel
theorem d_Rows_uses_56 : decode b_Rows_uses 56 = .ok (.ireturn, 1) := by decide +kernel
theorem d_Rows_alone_0 : decode b_Rows_alone 0 = .ok (.aload_n 0, 1) := by decide +kernel
theorem d_Rows_alone_1 : decode b_Rows_alone 1 = .ok (.iload_n 1, 1) := by decide +kernel
theorem d_Rows_alone_2 : decode b_Rows_alone 2 = .ok (.invokevirtual 91, 3) := by decide +kernel
theorem d_Rows_alone_5 : decode b_Rows_alone 5 = .ok (.astore_n 2, 1) := by decide +kernel
theorem d_Rows_alone_6 : decode b_Rows_alone 6 = .ok (.aload_n 2, 1) := by decide +kernel
theorem d_Rows_alone_7 : decode b_Rows_alone 7 = .ok (.ifnonnull 6, 3) := by decide +kernel
theorem d_Rows_alone_10 : decode b_Rows_alone 10 = .ok (.bipush (-2), 2) := by decide +kernel
theorem d_Rows_alone_12 : decode b_Rows_alone 12 = .ok (.ireturn, 1) := by decide +kernel
theorem d_Rows_alone_13 : decode b_Rows_alone 13 = .ok (.aload_n 2, 1) := by decide +kernel
theorem d_Rows_alone_14 : decode b_Rows_alone 14 = .ok (.invokevirtual 95, 3) := by decide +kernel
theorem d_Rows_alone_17 : decode b_Rows_alone 17 = .ok (.ifCond .ne 6, 3) := by decide +kernel
theorem d_Rows_alone_20 : decode b_Rows_alone 20 = .ok (.bipush (-5), 2) := by decide +kernel
theorem d_Rows_alone_22 : decode b_Rows_alone 22 = .ok (.ireturn, 1) := by decide +kernel
theorem d_Rows_alone_23 : decode b_Rows_alone 23 = .ok (.aload_n 2, 1) := by decide +kernel
theorem d_Rows_alone_24 : decode b_Rows_alone 24 = .ok (.iconst 1, 1) := by decide +kernel
theorem d_Rows_alone_25 : decode b_Rows_alone 25 = .ok (.putfield 115, 3) := by decide +kernel
theorem d_Rows_alone_28 : decode b_Rows_alone 28 = .ok (.iconst 1, 1) := by decide +kernel
theorem d_Rows_alone_29 : decode b_Rows_alone 29 = .ok (.ireturn, 1) := by decide +kernel
theorem d_Rows_hold_0 : decode b_Rows_hold 0 = .ok (.aload_n 0, 1) := by decide +kernel
theorem d_Rows_hold_1 : decode b_Rows_hold 1 = .ok (.iload_n 1, 1) := by decide +kernel
theorem d_Rows_hold_2 : decode b_Rows_hold 2 = .ok (.invokevirtual 91, 3) := by decide +kernel
theorem d_Rows_hold_5 : decode b_Rows_hold 5 = .ok (.astore_n 3, 1) := by decide +kernel
theorem d_Rows_hold_6 : decode b_Rows_hold 6 = .ok (.aload_n 3, 1) := by decide +kernel
theorem d_Rows_hold_7 : decode b_Rows_hold 7 = .ok (.ifnonnull 6, 3) := by decide +kernel
theorem d_Rows_hold_10 : decode b_Rows_hold 10 = .ok (.bipush (-2), 2) := by decide +kernel
theorem d_Rows_hold_12 : decode b_Rows_hold 12 = .ok (.ireturn, 1) := by decide +kernel
theorem d_Rows_hold_13 : decode b_Rows_hold 13 = .ok (.aload_n 3, 1) := by decide +kernel
theorem d_Rows_hold_14 : decode b_Rows_hold 14 = .ok (.invokevirtual 95, 3) := by decide +kernel
theorem d_Rows_hold_17 : decode b_Rows_hold 17 = .ok (.ifCond .ne 6, 3) := by decide +kernel
theorem d_Rows_hold_20 : decode b_Rows_hold 20 = .ok (.bipush (-5), 2) := by decide +kernel
theorem d_Rows_hold_22 : decode b_Rows_hold 22 = .ok (.ireturn, 1) := by decide +kernel
theorem d_Rows_hold_23 : decode b_Rows_hold 23 = .ok (.iload_n 2, 1) := by decide +kernel
theorem d_Rows_hold_24 : decode b_Rows_hold 24 = .ok (.ifCond .eq 7, 3) := by decide +kernel
theorem d_Rows_hold_27 : decode b_Rows_hold 27 = .ok (.iconst 1, 1) := by decide +kernel
theorem d_Rows_hold_28 : decode b_Rows_hold 28 = .ok (.goto 4, 3) := by decide +kernel
theorem d_Rows_hold_31 : decode b_Rows_hold 31 = .ok (.iconst 0, 1) := by decide +kernel
theorem d_Rows_hold_32 : decode b_Rows_hold 32 = .ok (.istore 4, 2) := by decide +kernel
theorem d_Rows_hold_34 : decode b_Rows_hold 34 = .ok (.aload_n 3, 1) := by decide +kernel
theorem d_Rows_hold_35 : decode b_Rows_hold 35 = .ok (.getfield 119, 3) := by decide +kernel
theorem d_Rows_hold_38 : decode b_Rows_hold 38 = .ok (.iload 4, 2) := by decide +kernel
theorem d_Rows_hold_40 : decode b_Rows_hold 40 = .ok (.if_icmp .ne 5, 3) := by decide +kernel
theorem d_Rows_hold_43 : decode b_Rows_hold 43 = .ok (.iconst 0, 1) := by decide +kernel
theorem d_Rows_hold_44 : decode b_Rows_hold 44 = .ok (.ireturn, 1) := by decide +kernel
theorem d_Rows_hold_45 : decode b_Rows_hold 45 = .ok (.aload_n 3, 1) := by decide +kernel
theorem d_Rows_hold_46 : decode b_Rows_hold 46 = .ok (.iload 4, 2) := by decide +kernel
theorem d_Rows_hold_48 : decode b_Rows_hold 48 = .ok (.putfield 119, 3) := by decide +kernel
theorem d_Rows_hold_51 : decode b_Rows_hold 51 = .ok (.iconst 1, 1) := by decide +kernel
theorem d_Rows_hold_52 : decode b_Rows_hold 52 = .ok (.ireturn, 1) := by decide +kernel
theorem d_Rows_isWindowOpen_0 : decode b_Rows_isWindowOpen 0 = .ok (.aload_n 0, 1) := by decide +kernel
theorem d_Rows_isWindowOpen_1 : decode b_Rows_isWindowOpen 1 = .ok (.getfield 49, 3) := by decide +kernel
theorem d_Rows_isWindowOpen_4 : decode b_Rows_isWindowOpen 4 = .ok (.ldc2_w 223, 3) := by decide +kernel
theorem d_Rows_isWindowOpen_7 : decode b_Rows_isWindowOpen 7 = .ok (.lrem, 1) := by decide +kernel
theorem d_Rows_isWindowOpen_8 : decode b_Rows_isWindowOpen 8 = .ok (.l2i, 1) := by decide +kernel
theorem d_Rows_isWindowOpen_9 : decode b_Rows_isWindowOpen 9 = .ok (.istore_n 2, 1) := by decide +kernel
theorem d_Rows_isWindowOpen_10 : decode b_Rows_isWindowOpen 10 = .ok (.aload_n 0, 1) := by decide +kernel
theorem d_Rows_isWindowOpen_11 : decode b_Rows_isWindowOpen 11 = .ok (.getfield 23, 3) := by decide +kernel
theorem d_Rows_isWindowOpen_14 : decode b_Rows_isWindowOpen 14 = .ok (.iload_n 1, 1) := by decide +kernel
theorem d_Rows_isWindowOpen_15 : decode b_Rows_isWindowOpen 15 = .ok (.iaload, 1) := by decide +kernel
theorem d_Rows_isWindowOpen_16 : decode b_Rows_isWindowOpen 16 = .ok (.istore_n 3, 1) := by decide +kernel
theorem d_Rows_isWindowOpen_17 : decode b_Rows_isWindowOpen 17 = .ok (.aload_n 0, 1) := by decide +kernel
theorem d_Rows_isWindowOpen_18 : decode b_Rows_isWindowOpen 18 = .ok (.getfield 26, 3) := by decide +kernel
theorem d_Rows_isWindowOpen_21 : decode b_Rows_isWindowOpen 21 = .ok (.iload_n 1, 1) := by decide +kernel
theorem d_Rows_isWindowOpen_22 : decode b_Rows_isWindowOpen 22 = .ok (.iaload, 1) := by decide +kernel
theorem d_Rows_isWindowOpen_23 : decode b_Rows_isWindowOpen 23 = .ok (.istore 4, 2) := by decide +kernel
theorem d_Rows_isWindowOpen_25 : decode b_Rows_isWindowOpen 25 = .ok (.iload_n 3, 1) := by decide +kernel
theorem d_Rows_isWindowOpen_26 : decode b_Rows_isWindowOpen 26 = .ok (.iload 4, 2) := by decide +kernel
theorem d_Rows_isWindowOpen_28 : decode b_Rows_isWindowOpen 28 = .ok (.if_icmp .ne 5, 3) := by decide +kernel
theorem d_Rows_isWindowOpen_31 : decode b_Rows_isWindowOpen 31 = .ok (.iconst 1, 1) := by decide +kernel
theorem d_Rows_isWindowOpen_32 : decode b_Rows_isWindowOpen 32 = .ok (.ireturn, 1) := by decide +kernel
theorem d_Rows_isWindowOpen_33 : decode b_Rows_isWindowOpen 33 = .ok (.iload_n 3, 1) := by decide +kernel
theorem d_Rows_isWindowOpen_34 : decode b_Rows_isWindowOpen 34 = .ok (.iload 4, 2) := by decide +kernel
theorem d_Rows_isWindowOpen_36 : decode b_Rows_isWindowOpen 36 = .ok (.if_icmp .ge 22, 3) := by decide +kernel
theorem d_Rows_isWindowOpen_39 : decode b_Rows_isWindowOpen 39 = .ok (.iload_n 2, 1) := by decide +kernel
theorem d_Rows_isWindowOpen_40 : decode b_Rows_isWindowOpen 40 = .ok (.iload_n 3, 1) := by decide +kernel
theorem d_Rows_isWindowOpen_41 : decode b_Rows_isWindowOpen 41 = .ok (.if_icmp .lt 13, 3) := by decide +kernel
theorem d_Rows_isWindowOpen_44 : decode b_Rows_isWindowOpen 44 = .ok (.iload_n 2, 1) := by decide +kernel
theorem d_Rows_isWindowOpen_45 : decode b_Rows_isWindowOpen 45 = .ok (.iload 4, 2) := by decide +kernel
theorem d_Rows_isWindowOpen_47 : decode b_Rows_isWindowOpen 47 = .ok (.if_icmp .ge 7, 3) := by decide +kernel
theorem d_Rows_isWindowOpen_50 : decode b_Rows_isWindowOpen 50 = .ok (.iconst 1, 1) := by decide +kernel
theorem d_Rows_isWindowOpen_51 : decode b_Rows_isWindowOpen 51 = .ok (.goto 23, 3) := by decide +kernel
theorem d_Rows_isWindowOpen_54 : decode b_Rows_isWindowOpen 54 = .ok (.iconst 0, 1) := by decide +kernel
theorem d_Rows_isWindowOpen_55 : decode b_Rows_isWindowOpen 55 = .ok (.goto 19, 3) := by decide +kernel
theorem d_Rows_isWindowOpen_58 : decode b_Rows_isWindowOpen 58 = .ok (.iload_n 2, 1) := by decide +kernel
theorem d_Rows_isWindowOpen_59 : decode b_Rows_isWindowOpen 59 = .ok (.iload_n 3, 1) := by decide +kernel
theorem d_Rows_isWindowOpen_60 : decode b_Rows_isWindowOpen 60 = .ok (.if_icmp .ge 9, 3) := by decide +kernel
theorem d_Rows_isWindowOpen_63 : decode b_Rows_isWindowOpen 63 = .ok (.iload_n 2, 1) := by decide +kernel
theorem d_Rows_isWindowOpen_64 : decode b_Rows_isWindowOpen 64 = .ok (.iload 4, 2) := by decide +kernel
theorem d_Rows_isWindowOpen_66 : decode b_Rows_isWindowOpen 66 = .ok (.if_icmp .ge 7, 3) := by decide +kernel
