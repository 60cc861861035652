theorem d_Rows_isWindowOpen_69 : decode b_Rows_isWindowOpen 69 = .ok (.iconst 1, 1) := by decide +kernel
theorem d_Rows_isWindowOpen_70 : decode b_Rows_isWindowOpen 70 = .ok (.goto 4, 3) := by decide +kernel
theorem d_Rows_isWindowOpen_73 : decode b_Rows_isWindowOpen 73 = .ok (.iconst 0, 1) := by decide +kernel
theorem d_Rows_isWindowOpen_74 : decode b_Rows_isWindowOpen 74 = .ok (.ireturn, 1) := by decide +kernel
theorem d_NS_isWithin_0 : decode b_NS_isWithin 0 = .ok (.aload_n 0, 1) := by decide +kernel
theorem d_NS_isWithin_1 : decode b_NS_isWithin 1 = .ok (.getfield 7, 3) := by decide +kernel
theorem d_NS_isWithin_4 : decode b_NS_isWithin 4 = .ok (.aload_n 1, 1) := by decide +kernel
theorem d_NS_isWithin_5 : decode b_NS_isWithin 5 = .ok (.getfield 7, 3) := by decide +kernel
theorem d_NS_isWithin_8 : decode b_NS_isWithin 8 = .ok (.ldc2_w 16, 3) := by decide +kernel
theorem d_NS_isWithin_11 : decode b_NS_isWithin 11 = .ok (.lxor, 1) := by decide +kernel
theorem d_NS_isWithin_12 : decode b_NS_isWithin 12 = .ok (.land, 1) := by decide +kernel
theorem d_NS_isWithin_13 : decode b_NS_isWithin 13 = .ok (.lconst 0, 1) := by decide +kernel
theorem d_NS_isWithin_14 : decode b_NS_isWithin 14 = .ok (.lcmp, 1) := by decide +kernel
theorem d_NS_isWithin_15 : decode b_NS_isWithin 15 = .ok (.ifCond .ne 25, 3) := by decide +kernel
theorem d_NS_isWithin_18 : decode b_NS_isWithin 18 = .ok (.aload_n 0, 1) := by decide +kernel
theorem d_NS_isWithin_19 : decode b_NS_isWithin 19 = .ok (.getfield 13, 3) := by decide +kernel
theorem d_NS_isWithin_22 : decode b_NS_isWithin 22 = .ok (.aload_n 1, 1) := by decide +kernel
theorem d_NS_isWithin_23 : decode b_NS_isWithin 23 = .ok (.getfield 13, 3) := by decide +kernel
theorem d_NS_isWithin_26 : decode b_NS_isWithin 26 = .ok (.ldc2_w 16, 3) := by decide +kernel
theorem d_NS_isWithin_29 : decode b_NS_isWithin 29 = .ok (.lxor, 1) := by decide +kernel
theorem d_NS_isWithin_30 : decode b_NS_isWithin 30 = .ok (.land, 1) := by decide +kernel
theorem d_NS_isWithin_31 : decode b_NS_isWithin 31 = .ok (.lconst 0, 1) := by decide +kernel
theorem d_NS_isWithin_32 : decode b_NS_isWithin 32 = .ok (.lcmp, 1) := by decide +kernel
theorem d_NS_isWithin_33 : decode b_NS_isWithin 33 = .ok (.ifCond .ne 7, 3) := by decide +kernel
theorem d_NS_isWithin_36 : decode b_NS_isWithin 36 = .ok (.iconst 1, 1) := by decide +kernel
theorem d_NS_isWithin_37 : decode b_NS_isWithin 37 = .ok (.goto 4, 3) := by decide +kernel
theorem d_NS_isWithin_40 : decode b_NS_isWithin 40 = .ok (.iconst 0, 1) := by decide +kernel
theorem d_NS_isWithin_41 : decode b_NS_isWithin 41 = .ok (.ireturn, 1) := by decide +kernel
theorem d_Rows_areUnitsEnough_0 : decode b_Rows_areUnitsEnough 0 = .ok (.iconst 0, 1) := by decide +kernel
theorem d_Rows_areUnitsEnough_1 : decode b_Rows_areUnitsEnough 1 = .ok (.istore_n 2, 1) := by decide +kernel
theorem d_Rows_areUnitsEnough_2 : decode b_Rows_areUnitsEnough 2 = .ok (.iload_n 2, 1) := by decide +kernel
theorem d_Rows_areUnitsEnough_3 : decode b_Rows_areUnitsEnough 3 = .ok (.iconst 4, 1) := by decide +kernel
theorem d_Rows_areUnitsEnough_4 : decode b_Rows_areUnitsEnough 4 = .ok (.if_icmp .ge 36, 3) := by decide +kernel
theorem d_Rows_areUnitsEnough_7 : decode b_Rows_areUnitsEnough 7 = .ok (.aload_n 1, 1) := by decide +kernel
theorem d_Rows_areUnitsEnough_8 : decode b_Rows_areUnitsEnough 8 = .ok (.getfield 112, 3) := by decide +kernel
theorem d_Rows_areUnitsEnough_11 : decode b_Rows_areUnitsEnough 11 = .ok (.iload_n 2, 1) := by decide +kernel
theorem d_Rows_areUnitsEnough_12 : decode b_Rows_areUnitsEnough 12 = .ok (.iaload, 1) := by decide +kernel
theorem d_Rows_areUnitsEnough_13 : decode b_Rows_areUnitsEnough 13 = .ok (.aload_n 0, 1) := by decide +kernel
theorem d_Rows_areUnitsEnough_14 : decode b_Rows_areUnitsEnough 14 = .ok (.getfield 38, 3) := by decide +kernel
theorem d_Rows_areUnitsEnough_17 : decode b_Rows_areUnitsEnough 17 = .ok (.getfield 225, 3) := by decide +kernel
theorem d_Rows_areUnitsEnough_20 : decode b_Rows_areUnitsEnough 20 = .ok (.iload_n 2, 1) := by decide +kernel
theorem d_Rows_areUnitsEnough_21 : decode b_Rows_areUnitsEnough 21 = .ok (.iaload, 1) := by decide +kernel
theorem d_Rows_areUnitsEnough_22 : decode b_Rows_areUnitsEnough 22 = .ok (.iadd, 1) := by decide +kernel
theorem d_Rows_areUnitsEnough_23 : decode b_Rows_areUnitsEnough 23 = .ok (.aload_n 0, 1) := by decide +kernel
theorem d_Rows_areUnitsEnough_24 : decode b_Rows_areUnitsEnough 24 = .ok (.getfield 32, 3) := by decide +kernel
theorem d_Rows_areUnitsEnough_27 : decode b_Rows_areUnitsEnough 27 = .ok (.iload_n 2, 1) := by decide +kernel
theorem d_Rows_areUnitsEnough_28 : decode b_Rows_areUnitsEnough 28 = .ok (.iaload, 1) := by decide +kernel
theorem d_Rows_areUnitsEnough_29 : decode b_Rows_areUnitsEnough 29 = .ok (.if_icmp .le 5, 3) := by decide +kernel
theorem d_Rows_areUnitsEnough_32 : decode b_Rows_areUnitsEnough 32 = .ok (.iconst 0, 1) := by decide +kernel
theorem d_Rows_areUnitsEnough_33 : decode b_Rows_areUnitsEnough 33 = .ok (.ireturn, 1) := by decide +kernel
theorem d_Rows_areUnitsEnough_34 : decode b_Rows_areUnitsEnough 34 = .ok (.iinc 2 1, 3) := by decide +kernel
theorem d_Rows_areUnitsEnough_37 : decode b_Rows_areUnitsEnough 37 = .ok (.goto (-35), 3) := by decide +kernel
theorem d_Rows_areUnitsEnough_40 : decode b_Rows_areUnitsEnough 40 = .ok (.iconst 1, 1) := by decide +kernel
theorem d_Rows_areUnitsEnough_41 : decode b_Rows_areUnitsEnough 41 = .ok (.ireturn, 1) := by decide +kernel
theorem d_Rows_mayStart_0 : decode b_Rows_mayStart 0 = .ok (.aload_n 1, 1) := by decide +kernel
theorem d_Rows_mayStart_1 : decode b_Rows_mayStart 1 = .ok (.getfield 119, 3) := by decide +kernel
theorem d_Rows_mayStart_4 : decode b_Rows_mayStart 4 = .ok (.ifCond .ne 108, 3) := by decide +kernel
theorem d_Rows_mayStart_7 : decode b_Rows_mayStart 7 = .ok (.aload_n 0, 1) := by decide +kernel
theorem d_Rows_mayStart_8 : decode b_Rows_mayStart 8 = .ok (.getfield 38, 3) := by decide +kernel
theorem d_Rows_mayStart_11 : decode b_Rows_mayStart 11 = .ok (.getfield 201, 3) := by decide +kernel
theorem d_Rows_mayStart_14 : decode b_Rows_mayStart 14 = .ok (.aload_n 1, 1) := by decide +kernel
theorem d_Rows_mayStart_15 : decode b_Rows_mayStart 15 = .ok (.getfield 194, 3) := by decide +kernel
theorem d_Rows_mayStart_18 : decode b_Rows_mayStart 18 = .ok (.iaload, 1) := by decide +kernel
theorem d_Rows_mayStart_19 : decode b_Rows_mayStart 19 = .ok (.aload_n 0, 1) := by decide +kernel
theorem d_Rows_mayStart_20 : decode b_Rows_mayStart 20 = .ok (.getfield 19, 3) := by decide +kernel
theorem d_Rows_mayStart_23 : decode b_Rows_mayStart 23 = .ok (.aload_n 1, 1) := by decide +kernel
theorem d_Rows_mayStart_24 : decode b_Rows_mayStart 24 = .ok (.getfield 194, 3) := by decide +kernel
theorem d_Rows_mayStart_27 : decode b_Rows_mayStart 27 = .ok (.iaload, 1) := by decide +kernel
theorem d_Rows_mayStart_28 : decode b_Rows_mayStart 28 = .ok (.if_icmp .ge 84, 3) := by decide +kernel
theorem d_Rows_mayStart_31 : decode b_Rows_mayStart 31 = .ok (.aload_n 0, 1) := by decide +kernel
theorem d_Rows_mayStart_32 : decode b_Rows_mayStart 32 = .ok (.aload_n 1, 1) := by decide +kernel
theorem d_Rows_mayStart_33 : decode b_Rows_mayStart 33 = .ok (.getfield 194, 3) := by decide +kernel
theorem d_Rows_mayStart_36 : decode b_Rows_mayStart 36 = .ok (.invokevirtual 204, 3) := by decide +kernel
theorem d_Rows_mayStart_39 : decode b_Rows_mayStart 39 = .ok (.ifCond .eq 73, 3) := by decide +kernel
theorem d_Rows_mayStart_42 : decode b_Rows_mayStart 42 = .ok (.aload_n 0, 1) := by decide +kernel
theorem d_Rows_mayStart_43 : decode b_Rows_mayStart 43 = .ok (.getfield 38, 3) := by decide +kernel
theorem d_Rows_mayStart_46 : decode b_Rows_mayStart 46 = .ok (.getfield 207, 3) := by decide +kernel
theorem d_Rows_mayStart_49 : decode b_Rows_mayStart 49 = .ok (.aload_n 1, 1) := by decide +kernel
theorem d_Rows_mayStart_50 : decode b_Rows_mayStart 50 = .ok (.getfield 210, 3) := by decide +kernel
theorem d_Rows_mayStart_53 : decode b_Rows_mayStart 53 = .ok (.invokevirtual 102, 3) := by decide +kernel
theorem d_Rows_mayStart_56 : decode b_Rows_mayStart 56 = .ok (.ifCond .ne 56, 3) := by decide +kernel
theorem d_Rows_mayStart_59 : decode b_Rows_mayStart 59 = .ok (.aload_n 1, 1) := by decide +kernel
theorem d_Rows_mayStart_60 : decode b_Rows_mayStart 60 = .ok (.getfield 99, 3) := by decide +kernel
theorem d_Rows_mayStart_63 : decode b_Rows_mayStart 63 = .ok (.aload_n 0, 1) := by decide +kernel
theorem d_Rows_mayStart_64 : decode b_Rows_mayStart 64 = .ok (.getfield 45, 3) := by decide +kernel
theorem d_Rows_mayStart_67 : decode b_Rows_mayStart 67 = .ok (.invokevirtual 213, 3) := by decide +kernel
theorem d_Rows_mayStart_70 : decode b_Rows_mayStart 70 = .ok (.ifCond .eq 42, 3) := by decide +kernel
theorem d_Rows_mayStart_73 : decode b_Rows_mayStart 73 = .ok (.aload_n 0, 1) := by decide +kernel
theorem d_Rows_mayStart_74 : decode b_Rows_mayStart 74 = .ok (.aload_n 1, 1) := by decide +kernel
theorem d_Rows_mayStart_75 : decode b_Rows_mayStart 75 = .ok (.invokevirtual 217, 3) := by decide +kernel
theorem d_Rows_mayStart_78 : decode b_Rows_mayStart 78 = .ok (.ifCond .eq 34, 3) := by decide +kernel
theorem d_Rows_mayStart_81 : decode b_Rows_mayStart 81 = .ok (.aload_n 0, 1) := by decide +kernel
theorem d_Rows_mayStart_82 : decode b_Rows_mayStart 82 = .ok (.getfield 38, 3) := by decide +kernel
theorem d_Rows_mayStart_85 : decode b_Rows_mayStart 85 = .ok (.getfield 220, 3) := by decide +kernel
theorem d_Rows_mayStart_88 : decode b_Rows_mayStart 88 = .ok (.ifCond .ne 24, 3) := by decide +kernel
theorem d_Rows_mayStart_91 : decode b_Rows_mayStart 91 = .ok (.aload_n 1, 1) := by decide +kernel
theorem d_Rows_mayStart_92 : decode b_Rows_mayStart 92 = .ok (.getfield 115, 3) := by decide +kernel
theorem d_Rows_mayStart_95 : decode b_Rows_mayStart 95 = .ok (.ifCond .eq 13, 3) := by decide +kernel
theorem d_Rows_mayStart_98 : decode b_Rows_mayStart 98 = .ok (.aload_n 0, 1) := by decide +kernel
theorem d_Rows_mayStart_99 : decode b_Rows_mayStart 99 = .ok (.getfield 38, 3) := by decide +kernel
theorem d_Rows_mayStart_102 : decode b_Rows_mayStart 102 = .ok (.getfield 174, 3) := by decide +kernel
theorem d_Rows_mayStart_105 : decode b_Rows_mayStart 105 = .ok (.ifCond .gt 7, 3) := by decide +kernel
theorem d_Rows_mayStart_108 : decode b_Rows_mayStart 108 = .ok (.iconst 1, 1) := by decide +kernel
theorem d_Rows_mayStart_109 : decode b_Rows_mayStart 109 = .ok (.goto 4, 3) := by decide +kernel
theorem d_Rows_mayStart_112 : decode b_Rows_mayStart 112 = .ok (.iconst 0, 1) := by decide +kernel
theorem d_Rows_mayStart_113 : decode b_Rows_mayStart 113 = .ok (.ireturn, 1) := by decide +kernel
theorem d_Rows_priorityNow_0 : decode b_Rows_priorityNow 0 = .ok (.aload_n 0, 1) := by decide +kernel
theorem d_Rows_priorityNow_1 : decode b_Rows_priorityNow 1 = .ok (.getfield 56, 3) := by decide +kernel
theorem d_Rows_priorityNow_4 : decode b_Rows_priorityNow 4 = .ok (.aload_n 1, 1) := by decide +kernel
theorem d_Rows_priorityNow_5 : decode b_Rows_priorityNow 5 = .ok (.getfield 226, 3) := by decide +kernel
theorem d_Rows_priorityNow_8 : decode b_Rows_priorityNow 8 = .ok (.isub, 1) := by decide +kernel
theorem d_Rows_priorityNow_9 : decode b_Rows_priorityNow 9 = .ok (.istore_n 2, 1) := by decide +kernel
theorem d_Rows_priorityNow_10 : decode b_Rows_priorityNow 10 = .ok (.aload_n 0, 1) := by decide +kernel
theorem d_Rows_priorityNow_11 : decode b_Rows_priorityNow 11 = .ok (.getfield 53, 3) := by decide +kernel
theorem d_Rows_priorityNow_14 : decode b_Rows_priorityNow 14 = .ok (.lconst 0, 1) := by decide +kernel
theorem d_Rows_priorityNow_15 : decode b_Rows_priorityNow 15 = .ok (.lcmp, 1) := by decide +kernel
theorem d_Rows_priorityNow_16 : decode b_Rows_priorityNow 16 = .ok (.ifCond .le 7, 3) := by decide +kernel
theorem d_Rows_priorityNow_19 : decode b_Rows_priorityNow 19 = .ok (.iload_n 2, 1) := by decide +kernel
theorem d_Rows_priorityNow_20 : decode b_Rows_priorityNow 20 = .ok (.ifCond .gt 8, 3) := by decide +kernel
theorem d_Rows_priorityNow_23 : decode b_Rows_priorityNow 23 = .ok (.aload_n 1, 1) := by decide +kernel
theorem d_Rows_priorityNow_24 : decode b_Rows_priorityNow 24 = .ok (.getfield 226, 3) := by decide +kernel
theorem d_Rows_priorityNow_27 : decode b_Rows_priorityNow 27 = .ok (.ireturn, 1) := by decide +kernel
theorem d_Rows_priorityNow_28 : decode b_Rows_priorityNow 28 = .ok (.aload_n 0, 1) := by decide +kernel
theorem d_Rows_priorityNow_29 : decode b_Rows_priorityNow 29 = .ok (.getfield 49, 3) := by decide +kernel
theorem d_Rows_priorityNow_32 : decode b_Rows_priorityNow 32 = .ok (.aload_n 1, 1) := by decide +kernel
theorem d_Rows_priorityNow_33 : decode b_Rows_priorityNow 33 = .ok (.getfield 167, 3) := by decide +kernel
theorem d_Rows_priorityNow_36 : decode b_Rows_priorityNow 36 = .ok (.lsub, 1) := by decide +kernel
theorem d_Rows_priorityNow_37 : decode b_Rows_priorityNow 37 = .ok (.aload_n 0, 1) := by decide +kernel
theorem d_Rows_priorityNow_38 : decode b_Rows_priorityNow 38 = .ok (.getfield 53, 3) := by decide +kernel
theorem d_Rows_priorityNow_41 : decode b_Rows_priorityNow 41 = .ok (.ldiv, 1) := by decide +kernel
theorem d_Rows_priorityNow_42 : decode b_Rows_priorityNow 42 = .ok (.lstore_n 3, 1) := by decide +kernel
theorem d_Rows_priorityNow_43 : decode b_Rows_priorityNow 43 = .ok (.aload_n 1, 1) := by decide +kernel
theorem d_Rows_priorityNow_44 : decode b_Rows_priorityNow 44 = .ok (.getfield 226, 3) := by decide +kernel
theorem d_Rows_priorityNow_47 : decode b_Rows_priorityNow 47 = .ok (.lload_n 3, 1) := by decide +kernel
theorem d_Rows_priorityNow_48 : decode b_Rows_priorityNow 48 = .ok (.iload_n 2, 1) := by decide +kernel
theorem d_Rows_priorityNow_49 : decode b_Rows_priorityNow 49 = .ok (.i2l, 1) := by decide +kernel
theorem d_Rows_priorityNow_50 : decode b_Rows_priorityNow 50 = .ok (.invokestatic 229, 3) := by decide +kernel
theorem d_Rows_priorityNow_53 : decode b_Rows_priorityNow 53 = .ok (.l2i, 1) := by decide +kernel
theorem d_Rows_priorityNow_54 : decode b_Rows_priorityNow 54 = .ok (.iadd, 1) := by decide +kernel
theorem d_Rows_priorityNow_55 : decode b_Rows_priorityNow 55 = .ok (.ireturn, 1) := by decide +kernel
theorem d_Rows_nextOfClass_0 : decode b_Rows_nextOfClass 0 = .ok (.aconst_null, 1) := by decide +kernel
theorem d_Rows_nextOfClass_1 : decode b_Rows_nextOfClass 1 = .ok (.astore_n 2, 1) := by decide +kernel
theorem d_Rows_nextOfClass_2 : decode b_Rows_nextOfClass 2 = .ok (.iconst 0, 1) := by decide +kernel
theorem d_Rows_nextOfClass_3 : decode b_Rows_nextOfClass 3 = .ok (.istore_n 3, 1) := by decide +kernel
theorem d_Rows_nextOfClass_4 : decode b_Rows_nextOfClass 4 = .ok (.iload_n 3, 1) := by decide +kernel
theorem d_Rows_nextOfClass_5 : decode b_Rows_nextOfClass 5 = .ok (.aload_n 0, 1) := by decide +kernel
theorem d_Rows_nextOfClass_6 : decode b_Rows_nextOfClass 6 = .ok (.getfield 16, 3) := by decide +kernel
theorem d_Rows_nextOfClass_9 : decode b_Rows_nextOfClass 9 = .ok (.invokevirtual 60, 3) := by decide +kernel
theorem d_Rows_nextOfClass_12 : decode b_Rows_nextOfClass 12 = .ok (.if_icmp .ge 61, 3) := by decide +kernel
theorem d_Rows_nextOfClass_15 : decode b_Rows_nextOfClass 15 = .ok (.aload_n 0, 1) := by decide +kernel
theorem d_Rows_nextOfClass_16 : decode b_Rows_nextOfClass 16 = .ok (.getfield 16, 3) := by decide +kernel
theorem d_Rows_nextOfClass_19 : decode b_Rows_nextOfClass 19 = .ok (.iload_n 3, 1) := by decide +kernel
theorem d_Rows_nextOfClass_20 : decode b_Rows_nextOfClass 20 = .ok (.invokevirtual 156, 3) := by decide +kernel
theorem d_Rows_nextOfClass_23 : decode b_Rows_nextOfClass 23 = .ok (.checkcast 86, 3) := by decide +kernel
theorem d_Rows_nextOfClass_26 : decode b_Rows_nextOfClass 26 = .ok (.astore 4, 2) := by decide +kernel
theorem d_Rows_nextOfClass_28 : decode b_Rows_nextOfClass 28 = .ok (.aload 4, 2) := by decide +kernel
theorem d_Rows_nextOfClass_30 : decode b_Rows_nextOfClass 30 = .ok (.getfield 194, 3) := by decide +kernel
theorem d_Rows_nextOfClass_33 : decode b_Rows_nextOfClass 33 = .ok (.iload_n 1, 1) := by decide +kernel
theorem d_Rows_nextOfClass_34 : decode b_Rows_nextOfClass 34 = .ok (.if_icmp .ne 33, 3) := by decide +kernel
theorem d_Rows_nextOfClass_37 : decode b_Rows_nextOfClass 37 = .ok (.aload_n 0, 1) := by decide +kernel
theorem d_Rows_nextOfClass_38 : decode b_Rows_nextOfClass 38 = .ok (.aload 4, 2) := by decide +kernel
theorem d_Rows_nextOfClass_40 : decode b_Rows_nextOfClass 40 = .ok (.invokevirtual 197, 3) := by decide +kernel
theorem d_Rows_nextOfClass_43 : decode b_Rows_nextOfClass 43 = .ok (.ifCond .eq 24, 3) := by decide +kernel
theorem d_Rows_nextOfClass_46 : decode b_Rows_nextOfClass 46 = .ok (.aload_n 2, 1) := by decide +kernel
theorem d_Rows_nextOfClass_47 : decode b_Rows_nextOfClass 47 = .ok (.ifnull 17, 3) := by decide +kernel
theorem d_Rows_nextOfClass_50 : decode b_Rows_nextOfClass 50 = .ok (.aload_n 0, 1) := by decide +kernel
theorem d_Rows_nextOfClass_51 : decode b_Rows_nextOfClass 51 = .ok (.aload 4, 2) := by decide +kernel
theorem d_Rows_nextOfClass_53 : decode b_Rows_nextOfClass 53 = .ok (.invokevirtual 160, 3) := by decide +kernel
theorem d_Rows_nextOfClass_56 : decode b_Rows_nextOfClass 56 = .ok (.aload_n 0, 1) := by decide +kernel
theorem d_Rows_nextOfClass_57 : decode b_Rows_nextOfClass 57 = .ok (.aload_n 2, 1) := by decide +kernel
theorem d_Rows_nextOfClass_58 : decode b_Rows_nextOfClass 58 = .ok (.invokevirtual 160, 3) := by decide +kernel
theorem d_Rows_nextOfClass_61 : decode b_Rows_nextOfClass 61 = .ok (.if_icmp .le 6, 3) := by decide +kernel
theorem d_Rows_nextOfClass_64 : decode b_Rows_nextOfClass 64 = .ok (.aload 4, 2) := by decide +kernel
theorem d_Rows_nextOfClass_66 : decode b_Rows_nextOfClass 66 = .ok (.astore_n 2, 1) := by decide +kernel
theorem d_Rows_nextOfClass_67 : decode b_Rows_nextOfClass 67 = .ok (.iinc 3 1, 3) := by decide +kernel
theorem d_Rows_nextOfClass_70 : decode b_Rows_nextOfClass 70 = .ok (.goto (-66), 3) := by decide +kernel
theorem d_Rows_nextOfClass_73 : decode b_Rows_nextOfClass 73 = .ok (.aload_n 2, 1) := by decide +kernel
theorem d_Rows_nextOfClass_74 : decode b_Rows_nextOfClass 74 = .ok (.areturn, 1) := by decide +kernel
theorem d_Rows_nextFor_0 : decode b_Rows_nextFor 0 = .ok (.iconst 0, 1) := by decide +kernel
theorem d_Rows_nextFor_1 : decode b_Rows_nextFor 1 = .ok (.istore_n 2, 1) := by decide +kernel
theorem d_Rows_nextFor_2 : decode b_Rows_nextFor 2 = .ok (.iload_n 2, 1) := by decide +kernel
theorem d_Rows_nextFor_3 : decode b_Rows_nextFor 3 = .ok (.aload_n 1, 1) := by decide +kernel
theorem d_Rows_nextFor_4 : decode b_Rows_nextFor 4 = .ok (.getfield 83, 3) := by decide +kernel
theorem d_Rows_nextFor_7 : decode b_Rows_nextFor 7 = .ok (.arraylength, 1) := by decide +kernel
theorem d_Rows_nextFor_8 : decode b_Rows_nextFor 8 = .ok (.if_icmp .ge 40, 3) := by decide +kernel
theorem d_Rows_nextFor_11 : decode b_Rows_nextFor 11 = .ok (.aload_n 1, 1) := by decide +kernel
theorem d_Rows_nextFor_12 : decode b_Rows_nextFor 12 = .ok (.getfield 83, 3) := by decide +kernel
theorem d_Rows_nextFor_15 : decode b_Rows_nextFor 15 = .ok (.iload_n 2, 1) := by decide +kernel
theorem d_Rows_nextFor_16 : decode b_Rows_nextFor 16 = .ok (.iaload, 1) := by decide +kernel
theorem d_Rows_nextFor_17 : decode b_Rows_nextFor 17 = .ok (.istore_n 3, 1) := by decide +kernel
theorem d_Rows_nextFor_18 : decode b_Rows_nextFor 18 = .ok (.iload_n 3, 1) := by decide +kernel
theorem d_Rows_nextFor_19 : decode b_Rows_nextFor 19 = .ok (.iconst (-1), 1) := by decide +kernel
theorem d_Rows_nextFor_20 : decode b_Rows_nextFor 20 = .ok (.if_icmp .ne 7, 3) := by decide +kernel
theorem d_Rows_nextFor_23 : decode b_Rows_nextFor 23 = .ok (.aconst_null, 1) := by decide +kernel
theorem d_Rows_nextFor_24 : decode b_Rows_nextFor 24 = .ok (.goto 8, 3) := by decide +kernel
theorem d_Rows_nextFor_27 : decode b_Rows_nextFor 27 = .ok (.aload_n 0, 1) := by decide +kernel
theorem d_Rows_nextFor_28 : decode b_Rows_nextFor 28 = .ok (.iload_n 3, 1) := by decide +kernel
theorem d_Rows_nextFor_29 : decode b_Rows_nextFor 29 = .ok (.invokevirtual 191, 3) := by decide +kernel
theorem d_Rows_nextFor_32 : decode b_Rows_nextFor 32 = .ok (.astore 4, 2) := by decide +kernel
theorem d_Rows_nextFor_34 : decode b_Rows_nextFor 34 = .ok (.aload 4, 2) := by decide +kernel
theorem d_Rows_nextFor_36 : decode b_Rows_nextFor 36 = .ok (.ifnull 6, 3) := by decide +kernel
theorem d_Rows_nextFor_39 : decode b_Rows_nextFor 39 = .ok (.aload 4, 2) := by decide +kernel
theorem d_Rows_nextFor_41 : decode b_Rows_nextFor 41 = .ok (.areturn, 1) := by decide +kernel
theorem d_Rows_nextFor_42 : decode b_Rows_nextFor 42 = .ok (.iinc 2 1, 3) := by decide +kernel
theorem d_Rows_nextFor_45 : decode b_Rows_nextFor 45 = .ok (.goto (-43), 3) := by decide +kernel
theorem d_Rows_nextFor_48 : decode b_Rows_nextFor 48 = .ok (.aconst_null, 1) := by decide +kernel
theorem d_Rows_nextFor_49 : decode b_Rows_nextFor 49 = .ok (.areturn, 1) := by decide +kernel
theorem d_Load_take_0 : decode b_Load_take 0 = .ok (.aload_n 0, 1) := by decide +kernel
theorem d_Load_take_1 : decode b_Load_take 1 = .ok (.getfield 9, 3) := by decide +kernel
theorem d_Load_take_4 : decode b_Load_take 4 = .ok (.aload_n 1, 1) := by decide +kernel
theorem d_Load_take_5 : decode b_Load_take 5 = .ok (.getfield 33, 3) := by decide +kernel
theorem d_Load_take_8 : decode b_Load_take 8 = .ok (.dup2, 1) := by decide +kernel
theorem d_Load_take_9 : decode b_Load_take 9 = .ok (.iaload, 1) := by decide +kernel
theorem d_Load_take_10 : decode b_Load_take 10 = .ok (.iconst 1, 1) := by decide +kernel
theorem d_Load_take_11 : decode b_Load_take 11 = .ok (.iadd, 1) := by decide +kernel
theorem d_Load_take_12 : decode b_Load_take 12 = .ok (.iastore, 1) := by decide +kernel
theorem d_Load_take_13 : decode b_Load_take 13 = .ok (.iconst 0, 1) := by decide +kernel
theorem d_Load_take_14 : decode b_Load_take 14 = .ok (.istore_n 2, 1) := by decide +kernel
theorem d_Load_take_15 : decode b_Load_take 15 = .ok (.iload_n 2, 1) := by decide +kernel
theorem d_Load_take_16 : decode b_Load_take 16 = .ok (.iconst 4, 1) := by decide +kernel
theorem d_Load_take_17 : decode b_Load_take 17 = .ok (.if_icmp .ge 24, 3) := by decide +kernel
theorem d_Load_take_20 : decode b_Load_take 20 = .ok (.aload_n 0, 1) := by decide +kernel
theorem d_Load_take_21 : decode b_Load_take 21 = .ok (.getfield 15, 3) := by decide +kernel
theorem d_Load_take_24 : decode b_Load_take 24 = .ok (.iload_n 2, 1) := by decide +kernel
theorem d_Load_take_25 : decode b_Load_take 25 = .ok (.dup2, 1) := by decide +kernel
theorem d_Load_take_26 : decode b_Load_take 26 = .ok (.iaload, 1) := by decide +kernel
theorem d_Load_take_27 : decode b_Load_take 27 = .ok (.aload_n 1, 1) := by decide +kernel
theorem d_Load_take_28 : decode b_Load_take 28 = .ok (.getfield 38, 3) := by decide +kernel
theorem d_Load_take_31 : decode b_Load_take 31 = .ok (.iload_n 2, 1) := by decide +kernel
theorem d_Load_take_32 : decode b_Load_take 32 = .ok (.iaload, 1) := by decide +kernel
theorem d_Load_take_33 : decode b_Load_take 33 = .ok (.iadd, 1) := by decide +kernel
theorem d_Load_take_34 : decode b_Load_take 34 = .ok (.iastore, 1) := by decide +kernel
theorem d_Load_take_35 : decode b_Load_take 35 = .ok (.iinc 2 1, 3) := by decide +kernel
theorem d_Load_take_38 : decode b_Load_take 38 = .ok (.goto (-23), 3) := by decide +kernel
theorem d_Load_take_41 : decode b_Load_take 41 = .ok (.aload_n 0, 1) := by decide +kernel
theorem d_Load_take_42 : decode b_Load_take 42 = .ok (.getfield 21, 3) := by decide +kernel
theorem d_Load_take_45 : decode b_Load_take 45 = .ok (.aload_n 1, 1) := by decide +kernel
theorem d_Load_take_46 : decode b_Load_take 46 = .ok (.getfield 39, 3) := by decide +kernel
theorem d_Load_take_49 : decode b_Load_take 49 = .ok (.invokevirtual 42, 3) := by decide +kernel
theorem d_Load_take_52 : decode b_Load_take 52 = .ok (.aload_n 0, 1) := by decide +kernel
theorem d_Load_take_53 : decode b_Load_take 53 = .ok (.dup, 1) := by decide +kernel
theorem d_Load_take_54 : decode b_Load_take 54 = .ok (.getfield 25, 3) := by decide +kernel
theorem d_Load_take_57 : decode b_Load_take 57 = .ok (.iconst 1, 1) := by decide +kernel
theorem d_Load_take_58 : decode b_Load_take 58 = .ok (.iadd, 1) := by decide +kernel
theorem d_Load_take_59 : decode b_Load_take 59 = .ok (.putfield 25, 3) := by decide +kernel
theorem d_Load_take_62 : decode b_Load_take 62 = .ok (.aload_n 0, 1) := by decide +kernel
theorem d_Load_take_63 : decode b_Load_take 63 = .ok (.aload_n 1, 1) := by decide +kernel
theorem d_Load_take_64 : decode b_Load_take 64 = .ok (.getfield 46, 3) := by decide +kernel
theorem d_Load_take_67 : decode b_Load_take 67 = .ok (.putfield 29, 3) := by decide +kernel
theorem d_Load_take_70 : decode b_Load_take 70 = .ok (.return_, 1) := by decide +kernel
theorem d_Rows_startJob_0 : decode b_Rows_startJob 0 = .ok (.aload_n 1, 1) := by decide +kernel
theorem d_Rows_startJob_1 : decode b_Rows_startJob 1 = .ok (.aload_n 2, 1) := by decide +kernel
theorem d_Rows_startJob_2 : decode b_Rows_startJob 2 = .ok (.getfield 136, 3) := by decide +kernel
theorem d_Rows_startJob_5 : decode b_Rows_startJob 5 = .ok (.putfield 125, 3) := by decide +kernel
theorem d_Rows_startJob_8 : decode b_Rows_startJob 8 = .ok (.aload_n 2, 1) := by decide +kernel
theorem d_Rows_startJob_9 : decode b_Rows_startJob 9 = .ok (.iconst 2, 1) := by decide +kernel
theorem d_Rows_startJob_10 : decode b_Rows_startJob 10 = .ok (.putfield 119, 3) := by decide +kernel
theorem d_Rows_startJob_13 : decode b_Rows_startJob 13 = .ok (.aload_n 2, 1) := by decide +kernel
theorem d_Rows_startJob_14 : decode b_Rows_startJob 14 = .ok (.aload_n 0, 1) := by decide +kernel
theorem d_Rows_startJob_15 : decode b_Rows_startJob 15 = .ok (.getfield 49, 3) := by decide +kernel
theorem d_Rows_startJob_18 : decode b_Rows_startJob 18 = .ok (.putfield 164, 3) := by decide +kernel
theorem d_Rows_startJob_21 : decode b_Rows_startJob 21 = .ok (.aload_n 0, 1) := by decide +kernel
theorem d_Rows_startJob_22 : decode b_Rows_startJob 22 = .ok (.getfield 38, 3) := by decide +kernel
theorem d_Rows_startJob_25 : decode b_Rows_startJob 25 = .ok (.aload_n 2, 1) := by decide +kernel
theorem d_Rows_startJob_26 : decode b_Rows_startJob 26 = .ok (.invokevirtual 235, 3) := by decide +kernel
theorem d_Rows_startJob_29 : decode b_Rows_startJob 29 = .ok (.return_, 1) := by decide +kernel
theorem d_Rows_next_0 : decode b_Rows_next 0 = .ok (.aload_n 0, 1) := by decide +kernel
theorem d_Rows_next_1 : decode b_Rows_next 1 = .ok (.iload_n 1, 1) := by decide +kernel
theorem d_Rows_next_2 : decode b_Rows_next 2 = .ok (.invokevirtual 71, 3) := by decide +kernel
theorem d_Rows_next_5 : decode b_Rows_next 5 = .ok (.astore 4, 2) := by decide +kernel
theorem d_Rows_next_7 : decode b_Rows_next 7 = .ok (.aload 4, 2) := by decide +kernel
theorem d_Rows_next_9 : decode b_Rows_next 9 = .ok (.ifnonnull 6, 3) := by decide +kernel
theorem d_Rows_next_12 : decode b_Rows_next 12 = .ok (.bipush (-2), 2) := by decide +kernel
theorem d_Rows_next_14 : decode b_Rows_next 14 = .ok (.ireturn, 1) := by decide +kernel
theorem d_Rows_next_15 : decode b_Rows_next 15 = .ok (.lload_n 2, 1) := by decide +kernel
theorem d_Rows_next_16 : decode b_Rows_next 16 = .ok (.aload_n 0, 1) := by decide +kernel
theorem d_Rows_next_17 : decode b_Rows_next 17 = .ok (.getfield 49, 3) := by decide +kernel
theorem d_Rows_next_20 : decode b_Rows_next 20 = .ok (.lcmp, 1) := by decide +kernel
theorem d_Rows_next_21 : decode b_Rows_next 21 = .ok (.ifCond .ge 6, 3) := by decide +kernel
theorem d_Rows_next_24 : decode b_Rows_next 24 = .ok (.bipush (-4), 2) := by decide +kernel
theorem d_Rows_next_26 : decode b_Rows_next 26 = .ok (.ireturn, 1) := by decide +kernel
theorem d_Rows_next_27 : decode b_Rows_next 27 = .ok (.aload 4, 2) := by decide +kernel
theorem d_Rows_next_29 : decode b_Rows_next 29 = .ok (.getfield 122, 3) := by decide +kernel
theorem d_Rows_next_32 : decode b_Rows_next 32 = .ok (.ifCond .ne 11, 3) := by decide +kernel
theorem d_Rows_next_35 : decode b_Rows_next 35 = .ok (.aload 4, 2) := by decide +kernel
theorem d_Rows_next_37 : decode b_Rows_next 37 = .ok (.getfield 125, 3) := by decide +kernel
theorem d_Rows_next_40 : decode b_Rows_next 40 = .ok (.ifCond .eq 6, 3) := by decide +kernel
theorem d_Rows_next_43 : decode b_Rows_next 43 = .ok (.bipush (-5), 2) := by decide +kernel
theorem d_Rows_next_45 : decode b_Rows_next 45 = .ok (.ireturn, 1) := by decide +kernel
theorem d_Rows_next_46 : decode b_Rows_next 46 = .ok (.aload_n 0, 1) := by decide +kernel
theorem d_Rows_next_47 : decode b_Rows_next 47 = .ok (.lload_n 2, 1) := by decide +kernel
theorem d_Rows_next_48 : decode b_Rows_next 48 = .ok (.putfield 49, 3) := by decide +kernel
theorem d_Rows_next_51 : decode b_Rows_next 51 = .ok (.aload_n 0, 1) := by decide +kernel
theorem d_Rows_next_52 : decode b_Rows_next 52 = .ok (.aload 4, 2) := by decide +kernel
theorem d_Rows_next_54 : decode b_Rows_next 54 = .ok (.invokevirtual 128, 3) := by decide +kernel
theorem d_Rows_next_57 : decode b_Rows_next 57 = .ok (.astore 5, 2) := by decide +kernel
theorem d_Rows_next_59 : decode b_Rows_next 59 = .ok (.aload 5, 2) := by decide +kernel
theorem d_Rows_next_61 : decode b_Rows_next 61 = .ok (.ifnonnull 5, 3) := by decide +kernel
theorem d_Rows_next_64 : decode b_Rows_next 64 = .ok (.iconst 0, 1) := by decide +kernel
theorem d_Rows_next_65 : decode b_Rows_next 65 = .ok (.ireturn, 1) := by decide +kernel
theorem d_Rows_next_66 : decode b_Rows_next 66 = .ok (.aload_n 0, 1) := by decide +kernel
theorem d_Rows_next_67 : decode b_Rows_next 67 = .ok (.aload 4, 2) := by decide +kernel
theorem d_Rows_next_69 : decode b_Rows_next 69 = .ok (.aload 5, 2) := by decide +kernel
theorem d_Rows_next_71 : decode b_Rows_next 71 = .ok (.invokevirtual 132, 3) := by decide +kernel
theorem d_Rows_next_74 : decode b_Rows_next 74 = .ok (.aload 5, 2) := by decide +kernel
theorem d_Rows_next_76 : decode b_Rows_next 76 = .ok (.getfield 136, 3) := by decide +kernel
theorem d_Rows_next_79 : decode b_Rows_next 79 = .ok (.ireturn, 1) := by decide +kernel
theorem d_NS_drop_0 : decode b_NS_drop 0 = .ok (.iload_n 1, 1) := by decide +kernel
theorem d_NS_drop_1 : decode b_NS_drop 1 = .ok (.bipush 64, 2) := by decide +kernel
theorem d_NS_drop_3 : decode b_NS_drop 3 = .ok (.if_icmp .ge 22, 3) := by decide +kernel
theorem d_NS_drop_6 : decode b_NS_drop 6 = .ok (.aload_n 0, 1) := by decide +kernel
theorem d_NS_drop_7 : decode b_NS_drop 7 = .ok (.dup, 1) := by decide +kernel
theorem d_NS_drop_8 : decode b_NS_drop 8 = .ok (.getfield 7, 3) := by decide +kernel
theorem d_NS_drop_11 : decode b_NS_drop 11 = .ok (.lconst 1, 1) := by decide +kernel
theorem d_NS_drop_12 : decode b_NS_drop 12 = .ok (.iload_n 1, 1) := by decide +kernel
theorem d_NS_drop_13 : decode b_NS_drop 13 = .ok (.lshl, 1) := by decide +kernel
theorem d_NS_drop_14 : decode b_NS_drop 14 = .ok (.ldc2_w 16, 3) := by decide +kernel
theorem d_NS_drop_17 : decode b_NS_drop 17 = .ok (.lxor, 1) := by decide +kernel
theorem d_NS_drop_18 : decode b_NS_drop 18 = .ok (.land, 1) := by decide +kernel
theorem d_NS_drop_19 : decode b_NS_drop 19 = .ok (.putfield 7, 3) := by decide +kernel
theorem d_NS_drop_22 : decode b_NS_drop 22 = .ok (.goto 22, 3) := by decide +kernel
theorem d_NS_drop_25 : decode b_NS_drop 25 = .ok (.aload_n 0, 1) := by decide +kernel
theorem d_NS_drop_26 : decode b_NS_drop 26 = .ok (.dup, 1) := by decide +kernel
theorem d_NS_drop_27 : decode b_NS_drop 27 = .ok (.getfield 13, 3) := by decide +kernel
theorem d_NS_drop_30 : decode b_NS_drop 30 = .ok (.lconst 1, 1) := by decide +kernel
theorem d_NS_drop_31 : decode b_NS_drop 31 = .ok (.iload_n 1, 1) := by decide +kernel
theorem d_NS_drop_32 : decode b_NS_drop 32 = .ok (.bipush 64, 2) := by decide +kernel
theorem d_NS_drop_34 : decode b_NS_drop 34 = .ok (.isub, 1) := by decide +kernel
theorem d_NS_drop_35 : decode b_NS_drop 35 = .ok (.lshl, 1) := by decide +kernel
theorem d_NS_drop_36 : decode b_NS_drop 36 = .ok (.ldc2_w 16, 3) := by decide +kernel
theorem d_NS_drop_39 : decode b_NS_drop 39 = .ok (.lxor, 1) := by decide +kernel
theorem d_NS_drop_40 : decode b_NS_drop 40 = .ok (.land, 1) := by decide +kernel
theorem d_NS_drop_41 : decode b_NS_drop 41 = .ok (.putfield 13, 3) := by decide +kernel
theorem d_NS_drop_44 : decode b_NS_drop 44 = .ok (.return_, 1) := by decide +kernel
theorem d_Load_release_0 : decode b_Load_release 0 = .ok (.aload_n 0, 1) := by decide +kernel
theorem d_Load_release_1 : decode b_Load_release 1 = .ok (.getfield 9, 3) := by decide +kernel
theorem d_Load_release_4 : decode b_Load_release 4 = .ok (.aload_n 1, 1) := by decide +kernel
theorem d_Load_release_5 : decode b_Load_release 5 = .ok (.getfield 33, 3) := by decide +kernel
theorem d_Load_release_8 : decode b_Load_release 8 = .ok (.dup2, 1) := by decide +kernel
theorem d_Load_release_9 : decode b_Load_release 9 = .ok (.iaload, 1) := by decide +kernel
theorem d_Load_release_10 : decode b_Load_release 10 = .ok (.iconst 1, 1) := by decide +kernel
theorem d_Load_release_11 : decode b_Load_release 11 = .ok (.isub, 1) := by decide +kernel
theorem d_Load_release_12 : decode b_Load_release 12 = .ok (.iastore, 1) := by decide +kernel
theorem d_Load_release_13 : decode b_Load_release 13 = .ok (.iconst 0, 1) := by decide +kernel
theorem d_Load_release_14 : decode b_Load_release 14 = .ok (.istore_n 2, 1) := by decide +kernel
theorem d_Load_release_15 : decode b_Load_release 15 = .ok (.iload_n 2, 1) := by decide +kernel
theorem d_Load_release_16 : decode b_Load_release 16 = .ok (.iconst 4, 1) := by decide +kernel
theorem d_Load_release_17 : decode b_Load_release 17 = .ok (.if_icmp .ge 24, 3) := by decide +kernel
theorem d_Load_release_20 : decode b_Load_release 20 = .ok (.aload_n 0, 1) := by decide +kernel
theorem d_Load_release_21 : decode b_Load_release 21 = .ok (.getfield 15, 3) := by decide +kernel
theorem d_Load_release_24 : decode b_Load_release 24 = .ok (.iload_n 2, 1) := by decide +kernel
theorem d_Load_release_25 : decode b_Load_release 25 = .ok (.dup2, 1) := by decide +kernel
theorem d_Load_release_26 : decode b_Load_release 26 = .ok (.iaload, 1) := by decide +kernel
theorem d_Load_release_27 : decode b_Load_release 27 = .ok (.aload_n 1, 1) := by decide +kernel
theorem d_Load_release_28 : decode b_Load_release 28 = .ok (.getfield 38, 3) := by decide +kernel
theorem d_Load_release_31 : decode b_Load_release 31 = .ok (.iload_n 2, 1) := by decide +kernel
theorem d_Load_release_32 : decode b_Load_release 32 = .ok (.iaload, 1) := by decide +kernel
theorem d_Load_release_33 : decode b_Load_release 33 = .ok (.isub, 1) := by decide +kernel
theorem d_Load_release_34 : decode b_Load_release 34 = .ok (.iastore, 1) := by decide +kernel
theorem d_Load_release_35 : decode b_Load_release 35 = .ok (.iinc 2 1, 3) := by decide +kernel
theorem d_Load_release_38 : decode b_Load_release 38 = .ok (.goto (-23), 3) := by decide +kernel
theorem d_Load_release_41 : decode b_Load_release 41 = .ok (.aload_n 0, 1) := by decide +kernel
theorem d_Load_release_42 : decode b_Load_release 42 = .ok (.getfield 21, 3) := by decide +kernel
theorem d_Load_release_45 : decode b_Load_release 45 = .ok (.aload_n 1, 1) := by decide +kernel
theorem d_Load_release_46 : decode b_Load_release 46 = .ok (.getfield 39, 3) := by decide +kernel
theorem d_Load_release_49 : decode b_Load_release 49 = .ok (.invokevirtual 49, 3) := by decide +kernel
theorem d_Load_release_52 : decode b_Load_release 52 = .ok (.aload_n 0, 1) := by decide +kernel
theorem d_Load_release_53 : decode b_Load_release 53 = .ok (.dup, 1) := by decide +kernel
theorem d_Load_release_54 : decode b_Load_release 54 = .ok (.getfield 25, 3) := by decide +kernel
theorem d_Load_release_57 : decode b_Load_release 57 = .ok (.iconst 1, 1) := by decide +kernel
theorem d_Load_release_58 : decode b_Load_release 58 = .ok (.isub, 1) := by decide +kernel
theorem d_Load_release_59 : decode b_Load_release 59 = .ok (.putfield 25, 3) := by decide +kernel
theorem d_Load_release_62 : decode b_Load_release 62 = .ok (.aload_n 0, 1) := by decide +kernel
theorem d_Load_release_63 : decode b_Load_release 63 = .ok (.iconst 0, 1) := by decide +kernel
theorem d_Load_release_64 : decode b_Load_release 64 = .ok (.putfield 29, 3) := by decide +kernel
theorem d_Load_release_67 : decode b_Load_release 67 = .ok (.return_, 1) := by decide +kernel
theorem d_Rows_stopJob_0 : decode b_Rows_stopJob 0 = .ok (.iconst 0, 1) := by decide +kernel
theorem d_Rows_stopJob_1 : decode b_Rows_stopJob 1 = .ok (.istore_n 2, 1) := by decide +kernel
theorem d_Rows_stopJob_2 : decode b_Rows_stopJob 2 = .ok (.iload_n 2, 1) := by decide +kernel
theorem d_Rows_stopJob_3 : decode b_Rows_stopJob 3 = .ok (.aload_n 0, 1) := by decide +kernel
theorem d_Rows_stopJob_4 : decode b_Rows_stopJob 4 = .ok (.getfield 10, 3) := by decide +kernel
theorem d_Rows_stopJob_7 : decode b_Rows_stopJob 7 = .ok (.invokevirtual 60, 3) := by decide +kernel
theorem d_Rows_stopJob_10 : decode b_Rows_stopJob 10 = .ok (.if_icmp .ge 37, 3) := by decide +kernel
theorem d_Rows_stopJob_13 : decode b_Rows_stopJob 13 = .ok (.aload_n 0, 1) := by decide +kernel
theorem d_Rows_stopJob_14 : decode b_Rows_stopJob 14 = .ok (.getfield 10, 3) := by decide +kernel
theorem d_Rows_stopJob_17 : decode b_Rows_stopJob 17 = .ok (.iload_n 2, 1) := by decide +kernel
theorem d_Rows_stopJob_18 : decode b_Rows_stopJob 18 = .ok (.invokevirtual 156, 3) := by decide +kernel
theorem d_Rows_stopJob_21 : decode b_Rows_stopJob 21 = .ok (.checkcast 64, 3) := by decide +kernel
theorem d_Rows_stopJob_24 : decode b_Rows_stopJob 24 = .ok (.astore_n 3, 1) := by decide +kernel
theorem d_Rows_stopJob_25 : decode b_Rows_stopJob 25 = .ok (.aload_n 3, 1) := by decide +kernel
theorem d_Rows_stopJob_26 : decode b_Rows_stopJob 26 = .ok (.getfield 125, 3) := by decide +kernel
theorem d_Rows_stopJob_29 : decode b_Rows_stopJob 29 = .ok (.aload_n 1, 1) := by decide +kernel
theorem d_Rows_stopJob_30 : decode b_Rows_stopJob 30 = .ok (.getfield 136, 3) := by decide +kernel
theorem d_Rows_stopJob_33 : decode b_Rows_stopJob 33 = .ok (.if_icmp .ne 8, 3) := by decide +kernel
theorem d_Rows_stopJob_36 : decode b_Rows_stopJob 36 = .ok (.aload_n 3, 1) := by decide +kernel
theorem d_Rows_stopJob_37 : decode b_Rows_stopJob 37 = .ok (.iconst 0, 1) := by decide +kernel
theorem d_Rows_stopJob_38 : decode b_Rows_stopJob 38 = .ok (.putfield 125, 3) := by decide +kernel
theorem d_Rows_stopJob_41 : decode b_Rows_stopJob 41 = .ok (.iinc 2 1, 3) := by decide +kernel
theorem d_Rows_stopJob_44 : decode b_Rows_stopJob 44 = .ok (.goto (-42), 3) := by decide +kernel
theorem d_Rows_stopJob_47 : decode b_Rows_stopJob 47 = .ok (.aload_n 1, 1) := by decide +kernel
