theorem d_Mod_needs_10 : decode b_Mod_needs 10 = .ok (.ifCond .eq 11, 3) := by decide +kernel
theorem d_Mod_needs_13 : decode b_Mod_needs 13 = .ok (.aload_n 0, 1) := by decide +kernel
theorem d_Mod_needs_14 : decode b_Mod_needs 14 = .ok (.iload_n 2, 1) := by decide +kernel
theorem d_Mod_needs_15 : decode b_Mod_needs 15 = .ok (.invokevirtual 93, 3) := by decide +kernel
theorem d_Mod_needs_18 : decode b_Mod_needs 18 = .ok (.ifCond .ne 6, 3) := by decide +kernel
theorem d_Mod_needs_21 : decode b_Mod_needs 21 = .ok (.bipush (-2), 2) := by decide +kernel
theorem d_Mod_needs_23 : decode b_Mod_needs 23 = .ok (.ireturn, 1) := by decide +kernel
theorem d_Mod_needs_24 : decode b_Mod_needs 24 = .ok (.aload_n 0, 1) := by decide +kernel
theorem d_Mod_needs_25 : decode b_Mod_needs 25 = .ok (.getfield 44, 3) := by decide +kernel
theorem d_Mod_needs_28 : decode b_Mod_needs 28 = .ok (.iload_n 1, 1) := by decide +kernel
theorem d_Mod_needs_29 : decode b_Mod_needs 29 = .ok (.iconst 1, 1) := by decide +kernel
theorem d_Mod_needs_30 : decode b_Mod_needs 30 = .ok (.isub, 1) := by decide +kernel
theorem d_Mod_needs_31 : decode b_Mod_needs 31 = .ok (.iaload, 1) := by decide +kernel
theorem d_Mod_needs_32 : decode b_Mod_needs 32 = .ok (.ifCond .eq 6, 3) := by decide +kernel
theorem d_Mod_needs_35 : decode b_Mod_needs 35 = .ok (.bipush (-5), 2) := by decide +kernel
theorem d_Mod_needs_37 : decode b_Mod_needs 37 = .ok (.ireturn, 1) := by decide +kernel
theorem d_Mod_needs_38 : decode b_Mod_needs 38 = .ok (.aload_n 0, 1) := by decide +kernel
theorem d_Mod_needs_39 : decode b_Mod_needs 39 = .ok (.iload_n 2, 1) := by decide +kernel
theorem d_Mod_needs_40 : decode b_Mod_needs 40 = .ok (.iconst 1, 1) := by decide +kernel
theorem d_Mod_needs_41 : decode b_Mod_needs 41 = .ok (.isub, 1) := by decide +kernel
theorem d_Mod_needs_42 : decode b_Mod_needs 42 = .ok (.iload_n 1, 1) := by decide +kernel
theorem d_Mod_needs_43 : decode b_Mod_needs 43 = .ok (.iconst 1, 1) := by decide +kernel
theorem d_Mod_needs_44 : decode b_Mod_needs 44 = .ok (.isub, 1) := by decide +kernel
theorem d_Mod_needs_45 : decode b_Mod_needs 45 = .ok (.invokevirtual 96, 3) := by decide +kernel
theorem d_Mod_needs_48 : decode b_Mod_needs 48 = .ok (.ifCond .eq 5, 3) := by decide +kernel
theorem d_Mod_needs_51 : decode b_Mod_needs 51 = .ok (.iconst 0, 1) := by decide +kernel
theorem d_Mod_needs_52 : decode b_Mod_needs 52 = .ok (.ireturn, 1) := by decide +kernel
theorem d_Mod_needs_53 : decode b_Mod_needs 53 = .ok (.aload_n 0, 1) := by decide +kernel
theorem d_Mod_needs_54 : decode b_Mod_needs 54 = .ok (.getfield 56, 3) := by decide +kernel
theorem d_Mod_needs_57 : decode b_Mod_needs 57 = .ok (.bipush 100, 2) := by decide +kernel
theorem d_Mod_needs_59 : decode b_Mod_needs 59 = .ok (.iload_n 1, 1) := by decide +kernel
theorem d_Mod_needs_60 : decode b_Mod_needs 60 = .ok (.iconst 1, 1) := by decide +kernel
theorem d_Mod_needs_61 : decode b_Mod_needs 61 = .ok (.isub, 1) := by decide +kernel
theorem d_Mod_needs_62 : decode b_Mod_needs 62 = .ok (.imul, 1) := by decide +kernel
theorem d_Mod_needs_63 : decode b_Mod_needs 63 = .ok (.iload_n 2, 1) := by decide +kernel
theorem d_Mod_needs_64 : decode b_Mod_needs 64 = .ok (.iadd, 1) := by decide +kernel
theorem d_Mod_needs_65 : decode b_Mod_needs 65 = .ok (.iconst 1, 1) := by decide +kernel
theorem d_Mod_needs_66 : decode b_Mod_needs 66 = .ok (.isub, 1) := by decide +kernel
theorem d_Mod_needs_67 : decode b_Mod_needs 67 = .ok (.iconst 1, 1) := by decide +kernel
theorem d_Mod_needs_68 : decode b_Mod_needs 68 = .ok (.bastore, 1) := by decide +kernel
theorem d_Mod_needs_69 : decode b_Mod_needs 69 = .ok (.iconst 1, 1) := by decide +kernel
theorem d_Mod_needs_70 : decode b_Mod_needs 70 = .ok (.ireturn, 1) := by decide +kernel
theorem d_Mod_units_0 : decode b_Mod_units 0 = .ok (.aload_n 0, 1) := by decide +kernel
theorem d_Mod_units_1 : decode b_Mod_units 1 = .ok (.iconst 0, 1) := by decide +kernel
theorem d_Mod_units_2 : decode b_Mod_units 2 = .ok (.putfield 69, 3) := by decide +kernel
theorem d_Mod_units_5 : decode b_Mod_units 5 = .ok (.iload_n 1, 1) := by decide +kernel
theorem d_Mod_units_6 : decode b_Mod_units 6 = .ok (.ifCond .lt 19, 3) := by decide +kernel
theorem d_Mod_units_9 : decode b_Mod_units 9 = .ok (.iload_n 1, 1) := by decide +kernel
theorem d_Mod_units_10 : decode b_Mod_units 10 = .ok (.iconst 3, 1) := by decide +kernel
theorem d_Mod_units_11 : decode b_Mod_units 11 = .ok (.if_icmp .gt 14, 3) := by decide +kernel
theorem d_Mod_units_14 : decode b_Mod_units 14 = .ok (.iload_n 2, 1) := by decide +kernel
theorem d_Mod_units_15 : decode b_Mod_units 15 = .ok (.ifCond .lt 10, 3) := by decide +kernel
theorem d_Mod_units_18 : decode b_Mod_units 18 = .ok (.iload_n 2, 1) := by decide +kernel
theorem d_Mod_units_19 : decode b_Mod_units 19 = .ok (.sipush 1000, 3) := by decide +kernel
theorem d_Mod_units_22 : decode b_Mod_units 22 = .ok (.if_icmp .le 6, 3) := by decide +kernel
theorem d_Mod_units_25 : decode b_Mod_units 25 = .ok (.bipush (-4), 2) := by decide +kernel
theorem d_Mod_units_27 : decode b_Mod_units 27 = .ok (.ireturn, 1) := by decide +kernel
theorem d_Mod_units_28 : decode b_Mod_units 28 = .ok (.aload_n 0, 1) := by decide +kernel
theorem d_Mod_units_29 : decode b_Mod_units 29 = .ok (.getfield 32, 3) := by decide +kernel
theorem d_Mod_units_32 : decode b_Mod_units 32 = .ok (.iload_n 1, 1) := by decide +kernel
theorem d_Mod_units_33 : decode b_Mod_units 33 = .ok (.iload_n 2, 1) := by decide +kernel
theorem d_Mod_units_34 : decode b_Mod_units 34 = .ok (.iastore, 1) := by decide +kernel
theorem d_Mod_units_35 : decode b_Mod_units 35 = .ok (.iconst 1, 1) := by decide +kernel
theorem d_Mod_units_36 : decode b_Mod_units 36 = .ok (.ireturn, 1) := by decide +kernel
theorem d_Mod_uses_0 : decode b_Mod_uses 0 = .ok (.aload_n 0, 1) := by decide +kernel
theorem d_Mod_uses_1 : decode b_Mod_uses 1 = .ok (.iconst 0, 1) := by decide +kernel
theorem d_Mod_uses_2 : decode b_Mod_uses 2 = .ok (.putfield 69, 3) := by decide +kernel
theorem d_Mod_uses_5 : decode b_Mod_uses 5 = .ok (.aload_n 0, 1) := by decide +kernel
theorem d_Mod_uses_6 : decode b_Mod_uses 6 = .ok (.iload_n 1, 1) := by decide +kernel
theorem d_Mod_uses_7 : decode b_Mod_uses 7 = .ok (.invokevirtual 93, 3) := by decide +kernel
theorem d_Mod_uses_10 : decode b_Mod_uses 10 = .ok (.ifCond .ne 6, 3) := by decide +kernel
theorem d_Mod_uses_13 : decode b_Mod_uses 13 = .ok (.bipush (-2), 2) := by decide +kernel
theorem d_Mod_uses_15 : decode b_Mod_uses 15 = .ok (.ireturn, 1) := by decide +kernel
theorem d_Mod_uses_16 : decode b_Mod_uses 16 = .ok (.iload_n 2, 1) := by decide +kernel
theorem d_Mod_uses_17 : decode b_Mod_uses 17 = .ok (.ifCond .lt 19, 3) := by decide +kernel
theorem d_Mod_uses_20 : decode b_Mod_uses 20 = .ok (.iload_n 2, 1) := by decide +kernel
theorem d_Mod_uses_21 : decode b_Mod_uses 21 = .ok (.iconst 3, 1) := by decide +kernel
theorem d_Mod_uses_22 : decode b_Mod_uses 22 = .ok (.if_icmp .gt 14, 3) := by decide +kernel
theorem d_Mod_uses_25 : decode b_Mod_uses 25 = .ok (.iload_n 3, 1) := by decide +kernel
theorem d_Mod_uses_26 : decode b_Mod_uses 26 = .ok (.ifCond .lt 10, 3) := by decide +kernel
theorem d_Mod_uses_29 : decode b_Mod_uses 29 = .ok (.iload_n 3, 1) := by decide +kernel
theorem d_Mod_uses_30 : decode b_Mod_uses 30 = .ok (.sipush 1000, 3) := by decide +kernel
theorem d_Mod_uses_33 : decode b_Mod_uses 33 = .ok (.if_icmp .le 6, 3) := by decide +kernel
theorem d_Mod_uses_36 : decode b_Mod_uses 36 = .ok (.bipush (-4), 2) := by decide +kernel
theorem d_Mod_uses_38 : decode b_Mod_uses 38 = .ok (.ireturn, 1) := by decide +kernel
theorem d_Mod_uses_39 : decode b_Mod_uses 39 = .ok (.aload_n 0, 1) := by decide +kernel
theorem d_Mod_uses_40 : decode b_Mod_uses 40 = .ok (.getfield 44, 3) := by decide +kernel
theorem d_Mod_uses_43 : decode b_Mod_uses 43 = .ok (.iload_n 1, 1) := by decide +kernel
theorem d_Mod_uses_44 : decode b_Mod_uses 44 = .ok (.iconst 1, 1) := by decide +kernel
theorem d_Mod_uses_45 : decode b_Mod_uses 45 = .ok (.isub, 1) := by decide +kernel
theorem d_Mod_uses_46 : decode b_Mod_uses 46 = .ok (.iaload, 1) := by decide +kernel
theorem d_Mod_uses_47 : decode b_Mod_uses 47 = .ok (.ifCond .eq 6, 3) := by decide +kernel
theorem d_Mod_uses_50 : decode b_Mod_uses 50 = .ok (.bipush (-5), 2) := by decide +kernel
theorem d_Mod_uses_52 : decode b_Mod_uses 52 = .ok (.ireturn, 1) := by decide +kernel
theorem d_Mod_uses_53 : decode b_Mod_uses 53 = .ok (.aload_n 0, 1) := by decide +kernel
theorem d_Mod_uses_54 : decode b_Mod_uses 54 = .ok (.getfield 47, 3) := by decide +kernel
theorem d_Mod_uses_57 : decode b_Mod_uses 57 = .ok (.iconst 4, 1) := by decide +kernel
theorem d_Mod_uses_58 : decode b_Mod_uses 58 = .ok (.iload_n 1, 1) := by decide +kernel
theorem d_Mod_uses_59 : decode b_Mod_uses 59 = .ok (.imul, 1) := by decide +kernel
theorem d_Mod_uses_60 : decode b_Mod_uses 60 = .ok (.iconst 4, 1) := by decide +kernel
theorem d_Mod_uses_61 : decode b_Mod_uses 61 = .ok (.isub, 1) := by decide +kernel
theorem d_Mod_uses_62 : decode b_Mod_uses 62 = .ok (.iload_n 2, 1) := by decide +kernel
theorem d_Mod_uses_63 : decode b_Mod_uses 63 = .ok (.iadd, 1) := by decide +kernel
theorem d_Mod_uses_64 : decode b_Mod_uses 64 = .ok (.iload_n 3, 1) := by decide +kernel
theorem d_Mod_uses_65 : decode b_Mod_uses 65 = .ok (.iastore, 1) := by decide +kernel
theorem d_Mod_uses_66 : decode b_Mod_uses 66 = .ok (.iconst 1, 1) := by decide +kernel
theorem d_Mod_uses_67 : decode b_Mod_uses 67 = .ok (.ireturn, 1) := by decide +kernel
theorem d_Mod_alone_0 : decode b_Mod_alone 0 = .ok (.aload_n 0, 1) := by decide +kernel
theorem d_Mod_alone_1 : decode b_Mod_alone 1 = .ok (.iconst 0, 1) := by decide +kernel
theorem d_Mod_alone_2 : decode b_Mod_alone 2 = .ok (.putfield 69, 3) := by decide +kernel
theorem d_Mod_alone_5 : decode b_Mod_alone 5 = .ok (.aload_n 0, 1) := by decide +kernel
theorem d_Mod_alone_6 : decode b_Mod_alone 6 = .ok (.iload_n 1, 1) := by decide +kernel
theorem d_Mod_alone_7 : decode b_Mod_alone 7 = .ok (.invokevirtual 93, 3) := by decide +kernel
theorem d_Mod_alone_10 : decode b_Mod_alone 10 = .ok (.ifCond .ne 6, 3) := by decide +kernel
theorem d_Mod_alone_13 : decode b_Mod_alone 13 = .ok (.bipush (-2), 2) := by decide +kernel
theorem d_Mod_alone_15 : decode b_Mod_alone 15 = .ok (.ireturn, 1) := by decide +kernel
theorem d_Mod_alone_16 : decode b_Mod_alone 16 = .ok (.aload_n 0, 1) := by decide +kernel
theorem d_Mod_alone_17 : decode b_Mod_alone 17 = .ok (.getfield 44, 3) := by decide +kernel
theorem d_Mod_alone_20 : decode b_Mod_alone 20 = .ok (.iload_n 1, 1) := by decide +kernel
theorem d_Mod_alone_21 : decode b_Mod_alone 21 = .ok (.iconst 1, 1) := by decide +kernel
theorem d_Mod_alone_22 : decode b_Mod_alone 22 = .ok (.isub, 1) := by decide +kernel
theorem d_Mod_alone_23 : decode b_Mod_alone 23 = .ok (.iaload, 1) := by decide +kernel
theorem d_Mod_alone_24 : decode b_Mod_alone 24 = .ok (.ifCond .eq 6, 3) := by decide +kernel
theorem d_Mod_alone_27 : decode b_Mod_alone 27 = .ok (.bipush (-5), 2) := by decide +kernel
theorem d_Mod_alone_29 : decode b_Mod_alone 29 = .ok (.ireturn, 1) := by decide +kernel
theorem d_Mod_alone_30 : decode b_Mod_alone 30 = .ok (.aload_n 0, 1) := by decide +kernel
theorem d_Mod_alone_31 : decode b_Mod_alone 31 = .ok (.getfield 53, 3) := by decide +kernel
theorem d_Mod_alone_34 : decode b_Mod_alone 34 = .ok (.iload_n 1, 1) := by decide +kernel
theorem d_Mod_alone_35 : decode b_Mod_alone 35 = .ok (.iconst 1, 1) := by decide +kernel
theorem d_Mod_alone_36 : decode b_Mod_alone 36 = .ok (.isub, 1) := by decide +kernel
theorem d_Mod_alone_37 : decode b_Mod_alone 37 = .ok (.iconst 1, 1) := by decide +kernel
theorem d_Mod_alone_38 : decode b_Mod_alone 38 = .ok (.bastore, 1) := by decide +kernel
theorem d_Mod_alone_39 : decode b_Mod_alone 39 = .ok (.iconst 1, 1) := by decide +kernel
theorem d_Mod_alone_40 : decode b_Mod_alone 40 = .ok (.ireturn, 1) := by decide +kernel
theorem d_Mod_hold_0 : decode b_Mod_hold 0 = .ok (.aload_n 0, 1) := by decide +kernel
theorem d_Mod_hold_1 : decode b_Mod_hold 1 = .ok (.iconst 0, 1) := by decide +kernel
theorem d_Mod_hold_2 : decode b_Mod_hold 2 = .ok (.putfield 69, 3) := by decide +kernel
theorem d_Mod_hold_5 : decode b_Mod_hold 5 = .ok (.aload_n 0, 1) := by decide +kernel
theorem d_Mod_hold_6 : decode b_Mod_hold 6 = .ok (.iload_n 1, 1) := by decide +kernel
theorem d_Mod_hold_7 : decode b_Mod_hold 7 = .ok (.invokevirtual 93, 3) := by decide +kernel
theorem d_Mod_hold_10 : decode b_Mod_hold 10 = .ok (.ifCond .ne 6, 3) := by decide +kernel
theorem d_Mod_hold_13 : decode b_Mod_hold 13 = .ok (.bipush (-2), 2) := by decide +kernel
theorem d_Mod_hold_15 : decode b_Mod_hold 15 = .ok (.ireturn, 1) := by decide +kernel
theorem d_Mod_hold_16 : decode b_Mod_hold 16 = .ok (.aload_n 0, 1) := by decide +kernel
theorem d_Mod_hold_17 : decode b_Mod_hold 17 = .ok (.getfield 44, 3) := by decide +kernel
theorem d_Mod_hold_20 : decode b_Mod_hold 20 = .ok (.iload_n 1, 1) := by decide +kernel
theorem d_Mod_hold_21 : decode b_Mod_hold 21 = .ok (.iconst 1, 1) := by decide +kernel
theorem d_Mod_hold_22 : decode b_Mod_hold 22 = .ok (.isub, 1) := by decide +kernel
theorem d_Mod_hold_23 : decode b_Mod_hold 23 = .ok (.iaload, 1) := by decide +kernel
theorem d_Mod_hold_24 : decode b_Mod_hold 24 = .ok (.ifCond .eq 6, 3) := by decide +kernel
theorem d_Mod_hold_27 : decode b_Mod_hold 27 = .ok (.bipush (-5), 2) := by decide +kernel
theorem d_Mod_hold_29 : decode b_Mod_hold 29 = .ok (.ireturn, 1) := by decide +kernel
theorem d_Mod_hold_30 : decode b_Mod_hold 30 = .ok (.aload_n 0, 1) := by decide +kernel
theorem d_Mod_hold_31 : decode b_Mod_hold 31 = .ok (.getfield 50, 3) := by decide +kernel
theorem d_Mod_hold_34 : decode b_Mod_hold 34 = .ok (.iload_n 1, 1) := by decide +kernel
theorem d_Mod_hold_35 : decode b_Mod_hold 35 = .ok (.iconst 1, 1) := by decide +kernel
theorem d_Mod_hold_36 : decode b_Mod_hold 36 = .ok (.isub, 1) := by decide +kernel
theorem d_Mod_hold_37 : decode b_Mod_hold 37 = .ok (.baload, 1) := by decide +kernel
theorem d_Mod_hold_38 : decode b_Mod_hold 38 = .ok (.istore_n 3, 1) := by decide +kernel
theorem d_Mod_hold_39 : decode b_Mod_hold 39 = .ok (.aload_n 0, 1) := by decide +kernel
theorem d_Mod_hold_40 : decode b_Mod_hold 40 = .ok (.getfield 50, 3) := by decide +kernel
theorem d_Mod_hold_43 : decode b_Mod_hold 43 = .ok (.iload_n 1, 1) := by decide +kernel
theorem d_Mod_hold_44 : decode b_Mod_hold 44 = .ok (.iconst 1, 1) := by decide +kernel
theorem d_Mod_hold_45 : decode b_Mod_hold 45 = .ok (.isub, 1) := by decide +kernel
theorem d_Mod_hold_46 : decode b_Mod_hold 46 = .ok (.iload_n 2, 1) := by decide +kernel
theorem d_Mod_hold_47 : decode b_Mod_hold 47 = .ok (.bastore, 1) := by decide +kernel
theorem d_Mod_hold_48 : decode b_Mod_hold 48 = .ok (.iload_n 3, 1) := by decide +kernel
theorem d_Mod_hold_49 : decode b_Mod_hold 49 = .ok (.iload_n 2, 1) := by decide +kernel
theorem d_Mod_hold_50 : decode b_Mod_hold 50 = .ok (.if_icmp .ne 7, 3) := by decide +kernel
theorem d_Mod_hold_53 : decode b_Mod_hold 53 = .ok (.iconst 0, 1) := by decide +kernel
theorem d_Mod_hold_54 : decode b_Mod_hold 54 = .ok (.goto 4, 3) := by decide +kernel
theorem d_Mod_hold_57 : decode b_Mod_hold 57 = .ok (.iconst 1, 1) := by decide +kernel
theorem d_Mod_hold_58 : decode b_Mod_hold 58 = .ok (.ireturn, 1) := by decide +kernel
theorem d_Mod_isOpen_0 : decode b_Mod_isOpen 0 = .ok (.aload_n 0, 1) := by decide +kernel
theorem d_Mod_isOpen_1 : decode b_Mod_isOpen 1 = .ok (.getfield 89, 3) := by decide +kernel
theorem d_Mod_isOpen_4 : decode b_Mod_isOpen 4 = .ok (.ldc2_w 100, 3) := by decide +kernel
theorem d_Mod_isOpen_7 : decode b_Mod_isOpen 7 = .ok (.lrem, 1) := by decide +kernel
theorem d_Mod_isOpen_8 : decode b_Mod_isOpen 8 = .ok (.l2i, 1) := by decide +kernel
theorem d_Mod_isOpen_9 : decode b_Mod_isOpen 9 = .ok (.istore_n 2, 1) := by decide +kernel
theorem d_Mod_isOpen_10 : decode b_Mod_isOpen 10 = .ok (.aload_n 0, 1) := by decide +kernel
theorem d_Mod_isOpen_11 : decode b_Mod_isOpen 11 = .ok (.getfield 23, 3) := by decide +kernel
theorem d_Mod_isOpen_14 : decode b_Mod_isOpen 14 = .ok (.iload_n 1, 1) := by decide +kernel
theorem d_Mod_isOpen_15 : decode b_Mod_isOpen 15 = .ok (.iaload, 1) := by decide +kernel
theorem d_Mod_isOpen_16 : decode b_Mod_isOpen 16 = .ok (.aload_n 0, 1) := by decide +kernel
theorem d_Mod_isOpen_17 : decode b_Mod_isOpen 17 = .ok (.getfield 26, 3) := by decide +kernel
theorem d_Mod_isOpen_20 : decode b_Mod_isOpen 20 = .ok (.iload_n 1, 1) := by decide +kernel
theorem d_Mod_isOpen_21 : decode b_Mod_isOpen 21 = .ok (.iaload, 1) := by decide +kernel
theorem d_Mod_isOpen_22 : decode b_Mod_isOpen 22 = .ok (.if_icmp .ne 5, 3) := by decide +kernel
theorem d_Mod_isOpen_25 : decode b_Mod_isOpen 25 = .ok (.iconst 1, 1) := by decide +kernel
theorem d_Mod_isOpen_26 : decode b_Mod_isOpen 26 = .ok (.ireturn, 1) := by decide +kernel
theorem d_Mod_isOpen_27 : decode b_Mod_isOpen 27 = .ok (.aload_n 0, 1) := by decide +kernel
theorem d_Mod_isOpen_28 : decode b_Mod_isOpen 28 = .ok (.getfield 23, 3) := by decide +kernel
theorem d_Mod_isOpen_31 : decode b_Mod_isOpen 31 = .ok (.iload_n 1, 1) := by decide +kernel
theorem d_Mod_isOpen_32 : decode b_Mod_isOpen 32 = .ok (.iaload, 1) := by decide +kernel
theorem d_Mod_isOpen_33 : decode b_Mod_isOpen 33 = .ok (.aload_n 0, 1) := by decide +kernel
theorem d_Mod_isOpen_34 : decode b_Mod_isOpen 34 = .ok (.getfield 26, 3) := by decide +kernel
theorem d_Mod_isOpen_37 : decode b_Mod_isOpen 37 = .ok (.iload_n 1, 1) := by decide +kernel
theorem d_Mod_isOpen_38 : decode b_Mod_isOpen 38 = .ok (.iaload, 1) := by decide +kernel
theorem d_Mod_isOpen_39 : decode b_Mod_isOpen 39 = .ok (.if_icmp .ge 31, 3) := by decide +kernel
theorem d_Mod_isOpen_42 : decode b_Mod_isOpen 42 = .ok (.iload_n 2, 1) := by decide +kernel
theorem d_Mod_isOpen_43 : decode b_Mod_isOpen 43 = .ok (.aload_n 0, 1) := by decide +kernel
theorem d_Mod_isOpen_44 : decode b_Mod_isOpen 44 = .ok (.getfield 23, 3) := by decide +kernel
theorem d_Mod_isOpen_47 : decode b_Mod_isOpen 47 = .ok (.iload_n 1, 1) := by decide +kernel
theorem d_Mod_isOpen_48 : decode b_Mod_isOpen 48 = .ok (.iaload, 1) := by decide +kernel
theorem d_Mod_isOpen_49 : decode b_Mod_isOpen 49 = .ok (.if_icmp .lt 17, 3) := by decide +kernel
theorem d_Mod_isOpen_52 : decode b_Mod_isOpen 52 = .ok (.iload_n 2, 1) := by decide +kernel
theorem d_Mod_isOpen_53 : decode b_Mod_isOpen 53 = .ok (.aload_n 0, 1) := by decide +kernel
theorem d_Mod_isOpen_54 : decode b_Mod_isOpen 54 = .ok (.getfield 26, 3) := by decide +kernel
theorem d_Mod_isOpen_57 : decode b_Mod_isOpen 57 = .ok (.iload_n 1, 1) := by decide +kernel
theorem d_Mod_isOpen_58 : decode b_Mod_isOpen 58 = .ok (.iaload, 1) := by decide +kernel
theorem d_Mod_isOpen_59 : decode b_Mod_isOpen 59 = .ok (.if_icmp .ge 7, 3) := by decide +kernel
theorem d_Mod_isOpen_62 : decode b_Mod_isOpen 62 = .ok (.iconst 1, 1) := by decide +kernel
theorem d_Mod_isOpen_63 : decode b_Mod_isOpen 63 = .ok (.goto 32, 3) := by decide +kernel
theorem d_Mod_isOpen_66 : decode b_Mod_isOpen 66 = .ok (.iconst 0, 1) := by decide +kernel
theorem d_Mod_isOpen_67 : decode b_Mod_isOpen 67 = .ok (.goto 28, 3) := by decide +kernel
theorem d_Mod_isOpen_70 : decode b_Mod_isOpen 70 = .ok (.iload_n 2, 1) := by decide +kernel
theorem d_Mod_isOpen_71 : decode b_Mod_isOpen 71 = .ok (.aload_n 0, 1) := by decide +kernel
theorem d_Mod_isOpen_72 : decode b_Mod_isOpen 72 = .ok (.getfield 23, 3) := by decide +kernel
theorem d_Mod_isOpen_75 : decode b_Mod_isOpen 75 = .ok (.iload_n 1, 1) := by decide +kernel
theorem d_Mod_isOpen_76 : decode b_Mod_isOpen 76 = .ok (.iaload, 1) := by decide +kernel
theorem d_Mod_isOpen_77 : decode b_Mod_isOpen 77 = .ok (.if_icmp .ge 13, 3) := by decide +kernel
theorem d_Mod_isOpen_80 : decode b_Mod_isOpen 80 = .ok (.iload_n 2, 1) := by decide +kernel
theorem d_Mod_isOpen_81 : decode b_Mod_isOpen 81 = .ok (.aload_n 0, 1) := by decide +kernel
theorem d_Mod_isOpen_82 : decode b_Mod_isOpen 82 = .ok (.getfield 26, 3) := by decide +kernel
theorem d_Mod_isOpen_85 : decode b_Mod_isOpen 85 = .ok (.iload_n 1, 1) := by decide +kernel
theorem d_Mod_isOpen_86 : decode b_Mod_isOpen 86 = .ok (.iaload, 1) := by decide +kernel
theorem d_Mod_isOpen_87 : decode b_Mod_isOpen 87 = .ok (.if_icmp .ge 7, 3) := by decide +kernel
theorem d_Mod_isOpen_90 : decode b_Mod_isOpen 90 = .ok (.iconst 1, 1) := by decide +kernel
theorem d_Mod_isOpen_91 : decode b_Mod_isOpen 91 = .ok (.goto 4, 3) := by decide +kernel
theorem d_Mod_isOpen_94 : decode b_Mod_isOpen 94 = .ok (.iconst 0, 1) := by decide +kernel
theorem d_Mod_isOpen_95 : decode b_Mod_isOpen 95 = .ok (.ireturn, 1) := by decide +kernel
theorem d_Mod_used_0 : decode b_Mod_used 0 = .ok (.iconst 0, 1) := by decide +kernel
theorem d_Mod_used_1 : decode b_Mod_used 1 = .ok (.istore_n 2, 1) := by decide +kernel
theorem d_Mod_used_2 : decode b_Mod_used 2 = .ok (.iconst 0, 1) := by decide +kernel
theorem d_Mod_used_3 : decode b_Mod_used 3 = .ok (.istore_n 3, 1) := by decide +kernel
theorem d_Mod_used_4 : decode b_Mod_used 4 = .ok (.iload_n 3, 1) := by decide +kernel
theorem d_Mod_used_5 : decode b_Mod_used 5 = .ok (.aload_n 0, 1) := by decide +kernel
theorem d_Mod_used_6 : decode b_Mod_used 6 = .ok (.getfield 76, 3) := by decide +kernel
theorem d_Mod_used_9 : decode b_Mod_used 9 = .ok (.if_icmp .ge 36, 3) := by decide +kernel
theorem d_Mod_used_12 : decode b_Mod_used 12 = .ok (.iload_n 2, 1) := by decide +kernel
theorem d_Mod_used_13 : decode b_Mod_used 13 = .ok (.aload_n 0, 1) := by decide +kernel
theorem d_Mod_used_14 : decode b_Mod_used 14 = .ok (.getfield 44, 3) := by decide +kernel
theorem d_Mod_used_17 : decode b_Mod_used 17 = .ok (.iload_n 3, 1) := by decide +kernel
theorem d_Mod_used_18 : decode b_Mod_used 18 = .ok (.iaload, 1) := by decide +kernel
theorem d_Mod_used_19 : decode b_Mod_used 19 = .ok (.iconst 2, 1) := by decide +kernel
theorem d_Mod_used_20 : decode b_Mod_used 20 = .ok (.if_icmp .ne 16, 3) := by decide +kernel
theorem d_Mod_used_23 : decode b_Mod_used 23 = .ok (.aload_n 0, 1) := by decide +kernel
theorem d_Mod_used_24 : decode b_Mod_used 24 = .ok (.getfield 47, 3) := by decide +kernel
theorem d_Mod_used_27 : decode b_Mod_used 27 = .ok (.iconst 4, 1) := by decide +kernel
theorem d_Mod_used_28 : decode b_Mod_used 28 = .ok (.iload_n 3, 1) := by decide +kernel
theorem d_Mod_used_29 : decode b_Mod_used 29 = .ok (.imul, 1) := by decide +kernel
theorem d_Mod_used_30 : decode b_Mod_used 30 = .ok (.iload_n 1, 1) := by decide +kernel
theorem d_Mod_used_31 : decode b_Mod_used 31 = .ok (.iadd, 1) := by decide +kernel
theorem d_Mod_used_32 : decode b_Mod_used 32 = .ok (.iaload, 1) := by decide +kernel
theorem d_Mod_used_33 : decode b_Mod_used 33 = .ok (.goto 4, 3) := by decide +kernel
theorem d_Mod_used_36 : decode b_Mod_used 36 = .ok (.iconst 0, 1) := by decide +kernel
theorem d_Mod_used_37 : decode b_Mod_used 37 = .ok (.iadd, 1) := by decide +kernel
theorem d_Mod_used_38 : decode b_Mod_used 38 = .ok (.istore_n 2, 1) := by decide +kernel
theorem d_Mod_used_39 : decode b_Mod_used 39 = .ok (.iinc 3 1, 3) := by decide +kernel
theorem d_Mod_used_42 : decode b_Mod_used 42 = .ok (.goto (-38), 3) := by decide +kernel
theorem d_Mod_used_45 : decode b_Mod_used 45 = .ok (.iload_n 2, 1) := by decide +kernel
theorem d_Mod_used_46 : decode b_Mod_used 46 = .ok (.ireturn, 1) := by decide +kernel
theorem d_Mod_mayStart_0 : decode b_Mod_mayStart 0 = .ok (.aload_n 0, 1) := by decide +kernel
theorem d_Mod_mayStart_1 : decode b_Mod_mayStart 1 = .ok (.getfield 44, 3) := by decide +kernel
theorem d_Mod_mayStart_4 : decode b_Mod_mayStart 4 = .ok (.iload_n 1, 1) := by decide +kernel
theorem d_Mod_mayStart_5 : decode b_Mod_mayStart 5 = .ok (.iaload, 1) := by decide +kernel
theorem d_Mod_mayStart_6 : decode b_Mod_mayStart 6 = .ok (.ifCond .ne 25, 3) := by decide +kernel
theorem d_Mod_mayStart_9 : decode b_Mod_mayStart 9 = .ok (.aload_n 0, 1) := by decide +kernel
theorem d_Mod_mayStart_10 : decode b_Mod_mayStart 10 = .ok (.getfield 50, 3) := by decide +kernel
theorem d_Mod_mayStart_13 : decode b_Mod_mayStart 13 = .ok (.iload_n 1, 1) := by decide +kernel
theorem d_Mod_mayStart_14 : decode b_Mod_mayStart 14 = .ok (.baload, 1) := by decide +kernel
theorem d_Mod_mayStart_15 : decode b_Mod_mayStart 15 = .ok (.ifCond .ne 16, 3) := by decide +kernel
theorem d_Mod_mayStart_18 : decode b_Mod_mayStart 18 = .ok (.aload_n 0, 1) := by decide +kernel
theorem d_Mod_mayStart_19 : decode b_Mod_mayStart 19 = .ok (.aload_n 0, 1) := by decide +kernel
theorem d_Mod_mayStart_20 : decode b_Mod_mayStart 20 = .ok (.getfield 35, 3) := by decide +kernel
theorem d_Mod_mayStart_23 : decode b_Mod_mayStart 23 = .ok (.iload_n 1, 1) := by decide +kernel
theorem d_Mod_mayStart_24 : decode b_Mod_mayStart 24 = .ok (.iaload, 1) := by decide +kernel
theorem d_Mod_mayStart_25 : decode b_Mod_mayStart 25 = .ok (.invokevirtual 102, 3) := by decide +kernel
theorem d_Mod_mayStart_28 : decode b_Mod_mayStart 28 = .ok (.ifCond .ne 5, 3) := by decide +kernel
theorem d_Mod_mayStart_31 : decode b_Mod_mayStart 31 = .ok (.iconst 0, 1) := by decide +kernel
theorem d_Mod_mayStart_32 : decode b_Mod_mayStart 32 = .ok (.ireturn, 1) := by decide +kernel
theorem d_Mod_mayStart_33 : decode b_Mod_mayStart 33 = .ok (.iconst 0, 1) := by decide +kernel
theorem d_Mod_mayStart_34 : decode b_Mod_mayStart 34 = .ok (.istore_n 2, 1) := by decide +kernel
theorem d_Mod_mayStart_35 : decode b_Mod_mayStart 35 = .ok (.iconst 1, 1) := by decide +kernel
theorem d_Mod_mayStart_36 : decode b_Mod_mayStart 36 = .ok (.istore_n 3, 1) := by decide +kernel
theorem d_Mod_mayStart_37 : decode b_Mod_mayStart 37 = .ok (.iconst 0, 1) := by decide +kernel
theorem d_Mod_mayStart_38 : decode b_Mod_mayStart 38 = .ok (.istore 4, 2) := by decide +kernel
theorem d_Mod_mayStart_40 : decode b_Mod_mayStart 40 = .ok (.iconst 0, 1) := by decide +kernel
theorem d_Mod_mayStart_41 : decode b_Mod_mayStart 41 = .ok (.istore 5, 2) := by decide +kernel
theorem d_Mod_mayStart_43 : decode b_Mod_mayStart 43 = .ok (.iconst 0, 1) := by decide +kernel
theorem d_Mod_mayStart_44 : decode b_Mod_mayStart 44 = .ok (.istore 6, 2) := by decide +kernel
theorem d_Mod_mayStart_46 : decode b_Mod_mayStart 46 = .ok (.iload 6, 2) := by decide +kernel
theorem d_Mod_mayStart_48 : decode b_Mod_mayStart 48 = .ok (.aload_n 0, 1) := by decide +kernel
theorem d_Mod_mayStart_49 : decode b_Mod_mayStart 49 = .ok (.getfield 76, 3) := by decide +kernel
theorem d_Mod_mayStart_52 : decode b_Mod_mayStart 52 = .ok (.if_icmp .ge 152, 3) := by decide +kernel
theorem d_Mod_mayStart_55 : decode b_Mod_mayStart 55 = .ok (.aload_n 0, 1) := by decide +kernel
theorem d_Mod_mayStart_56 : decode b_Mod_mayStart 56 = .ok (.getfield 44, 3) := by decide +kernel
theorem d_Mod_mayStart_59 : decode b_Mod_mayStart 59 = .ok (.iload 6, 2) := by decide +kernel
theorem d_Mod_mayStart_61 : decode b_Mod_mayStart 61 = .ok (.iaload, 1) := by decide +kernel
theorem d_Mod_mayStart_62 : decode b_Mod_mayStart 62 = .ok (.iconst 2, 1) := by decide +kernel
theorem d_Mod_mayStart_63 : decode b_Mod_mayStart 63 = .ok (.if_icmp .ne 7, 3) := by decide +kernel
theorem d_Mod_mayStart_66 : decode b_Mod_mayStart 66 = .ok (.iconst 1, 1) := by decide +kernel
theorem d_Mod_mayStart_67 : decode b_Mod_mayStart 67 = .ok (.goto 4, 3) := by decide +kernel
theorem d_Mod_mayStart_70 : decode b_Mod_mayStart 70 = .ok (.iconst 0, 1) := by decide +kernel
theorem d_Mod_mayStart_71 : decode b_Mod_mayStart 71 = .ok (.istore 7, 2) := by decide +kernel
theorem d_Mod_mayStart_73 : decode b_Mod_mayStart 73 = .ok (.iload 4, 2) := by decide +kernel
theorem d_Mod_mayStart_75 : decode b_Mod_mayStart 75 = .ok (.ifCond .ne 8, 3) := by decide +kernel
theorem d_Mod_mayStart_78 : decode b_Mod_mayStart 78 = .ok (.iload 7, 2) := by decide +kernel
theorem d_Mod_mayStart_80 : decode b_Mod_mayStart 80 = .ok (.ifCond .eq 7, 3) := by decide +kernel
theorem d_Mod_mayStart_83 : decode b_Mod_mayStart 83 = .ok (.iconst 1, 1) := by decide +kernel
theorem d_Mod_mayStart_84 : decode b_Mod_mayStart 84 = .ok (.goto 4, 3) := by decide +kernel
theorem d_Mod_mayStart_87 : decode b_Mod_mayStart 87 = .ok (.iconst 0, 1) := by decide +kernel
theorem d_Mod_mayStart_88 : decode b_Mod_mayStart 88 = .ok (.istore 4, 2) := by decide +kernel
theorem d_Mod_mayStart_90 : decode b_Mod_mayStart 90 = .ok (.iload_n 2, 1) := by decide +kernel
theorem d_Mod_mayStart_91 : decode b_Mod_mayStart 91 = .ok (.iload 7, 2) := by decide +kernel
theorem d_Mod_mayStart_93 : decode b_Mod_mayStart 93 = .ok (.ifCond .eq 23, 3) := by decide +kernel
theorem d_Mod_mayStart_96 : decode b_Mod_mayStart 96 = .ok (.aload_n 0, 1) := by decide +kernel
theorem d_Mod_mayStart_97 : decode b_Mod_mayStart 97 = .ok (.getfield 35, 3) := by decide +kernel
theorem d_Mod_mayStart_100 : decode b_Mod_mayStart 100 = .ok (.iload 6, 2) := by decide +kernel
theorem d_Mod_mayStart_102 : decode b_Mod_mayStart 102 = .ok (.iaload, 1) := by decide +kernel
theorem d_Mod_mayStart_103 : decode b_Mod_mayStart 103 = .ok (.aload_n 0, 1) := by decide +kernel
theorem d_Mod_mayStart_104 : decode b_Mod_mayStart 104 = .ok (.getfield 35, 3) := by decide +kernel
theorem d_Mod_mayStart_107 : decode b_Mod_mayStart 107 = .ok (.iload_n 1, 1) := by decide +kernel
theorem d_Mod_mayStart_108 : decode b_Mod_mayStart 108 = .ok (.iaload, 1) := by decide +kernel
theorem d_Mod_mayStart_109 : decode b_Mod_mayStart 109 = .ok (.if_icmp .ne 7, 3) := by decide +kernel
theorem d_Mod_mayStart_112 : decode b_Mod_mayStart 112 = .ok (.iconst 1, 1) := by decide +kernel
theorem d_Mod_mayStart_113 : decode b_Mod_mayStart 113 = .ok (.goto 4, 3) := by decide +kernel
theorem d_Mod_mayStart_116 : decode b_Mod_mayStart 116 = .ok (.iconst 0, 1) := by decide +kernel
theorem d_Mod_mayStart_117 : decode b_Mod_mayStart 117 = .ok (.iadd, 1) := by decide +kernel
theorem d_Mod_mayStart_118 : decode b_Mod_mayStart 118 = .ok (.istore_n 2, 1) := by decide +kernel
theorem d_Mod_mayStart_119 : decode b_Mod_mayStart 119 = .ok (.iload_n 3, 1) := by decide +kernel
theorem d_Mod_mayStart_120 : decode b_Mod_mayStart 120 = .ok (.ifCond .eq 38, 3) := by decide +kernel
theorem d_Mod_mayStart_123 : decode b_Mod_mayStart 123 = .ok (.iload 7, 2) := by decide +kernel
theorem d_Mod_mayStart_125 : decode b_Mod_mayStart 125 = .ok (.ifCond .eq 29, 3) := by decide +kernel
theorem d_Mod_mayStart_128 : decode b_Mod_mayStart 128 = .ok (.aload_n 0, 1) := by decide +kernel
theorem d_Mod_mayStart_129 : decode b_Mod_mayStart 129 = .ok (.getfield 41, 3) := by decide +kernel
theorem d_Mod_mayStart_132 : decode b_Mod_mayStart 132 = .ok (.iload 6, 2) := by decide +kernel
theorem d_Mod_mayStart_134 : decode b_Mod_mayStart 134 = .ok (.iaload, 1) := by decide +kernel
theorem d_Mod_mayStart_135 : decode b_Mod_mayStart 135 = .ok (.aload_n 0, 1) := by decide +kernel
theorem d_Mod_mayStart_136 : decode b_Mod_mayStart 136 = .ok (.getfield 41, 3) := by decide +kernel
theorem d_Mod_mayStart_139 : decode b_Mod_mayStart 139 = .ok (.iload_n 1, 1) := by decide +kernel
theorem d_Mod_mayStart_140 : decode b_Mod_mayStart 140 = .ok (.iaload, 1) := by decide +kernel
theorem d_Mod_mayStart_141 : decode b_Mod_mayStart 141 = .ok (.if_icmp .eq 17, 3) := by decide +kernel
theorem d_Mod_mayStart_144 : decode b_Mod_mayStart 144 = .ok (.aload_n 0, 1) := by decide +kernel
theorem d_Mod_mayStart_145 : decode b_Mod_mayStart 145 = .ok (.getfield 53, 3) := by decide +kernel
theorem d_Mod_mayStart_148 : decode b_Mod_mayStart 148 = .ok (.iload 6, 2) := by decide +kernel
theorem d_Mod_mayStart_150 : decode b_Mod_mayStart 150 = .ok (.baload, 1) := by decide +kernel
theorem d_Mod_mayStart_151 : decode b_Mod_mayStart 151 = .ok (.ifCond .ne 7, 3) := by decide +kernel
theorem d_Mod_mayStart_154 : decode b_Mod_mayStart 154 = .ok (.iconst 1, 1) := by decide +kernel
theorem d_Mod_mayStart_155 : decode b_Mod_mayStart 155 = .ok (.goto 4, 3) := by decide +kernel
theorem d_Mod_mayStart_158 : decode b_Mod_mayStart 158 = .ok (.iconst 0, 1) := by decide +kernel
theorem d_Mod_mayStart_159 : decode b_Mod_mayStart 159 = .ok (.istore_n 3, 1) := by decide +kernel
theorem d_Mod_mayStart_160 : decode b_Mod_mayStart 160 = .ok (.iload 5, 2) := by decide +kernel
theorem d_Mod_mayStart_162 : decode b_Mod_mayStart 162 = .ok (.ifCond .ne 29, 3) := by decide +kernel
theorem d_Mod_mayStart_165 : decode b_Mod_mayStart 165 = .ok (.aload_n 0, 1) := by decide +kernel
theorem d_Mod_mayStart_166 : decode b_Mod_mayStart 166 = .ok (.getfield 56, 3) := by decide +kernel
theorem d_Mod_mayStart_169 : decode b_Mod_mayStart 169 = .ok (.bipush 100, 2) := by decide +kernel
theorem d_Mod_mayStart_171 : decode b_Mod_mayStart 171 = .ok (.iload_n 1, 1) := by decide +kernel
theorem d_Mod_mayStart_172 : decode b_Mod_mayStart 172 = .ok (.imul, 1) := by decide +kernel
theorem d_Mod_mayStart_173 : decode b_Mod_mayStart 173 = .ok (.iload 6, 2) := by decide +kernel
theorem d_Mod_mayStart_175 : decode b_Mod_mayStart 175 = .ok (.iadd, 1) := by decide +kernel
theorem d_Mod_mayStart_176 : decode b_Mod_mayStart 176 = .ok (.baload, 1) := by decide +kernel
theorem d_Mod_mayStart_177 : decode b_Mod_mayStart 177 = .ok (.ifCond .eq 18, 3) := by decide +kernel
theorem d_Mod_mayStart_180 : decode b_Mod_mayStart 180 = .ok (.aload_n 0, 1) := by decide +kernel
theorem d_Mod_mayStart_181 : decode b_Mod_mayStart 181 = .ok (.getfield 44, 3) := by decide +kernel
theorem d_Mod_mayStart_184 : decode b_Mod_mayStart 184 = .ok (.iload 6, 2) := by decide +kernel
theorem d_Mod_mayStart_186 : decode b_Mod_mayStart 186 = .ok (.iaload, 1) := by decide +kernel
theorem d_Mod_mayStart_187 : decode b_Mod_mayStart 187 = .ok (.iconst 3, 1) := by decide +kernel
theorem d_Mod_mayStart_188 : decode b_Mod_mayStart 188 = .ok (.if_icmp .eq 7, 3) := by decide +kernel
theorem d_Mod_mayStart_191 : decode b_Mod_mayStart 191 = .ok (.iconst 1, 1) := by decide +kernel
theorem d_Mod_mayStart_192 : decode b_Mod_mayStart 192 = .ok (.goto 4, 3) := by decide +kernel
theorem d_Mod_mayStart_195 : decode b_Mod_mayStart 195 = .ok (.iconst 0, 1) := by decide +kernel
theorem d_Mod_mayStart_196 : decode b_Mod_mayStart 196 = .ok (.istore 5, 2) := by decide +kernel
theorem d_Mod_mayStart_198 : decode b_Mod_mayStart 198 = .ok (.iinc 6 1, 3) := by decide +kernel
theorem d_Mod_mayStart_201 : decode b_Mod_mayStart 201 = .ok (.goto (-155), 3) := by decide +kernel
theorem d_Mod_mayStart_204 : decode b_Mod_mayStart 204 = .ok (.iconst 1, 1) := by decide +kernel
theorem d_Mod_mayStart_205 : decode b_Mod_mayStart 205 = .ok (.istore 6, 2) := by decide +kernel
theorem d_Mod_mayStart_207 : decode b_Mod_mayStart 207 = .ok (.iconst 0, 1) := by decide +kernel
theorem d_Mod_mayStart_208 : decode b_Mod_mayStart 208 = .ok (.istore 7, 2) := by decide +kernel
theorem d_Mod_mayStart_210 : decode b_Mod_mayStart 210 = .ok (.iload 7, 2) := by decide +kernel
theorem d_Mod_mayStart_212 : decode b_Mod_mayStart 212 = .ok (.iconst 4, 1) := by decide +kernel
theorem d_Mod_mayStart_213 : decode b_Mod_mayStart 213 = .ok (.if_icmp .ge 49, 3) := by decide +kernel
theorem d_Mod_mayStart_216 : decode b_Mod_mayStart 216 = .ok (.iload 6, 2) := by decide +kernel
theorem d_Mod_mayStart_218 : decode b_Mod_mayStart 218 = .ok (.ifCond .eq 35, 3) := by decide +kernel
theorem d_Mod_mayStart_221 : decode b_Mod_mayStart 221 = .ok (.aload_n 0, 1) := by decide +kernel
theorem d_Mod_mayStart_222 : decode b_Mod_mayStart 222 = .ok (.getfield 47, 3) := by decide +kernel
theorem d_Mod_mayStart_225 : decode b_Mod_mayStart 225 = .ok (.iconst 4, 1) := by decide +kernel
theorem d_Mod_mayStart_226 : decode b_Mod_mayStart 226 = .ok (.iload_n 1, 1) := by decide +kernel
theorem d_Mod_mayStart_227 : decode b_Mod_mayStart 227 = .ok (.imul, 1) := by decide +kernel
theorem d_Mod_mayStart_228 : decode b_Mod_mayStart 228 = .ok (.iload 7, 2) := by decide +kernel
theorem d_Mod_mayStart_230 : decode b_Mod_mayStart 230 = .ok (.iadd, 1) := by decide +kernel
theorem d_Mod_mayStart_231 : decode b_Mod_mayStart 231 = .ok (.iaload, 1) := by decide +kernel
theorem d_Mod_mayStart_232 : decode b_Mod_mayStart 232 = .ok (.aload_n 0, 1) := by decide +kernel
theorem d_Mod_mayStart_233 : decode b_Mod_mayStart 233 = .ok (.iload 7, 2) := by decide +kernel
theorem d_Mod_mayStart_235 : decode b_Mod_mayStart 235 = .ok (.invokevirtual 105, 3) := by decide +kernel
theorem d_Mod_mayStart_238 : decode b_Mod_mayStart 238 = .ok (.iadd, 1) := by decide +kernel
theorem d_Mod_mayStart_239 : decode b_Mod_mayStart 239 = .ok (.aload_n 0, 1) := by decide +kernel
theorem d_Mod_mayStart_240 : decode b_Mod_mayStart 240 = .ok (.getfield 32, 3) := by decide +kernel
theorem d_Mod_mayStart_243 : decode b_Mod_mayStart 243 = .ok (.iload 7, 2) := by decide +kernel
theorem d_Mod_mayStart_245 : decode b_Mod_mayStart 245 = .ok (.iaload, 1) := by decide +kernel
