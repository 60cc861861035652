theorem d_Rows_stopJob_48 : decode b_Rows_stopJob 48 = .ok (.iconst 3, 1) := by decide +kernel
theorem d_Rows_stopJob_49 : decode b_Rows_stopJob 49 = .ok (.putfield 119, 3) := by decide +kernel
theorem d_Rows_stopJob_52 : decode b_Rows_stopJob 52 = .ok (.aload_n 0, 1) := by decide +kernel
theorem d_Rows_stopJob_53 : decode b_Rows_stopJob 53 = .ok (.getfield 45, 3) := by decide +kernel
theorem d_Rows_stopJob_56 : decode b_Rows_stopJob 56 = .ok (.aload_n 1, 1) := by decide +kernel
theorem d_Rows_stopJob_57 : decode b_Rows_stopJob 57 = .ok (.getfield 136, 3) := by decide +kernel
theorem d_Rows_stopJob_60 : decode b_Rows_stopJob 60 = .ok (.invokevirtual 183, 3) := by decide +kernel
theorem d_Rows_stopJob_63 : decode b_Rows_stopJob 63 = .ok (.aload_n 0, 1) := by decide +kernel
theorem d_Rows_stopJob_64 : decode b_Rows_stopJob 64 = .ok (.getfield 38, 3) := by decide +kernel
theorem d_Rows_stopJob_67 : decode b_Rows_stopJob 67 = .ok (.aload_n 1, 1) := by decide +kernel
theorem d_Rows_stopJob_68 : decode b_Rows_stopJob 68 = .ok (.invokevirtual 238, 3) := by decide +kernel
theorem d_Rows_stopJob_71 : decode b_Rows_stopJob 71 = .ok (.return_, 1) := by decide +kernel
theorem d_Rows_end_0 : decode b_Rows_end 0 = .ok (.aload_n 0, 1) := by decide +kernel
theorem d_Rows_end_1 : decode b_Rows_end 1 = .ok (.iload_n 1, 1) := by decide +kernel
theorem d_Rows_end_2 : decode b_Rows_end 2 = .ok (.invokevirtual 91, 3) := by decide +kernel
theorem d_Rows_end_5 : decode b_Rows_end 5 = .ok (.astore_n 2, 1) := by decide +kernel
theorem d_Rows_end_6 : decode b_Rows_end 6 = .ok (.aload_n 2, 1) := by decide +kernel
theorem d_Rows_end_7 : decode b_Rows_end 7 = .ok (.ifnonnull 6, 3) := by decide +kernel
theorem d_Rows_end_10 : decode b_Rows_end 10 = .ok (.bipush (-2), 2) := by decide +kernel
theorem d_Rows_end_12 : decode b_Rows_end 12 = .ok (.ireturn, 1) := by decide +kernel
theorem d_Rows_end_13 : decode b_Rows_end 13 = .ok (.aload_n 2, 1) := by decide +kernel
theorem d_Rows_end_14 : decode b_Rows_end 14 = .ok (.getfield 119, 3) := by decide +kernel
theorem d_Rows_end_17 : decode b_Rows_end 17 = .ok (.iconst 2, 1) := by decide +kernel
theorem d_Rows_end_18 : decode b_Rows_end 18 = .ok (.if_icmp .eq 6, 3) := by decide +kernel
theorem d_Rows_end_21 : decode b_Rows_end 21 = .ok (.bipush (-5), 2) := by decide +kernel
theorem d_Rows_end_23 : decode b_Rows_end 23 = .ok (.ireturn, 1) := by decide +kernel
theorem d_Rows_end_24 : decode b_Rows_end 24 = .ok (.aload_n 0, 1) := by decide +kernel
theorem d_Rows_end_25 : decode b_Rows_end 25 = .ok (.aload_n 2, 1) := by decide +kernel
theorem d_Rows_end_26 : decode b_Rows_end 26 = .ok (.invokevirtual 139, 3) := by decide +kernel
theorem d_Rows_end_29 : decode b_Rows_end 29 = .ok (.iconst 1, 1) := by decide +kernel
theorem d_Rows_end_30 : decode b_Rows_end 30 = .ok (.ireturn, 1) := by decide +kernel
theorem d_Rows_age_0 : decode b_Rows_age 0 = .ok (.lload_n 1, 1) := by decide +kernel
theorem d_Rows_age_1 : decode b_Rows_age 1 = .ok (.lconst 0, 1) := by decide +kernel
theorem d_Rows_age_2 : decode b_Rows_age 2 = .ok (.lcmp, 1) := by decide +kernel
theorem d_Rows_age_3 : decode b_Rows_age 3 = .ok (.ifCond .lt 13, 3) := by decide +kernel
theorem d_Rows_age_6 : decode b_Rows_age 6 = .ok (.iload_n 3, 1) := by decide +kernel
theorem d_Rows_age_7 : decode b_Rows_age 7 = .ok (.iconst 0, 1) := by decide +kernel
theorem d_Rows_age_8 : decode b_Rows_age 8 = .ok (.bipush 15, 2) := by decide +kernel
theorem d_Rows_age_10 : decode b_Rows_age 10 = .ok (.invokestatic 75, 3) := by decide +kernel
theorem d_Rows_age_13 : decode b_Rows_age 13 = .ok (.ifCond .ne 6, 3) := by decide +kernel
theorem d_Rows_age_16 : decode b_Rows_age 16 = .ok (.bipush (-4), 2) := by decide +kernel
theorem d_Rows_age_18 : decode b_Rows_age 18 = .ok (.ireturn, 1) := by decide +kernel
theorem d_Rows_age_19 : decode b_Rows_age 19 = .ok (.aload_n 0, 1) := by decide +kernel
theorem d_Rows_age_20 : decode b_Rows_age 20 = .ok (.lload_n 1, 1) := by decide +kernel
theorem d_Rows_age_21 : decode b_Rows_age 21 = .ok (.putfield 53, 3) := by decide +kernel
theorem d_Rows_age_24 : decode b_Rows_age 24 = .ok (.aload_n 0, 1) := by decide +kernel
theorem d_Rows_age_25 : decode b_Rows_age 25 = .ok (.iload_n 3, 1) := by decide +kernel
theorem d_Rows_age_26 : decode b_Rows_age 26 = .ok (.putfield 56, 3) := by decide +kernel
theorem d_Rows_age_29 : decode b_Rows_age 29 = .ok (.iconst 1, 1) := by decide +kernel
theorem d_Rows_age_30 : decode b_Rows_age 30 = .ok (.ireturn, 1) := by decide +kernel
theorem d_Rows_drain_0 : decode b_Rows_drain 0 = .ok (.aload_n 0, 1) := by decide +kernel
theorem d_Rows_drain_1 : decode b_Rows_drain 1 = .ok (.iload_n 1, 1) := by decide +kernel
theorem d_Rows_drain_2 : decode b_Rows_drain 2 = .ok (.invokevirtual 71, 3) := by decide +kernel
theorem d_Rows_drain_5 : decode b_Rows_drain 5 = .ok (.astore_n 3, 1) := by decide +kernel
theorem d_Rows_drain_6 : decode b_Rows_drain 6 = .ok (.aload_n 3, 1) := by decide +kernel
theorem d_Rows_drain_7 : decode b_Rows_drain 7 = .ok (.ifnonnull 6, 3) := by decide +kernel
theorem d_Rows_drain_10 : decode b_Rows_drain 10 = .ok (.bipush (-2), 2) := by decide +kernel
theorem d_Rows_drain_12 : decode b_Rows_drain 12 = .ok (.ireturn, 1) := by decide +kernel
theorem d_Rows_drain_13 : decode b_Rows_drain 13 = .ok (.aload_n 3, 1) := by decide +kernel
theorem d_Rows_drain_14 : decode b_Rows_drain 14 = .ok (.getfield 122, 3) := by decide +kernel
theorem d_Rows_drain_17 : decode b_Rows_drain 17 = .ok (.iload_n 2, 1) := by decide +kernel
theorem d_Rows_drain_18 : decode b_Rows_drain 18 = .ok (.if_icmp .ne 5, 3) := by decide +kernel
theorem d_Rows_drain_21 : decode b_Rows_drain 21 = .ok (.iconst 0, 1) := by decide +kernel
theorem d_Rows_drain_22 : decode b_Rows_drain 22 = .ok (.ireturn, 1) := by decide +kernel
theorem d_Rows_drain_23 : decode b_Rows_drain 23 = .ok (.aload_n 3, 1) := by decide +kernel
theorem d_Rows_drain_24 : decode b_Rows_drain 24 = .ok (.iload_n 2, 1) := by decide +kernel
theorem d_Rows_drain_25 : decode b_Rows_drain 25 = .ok (.putfield 122, 3) := by decide +kernel
theorem d_Rows_drain_28 : decode b_Rows_drain 28 = .ok (.iconst 1, 1) := by decide +kernel
theorem d_Rows_drain_29 : decode b_Rows_drain 29 = .ok (.ireturn, 1) := by decide +kernel
theorem d_Rows_weight_0 : decode b_Rows_weight 0 = .ok (.iload_n 1, 1) := by decide +kernel
theorem d_Rows_weight_1 : decode b_Rows_weight 1 = .ok (.invokestatic 79, 3) := by decide +kernel
theorem d_Rows_weight_4 : decode b_Rows_weight 4 = .ok (.ifCond .eq 14, 3) := by decide +kernel
theorem d_Rows_weight_7 : decode b_Rows_weight 7 = .ok (.iload_n 2, 1) := by decide +kernel
theorem d_Rows_weight_8 : decode b_Rows_weight 8 = .ok (.iconst 0, 1) := by decide +kernel
theorem d_Rows_weight_9 : decode b_Rows_weight 9 = .ok (.sipush 1000, 3) := by decide +kernel
theorem d_Rows_weight_12 : decode b_Rows_weight 12 = .ok (.invokestatic 75, 3) := by decide +kernel
theorem d_Rows_weight_15 : decode b_Rows_weight 15 = .ok (.ifCond .ne 6, 3) := by decide +kernel
theorem d_Rows_weight_18 : decode b_Rows_weight 18 = .ok (.bipush (-4), 2) := by decide +kernel
theorem d_Rows_weight_20 : decode b_Rows_weight 20 = .ok (.ireturn, 1) := by decide +kernel
theorem d_Rows_weight_21 : decode b_Rows_weight 21 = .ok (.aload_n 0, 1) := by decide +kernel
theorem d_Rows_weight_22 : decode b_Rows_weight 22 = .ok (.getfield 29, 3) := by decide +kernel
theorem d_Rows_weight_25 : decode b_Rows_weight 25 = .ok (.iload_n 1, 1) := by decide +kernel
theorem d_Rows_weight_26 : decode b_Rows_weight 26 = .ok (.iload_n 2, 1) := by decide +kernel
theorem d_Rows_weight_27 : decode b_Rows_weight 27 = .ok (.iastore, 1) := by decide +kernel
theorem d_Rows_weight_28 : decode b_Rows_weight 28 = .ok (.iconst 1, 1) := by decide +kernel
theorem d_Rows_weight_29 : decode b_Rows_weight 29 = .ok (.ireturn, 1) := by decide +kernel
theorem d_Rows_sumOfWeights_0 : decode b_Rows_sumOfWeights 0 = .ok (.lconst 0, 1) := by decide +kernel
theorem d_Rows_sumOfWeights_1 : decode b_Rows_sumOfWeights 1 = .ok (.lstore_n 1, 1) := by decide +kernel
theorem d_Rows_sumOfWeights_2 : decode b_Rows_sumOfWeights 2 = .ok (.iconst 0, 1) := by decide +kernel
theorem d_Rows_sumOfWeights_3 : decode b_Rows_sumOfWeights 3 = .ok (.istore_n 3, 1) := by decide +kernel
theorem d_Rows_sumOfWeights_4 : decode b_Rows_sumOfWeights 4 = .ok (.iload_n 3, 1) := by decide +kernel
theorem d_Rows_sumOfWeights_5 : decode b_Rows_sumOfWeights 5 = .ok (.aload_n 0, 1) := by decide +kernel
theorem d_Rows_sumOfWeights_6 : decode b_Rows_sumOfWeights 6 = .ok (.getfield 29, 3) := by decide +kernel
theorem d_Rows_sumOfWeights_9 : decode b_Rows_sumOfWeights 9 = .ok (.arraylength, 1) := by decide +kernel
theorem d_Rows_sumOfWeights_10 : decode b_Rows_sumOfWeights 10 = .ok (.if_icmp .ge 19, 3) := by decide +kernel
theorem d_Rows_sumOfWeights_13 : decode b_Rows_sumOfWeights 13 = .ok (.lload_n 1, 1) := by decide +kernel
theorem d_Rows_sumOfWeights_14 : decode b_Rows_sumOfWeights 14 = .ok (.aload_n 0, 1) := by decide +kernel
theorem d_Rows_sumOfWeights_15 : decode b_Rows_sumOfWeights 15 = .ok (.getfield 29, 3) := by decide +kernel
theorem d_Rows_sumOfWeights_18 : decode b_Rows_sumOfWeights 18 = .ok (.iload_n 3, 1) := by decide +kernel
theorem d_Rows_sumOfWeights_19 : decode b_Rows_sumOfWeights 19 = .ok (.iaload, 1) := by decide +kernel
theorem d_Rows_sumOfWeights_20 : decode b_Rows_sumOfWeights 20 = .ok (.i2l, 1) := by decide +kernel
theorem d_Rows_sumOfWeights_21 : decode b_Rows_sumOfWeights 21 = .ok (.ladd, 1) := by decide +kernel
theorem d_Rows_sumOfWeights_22 : decode b_Rows_sumOfWeights 22 = .ok (.lstore_n 1, 1) := by decide +kernel
theorem d_Rows_sumOfWeights_23 : decode b_Rows_sumOfWeights 23 = .ok (.iinc 3 1, 3) := by decide +kernel
theorem d_Rows_sumOfWeights_26 : decode b_Rows_sumOfWeights 26 = .ok (.goto (-22), 3) := by decide +kernel
theorem d_Rows_sumOfWeights_29 : decode b_Rows_sumOfWeights 29 = .ok (.lload_n 1, 1) := by decide +kernel
theorem d_Rows_sumOfWeights_30 : decode b_Rows_sumOfWeights 30 = .ok (.lreturn, 1) := by decide +kernel
theorem d_Rows_share_0 : decode b_Rows_share 0 = .ok (.iload_n 1, 1) := by decide +kernel
theorem d_Rows_share_1 : decode b_Rows_share 1 = .ok (.invokestatic 79, 3) := by decide +kernel
theorem d_Rows_share_4 : decode b_Rows_share 4 = .ok (.ifCond .eq 9, 3) := by decide +kernel
theorem d_Rows_share_7 : decode b_Rows_share 7 = .ok (.lload_n 2, 1) := by decide +kernel
theorem d_Rows_share_8 : decode b_Rows_share 8 = .ok (.lconst 0, 1) := by decide +kernel
theorem d_Rows_share_9 : decode b_Rows_share 9 = .ok (.lcmp, 1) := by decide +kernel
theorem d_Rows_share_10 : decode b_Rows_share 10 = .ok (.ifCond .ge 7, 3) := by decide +kernel
theorem d_Rows_share_13 : decode b_Rows_share 13 = .ok (.ldc2_w 143, 3) := by decide +kernel
theorem d_Rows_share_16 : decode b_Rows_share 16 = .ok (.lreturn, 1) := by decide +kernel
theorem d_Rows_share_17 : decode b_Rows_share 17 = .ok (.aload_n 0, 1) := by decide +kernel
theorem d_Rows_share_18 : decode b_Rows_share 18 = .ok (.invokevirtual 145, 3) := by decide +kernel
theorem d_Rows_share_21 : decode b_Rows_share 21 = .ok (.lstore 4, 2) := by decide +kernel
theorem d_Rows_share_23 : decode b_Rows_share 23 = .ok (.lload 4, 2) := by decide +kernel
theorem d_Rows_share_25 : decode b_Rows_share 25 = .ok (.lconst 0, 1) := by decide +kernel
theorem d_Rows_share_26 : decode b_Rows_share 26 = .ok (.lcmp, 1) := by decide +kernel
theorem d_Rows_share_27 : decode b_Rows_share 27 = .ok (.ifCond .gt 13, 3) := by decide +kernel
theorem d_Rows_share_40 : decode b_Rows_share 40 = .ok (.lload_n 2, 1) := by decide +kernel
theorem d_Rows_share_41 : decode b_Rows_share 41 = .ok (.lload 4, 2) := by decide +kernel
theorem d_Rows_share_43 : decode b_Rows_share 43 = .ok (.lrem, 1) := by decide +kernel
theorem d_Rows_share_44 : decode b_Rows_share 44 = .ok (.lstore 6, 2) := by decide +kernel
theorem d_Rows_share_46 : decode b_Rows_share 46 = .ok (.lload 6, 2) := by decide +kernel
theorem d_Rows_share_48 : decode b_Rows_share 48 = .ok (.aload_n 0, 1) := by decide +kernel
theorem d_Rows_share_49 : decode b_Rows_share 49 = .ok (.getfield 29, 3) := by decide +kernel
theorem d_Rows_share_52 : decode b_Rows_share 52 = .ok (.iload_n 1, 1) := by decide +kernel
theorem d_Rows_share_53 : decode b_Rows_share 53 = .ok (.iaload, 1) := by decide +kernel
theorem d_Rows_share_54 : decode b_Rows_share 54 = .ok (.i2l, 1) := by decide +kernel
theorem d_Rows_share_55 : decode b_Rows_share 55 = .ok (.lmul, 1) := by decide +kernel
theorem d_Rows_share_56 : decode b_Rows_share 56 = .ok (.lload 4, 2) := by decide +kernel
theorem d_Rows_share_58 : decode b_Rows_share 58 = .ok (.lrem, 1) := by decide +kernel
theorem d_Rows_share_59 : decode b_Rows_share 59 = .ok (.lstore 8, 2) := by decide +kernel
theorem d_Rows_share_61 : decode b_Rows_share 61 = .ok (.lconst 0, 1) := by decide +kernel
theorem d_Rows_share_62 : decode b_Rows_share 62 = .ok (.lstore 10, 2) := by decide +kernel
theorem d_Rows_share_64 : decode b_Rows_share 64 = .ok (.iconst 0, 1) := by decide +kernel
theorem d_Rows_share_65 : decode b_Rows_share 65 = .ok (.istore 12, 2) := by decide +kernel
theorem d_Rows_share_67 : decode b_Rows_share 67 = .ok (.iconst 0, 1) := by decide +kernel
theorem d_Rows_share_68 : decode b_Rows_share 68 = .ok (.istore 13, 2) := by decide +kernel
theorem d_Rows_share_70 : decode b_Rows_share 70 = .ok (.iload 13, 2) := by decide +kernel
theorem d_Rows_share_72 : decode b_Rows_share 72 = .ok (.aload_n 0, 1) := by decide +kernel
theorem d_Rows_share_73 : decode b_Rows_share 73 = .ok (.getfield 29, 3) := by decide +kernel
theorem d_Rows_share_76 : decode b_Rows_share 76 = .ok (.arraylength, 1) := by decide +kernel
theorem d_Rows_share_77 : decode b_Rows_share 77 = .ok (.if_icmp .ge 57, 3) := by decide +kernel
theorem d_Rows_share_80 : decode b_Rows_share 80 = .ok (.lload 6, 2) := by decide +kernel
theorem d_Rows_share_82 : decode b_Rows_share 82 = .ok (.aload_n 0, 1) := by decide +kernel
theorem d_Rows_share_83 : decode b_Rows_share 83 = .ok (.getfield 29, 3) := by decide +kernel
theorem d_Rows_share_86 : decode b_Rows_share 86 = .ok (.iload 13, 2) := by decide +kernel
theorem d_Rows_share_88 : decode b_Rows_share 88 = .ok (.iaload, 1) := by decide +kernel
theorem d_Rows_share_89 : decode b_Rows_share 89 = .ok (.i2l, 1) := by decide +kernel
theorem d_Rows_share_90 : decode b_Rows_share 90 = .ok (.lmul, 1) := by decide +kernel
theorem d_Rows_share_91 : decode b_Rows_share 91 = .ok (.lload 4, 2) := by decide +kernel
theorem d_Rows_share_93 : decode b_Rows_share 93 = .ok (.lrem, 1) := by decide +kernel
theorem d_Rows_share_94 : decode b_Rows_share 94 = .ok (.lstore 14, 2) := by decide +kernel
theorem d_Rows_share_96 : decode b_Rows_share 96 = .ok (.lload 10, 2) := by decide +kernel
theorem d_Rows_share_98 : decode b_Rows_share 98 = .ok (.lload 14, 2) := by decide +kernel
theorem d_Rows_share_100 : decode b_Rows_share 100 = .ok (.ladd, 1) := by decide +kernel
theorem d_Rows_share_101 : decode b_Rows_share 101 = .ok (.lstore 10, 2) := by decide +kernel
theorem d_Rows_share_103 : decode b_Rows_share 103 = .ok (.lload 14, 2) := by decide +kernel
theorem d_Rows_share_105 : decode b_Rows_share 105 = .ok (.lload 8, 2) := by decide +kernel
theorem d_Rows_share_107 : decode b_Rows_share 107 = .ok (.lcmp, 1) := by decide +kernel
theorem d_Rows_share_108 : decode b_Rows_share 108 = .ok (.ifCond .gt 17, 3) := by decide +kernel
theorem d_Rows_share_111 : decode b_Rows_share 111 = .ok (.lload 14, 2) := by decide +kernel
theorem d_Rows_share_113 : decode b_Rows_share 113 = .ok (.lload 8, 2) := by decide +kernel
theorem d_Rows_share_115 : decode b_Rows_share 115 = .ok (.lcmp, 1) := by decide +kernel
theorem d_Rows_share_116 : decode b_Rows_share 116 = .ok (.ifCond .ne 12, 3) := by decide +kernel
theorem d_Rows_share_119 : decode b_Rows_share 119 = .ok (.iload 13, 2) := by decide +kernel
theorem d_Rows_share_121 : decode b_Rows_share 121 = .ok (.iload_n 1, 1) := by decide +kernel
theorem d_Rows_share_122 : decode b_Rows_share 122 = .ok (.if_icmp .ge 6, 3) := by decide +kernel
theorem d_Rows_share_125 : decode b_Rows_share 125 = .ok (.iinc 12 1, 3) := by decide +kernel
theorem d_Rows_share_128 : decode b_Rows_share 128 = .ok (.iinc 13 1, 3) := by decide +kernel
theorem d_Rows_share_131 : decode b_Rows_share 131 = .ok (.goto (-61), 3) := by decide +kernel
theorem d_Rows_share_134 : decode b_Rows_share 134 = .ok (.lload 10, 2) := by decide +kernel
theorem d_Rows_share_136 : decode b_Rows_share 136 = .ok (.lload 4, 2) := by decide +kernel
theorem d_Rows_share_138 : decode b_Rows_share 138 = .ok (.ldiv, 1) := by decide +kernel
theorem d_Rows_share_139 : decode b_Rows_share 139 = .ok (.lstore 13, 2) := by decide +kernel
theorem d_Rows_share_141 : decode b_Rows_share 141 = .ok (.lload_n 2, 1) := by decide +kernel
theorem d_Rows_share_142 : decode b_Rows_share 142 = .ok (.lload 4, 2) := by decide +kernel
theorem d_Rows_share_144 : decode b_Rows_share 144 = .ok (.ldiv, 1) := by decide +kernel
theorem d_Rows_share_145 : decode b_Rows_share 145 = .ok (.aload_n 0, 1) := by decide +kernel
theorem d_Rows_share_146 : decode b_Rows_share 146 = .ok (.getfield 29, 3) := by decide +kernel
theorem d_Rows_share_149 : decode b_Rows_share 149 = .ok (.iload_n 1, 1) := by decide +kernel
theorem d_Rows_share_150 : decode b_Rows_share 150 = .ok (.iaload, 1) := by decide +kernel
theorem d_Rows_share_151 : decode b_Rows_share 151 = .ok (.i2l, 1) := by decide +kernel
theorem d_Rows_share_152 : decode b_Rows_share 152 = .ok (.lmul, 1) := by decide +kernel
theorem d_Rows_share_153 : decode b_Rows_share 153 = .ok (.lload 6, 2) := by decide +kernel
theorem d_Rows_share_155 : decode b_Rows_share 155 = .ok (.aload_n 0, 1) := by decide +kernel
theorem d_Rows_share_156 : decode b_Rows_share 156 = .ok (.getfield 29, 3) := by decide +kernel
theorem d_Rows_share_159 : decode b_Rows_share 159 = .ok (.iload_n 1, 1) := by decide +kernel
theorem d_Rows_share_160 : decode b_Rows_share 160 = .ok (.iaload, 1) := by decide +kernel
theorem d_Rows_share_161 : decode b_Rows_share 161 = .ok (.i2l, 1) := by decide +kernel
theorem d_Rows_share_162 : decode b_Rows_share 162 = .ok (.lmul, 1) := by decide +kernel
theorem d_Rows_share_163 : decode b_Rows_share 163 = .ok (.lload 4, 2) := by decide +kernel
theorem d_Rows_share_165 : decode b_Rows_share 165 = .ok (.ldiv, 1) := by decide +kernel
theorem d_Rows_share_166 : decode b_Rows_share 166 = .ok (.ladd, 1) := by decide +kernel
theorem d_Rows_share_167 : decode b_Rows_share 167 = .ok (.lstore 15, 2) := by decide +kernel
theorem d_Rows_share_169 : decode b_Rows_share 169 = .ok (.iload 12, 2) := by decide +kernel
theorem d_Rows_share_171 : decode b_Rows_share 171 = .ok (.i2l, 1) := by decide +kernel
theorem d_Rows_share_172 : decode b_Rows_share 172 = .ok (.lload 13, 2) := by decide +kernel
theorem d_Rows_share_174 : decode b_Rows_share 174 = .ok (.lcmp, 1) := by decide +kernel
theorem d_Rows_share_175 : decode b_Rows_share 175 = .ok (.ifCond .ge 10, 3) := by decide +kernel
theorem d_Rows_share_178 : decode b_Rows_share 178 = .ok (.lload 15, 2) := by decide +kernel
theorem d_Rows_share_180 : decode b_Rows_share 180 = .ok (.lconst 1, 1) := by decide +kernel
theorem d_Rows_share_181 : decode b_Rows_share 181 = .ok (.ladd, 1) := by decide +kernel
theorem d_Rows_share_182 : decode b_Rows_share 182 = .ok (.goto 5, 3) := by decide +kernel
theorem d_Rows_share_185 : decode b_Rows_share 185 = .ok (.lload 15, 2) := by decide +kernel
theorem d_Rows_share_187 : decode b_Rows_share 187 = .ok (.lreturn, 1) := by decide +kernel
theorem d_Rows_order_0 : decode b_Rows_order 0 = .ok (.iload_n 1, 1) := by decide +kernel
theorem d_Rows_order_1 : decode b_Rows_order 1 = .ok (.ifCond .ge 5, 3) := by decide +kernel
theorem d_Rows_order_4 : decode b_Rows_order 4 = .ok (.iconst (-1), 1) := by decide +kernel
theorem d_Rows_order_5 : decode b_Rows_order 5 = .ok (.ireturn, 1) := by decide +kernel
theorem d_Rows_order_6 : decode b_Rows_order 6 = .ok (.iload_n 1, 1) := by decide +kernel
theorem d_Rows_order_7 : decode b_Rows_order 7 = .ok (.istore_n 2, 1) := by decide +kernel
theorem d_Rows_order_8 : decode b_Rows_order 8 = .ok (.bipush 15, 2) := by decide +kernel
theorem d_Rows_order_10 : decode b_Rows_order 10 = .ok (.istore_n 3, 1) := by decide +kernel
theorem d_Rows_order_11 : decode b_Rows_order 11 = .ok (.iload_n 3, 1) := by decide +kernel
theorem d_Rows_order_12 : decode b_Rows_order 12 = .ok (.ifCond .lt 75, 3) := by decide +kernel
theorem d_Rows_order_15 : decode b_Rows_order 15 = .ok (.iconst 0, 1) := by decide +kernel
theorem d_Rows_order_16 : decode b_Rows_order 16 = .ok (.istore 4, 2) := by decide +kernel
theorem d_Rows_order_18 : decode b_Rows_order 18 = .ok (.iload 4, 2) := by decide +kernel
theorem d_Rows_order_20 : decode b_Rows_order 20 = .ok (.aload_n 0, 1) := by decide +kernel
theorem d_Rows_order_21 : decode b_Rows_order 21 = .ok (.getfield 16, 3) := by decide +kernel
theorem d_Rows_order_24 : decode b_Rows_order 24 = .ok (.invokevirtual 60, 3) := by decide +kernel
theorem d_Rows_order_27 : decode b_Rows_order 27 = .ok (.if_icmp .ge 54, 3) := by decide +kernel
theorem d_Rows_order_30 : decode b_Rows_order 30 = .ok (.aload_n 0, 1) := by decide +kernel
theorem d_Rows_order_31 : decode b_Rows_order 31 = .ok (.getfield 16, 3) := by decide +kernel
theorem d_Rows_order_34 : decode b_Rows_order 34 = .ok (.iload 4, 2) := by decide +kernel
theorem d_Rows_order_36 : decode b_Rows_order 36 = .ok (.invokevirtual 156, 3) := by decide +kernel
theorem d_Rows_order_39 : decode b_Rows_order 39 = .ok (.checkcast 86, 3) := by decide +kernel
theorem d_Rows_order_42 : decode b_Rows_order 42 = .ok (.astore 5, 2) := by decide +kernel
theorem d_Rows_order_44 : decode b_Rows_order 44 = .ok (.aload 5, 2) := by decide +kernel
theorem d_Rows_order_46 : decode b_Rows_order 46 = .ok (.getfield 119, 3) := by decide +kernel
theorem d_Rows_order_49 : decode b_Rows_order 49 = .ok (.ifCond .ne 26, 3) := by decide +kernel
theorem d_Rows_order_52 : decode b_Rows_order 52 = .ok (.aload_n 0, 1) := by decide +kernel
theorem d_Rows_order_53 : decode b_Rows_order 53 = .ok (.aload 5, 2) := by decide +kernel
theorem d_Rows_order_55 : decode b_Rows_order 55 = .ok (.invokevirtual 160, 3) := by decide +kernel
theorem d_Rows_order_58 : decode b_Rows_order 58 = .ok (.iload_n 3, 1) := by decide +kernel
theorem d_Rows_order_59 : decode b_Rows_order 59 = .ok (.if_icmp .ne 16, 3) := by decide +kernel
theorem d_Rows_order_62 : decode b_Rows_order 62 = .ok (.iload_n 2, 1) := by decide +kernel
theorem d_Rows_order_63 : decode b_Rows_order 63 = .ok (.ifCond .ne 9, 3) := by decide +kernel
theorem d_Rows_order_66 : decode b_Rows_order 66 = .ok (.aload 5, 2) := by decide +kernel
theorem d_Rows_order_68 : decode b_Rows_order 68 = .ok (.getfield 136, 3) := by decide +kernel
theorem d_Rows_order_71 : decode b_Rows_order 71 = .ok (.ireturn, 1) := by decide +kernel
theorem d_Rows_order_72 : decode b_Rows_order 72 = .ok (.iinc 2 (-1), 3) := by decide +kernel
theorem d_Rows_order_75 : decode b_Rows_order 75 = .ok (.iinc 4 1, 3) := by decide +kernel
theorem d_Rows_order_78 : decode b_Rows_order 78 = .ok (.goto (-60), 3) := by decide +kernel
theorem d_Rows_order_81 : decode b_Rows_order 81 = .ok (.iinc 3 (-1), 3) := by decide +kernel
theorem d_Rows_order_84 : decode b_Rows_order 84 = .ok (.goto (-73), 3) := by decide +kernel
theorem d_Rows_order_87 : decode b_Rows_order 87 = .ok (.iconst (-1), 1) := by decide +kernel
theorem d_Rows_order_88 : decode b_Rows_order 88 = .ok (.ireturn, 1) := by decide +kernel
theorem d_Rows_waited_0 : decode b_Rows_waited 0 = .ok (.aload_n 0, 1) := by decide +kernel
theorem d_Rows_waited_1 : decode b_Rows_waited 1 = .ok (.iload_n 1, 1) := by decide +kernel
theorem d_Rows_waited_2 : decode b_Rows_waited 2 = .ok (.invokevirtual 91, 3) := by decide +kernel
theorem d_Rows_waited_5 : decode b_Rows_waited 5 = .ok (.astore_n 2, 1) := by decide +kernel
theorem d_Rows_waited_6 : decode b_Rows_waited 6 = .ok (.aload_n 2, 1) := by decide +kernel
theorem d_Rows_waited_7 : decode b_Rows_waited 7 = .ok (.ifnonnull 7, 3) := by decide +kernel
theorem d_Rows_waited_10 : decode b_Rows_waited 10 = .ok (.ldc2_w 143, 3) := by decide +kernel
theorem d_Rows_waited_13 : decode b_Rows_waited 13 = .ok (.lreturn, 1) := by decide +kernel
theorem d_Rows_waited_14 : decode b_Rows_waited 14 = .ok (.aload_n 2, 1) := by decide +kernel
theorem d_Rows_waited_15 : decode b_Rows_waited 15 = .ok (.invokevirtual 95, 3) := by decide +kernel
theorem d_Rows_waited_18 : decode b_Rows_waited 18 = .ok (.ifCond .eq 10, 3) := by decide +kernel
theorem d_Rows_waited_21 : decode b_Rows_waited 21 = .ok (.aload_n 0, 1) := by decide +kernel
theorem d_Rows_waited_22 : decode b_Rows_waited 22 = .ok (.getfield 49, 3) := by decide +kernel
theorem d_Rows_waited_25 : decode b_Rows_waited 25 = .ok (.goto 7, 3) := by decide +kernel
theorem d_Rows_waited_28 : decode b_Rows_waited 28 = .ok (.aload_n 2, 1) := by decide +kernel
theorem d_Rows_waited_29 : decode b_Rows_waited 29 = .ok (.getfield 164, 3) := by decide +kernel
theorem d_Rows_waited_32 : decode b_Rows_waited 32 = .ok (.aload_n 2, 1) := by decide +kernel
theorem d_Rows_waited_33 : decode b_Rows_waited 33 = .ok (.getfield 167, 3) := by decide +kernel
theorem d_Rows_waited_36 : decode b_Rows_waited 36 = .ok (.lsub, 1) := by decide +kernel
theorem d_Rows_waited_37 : decode b_Rows_waited 37 = .ok (.lreturn, 1) := by decide +kernel
theorem d_Rows_state_0 : decode b_Rows_state 0 = .ok (.aload_n 0, 1) := by decide +kernel
theorem d_Rows_state_1 : decode b_Rows_state 1 = .ok (.iload_n 1, 1) := by decide +kernel
theorem d_Rows_state_2 : decode b_Rows_state 2 = .ok (.invokevirtual 91, 3) := by decide +kernel
theorem d_Rows_state_5 : decode b_Rows_state 5 = .ok (.astore_n 2, 1) := by decide +kernel
theorem d_Rows_state_6 : decode b_Rows_state 6 = .ok (.aload_n 2, 1) := by decide +kernel
theorem d_Rows_state_7 : decode b_Rows_state 7 = .ok (.ifnonnull 7, 3) := by decide +kernel
theorem d_Rows_state_10 : decode b_Rows_state 10 = .ok (.iconst (-1), 1) := by decide +kernel
theorem d_Rows_state_11 : decode b_Rows_state 11 = .ok (.goto 7, 3) := by decide +kernel
theorem d_Rows_state_14 : decode b_Rows_state 14 = .ok (.aload_n 2, 1) := by decide +kernel
theorem d_Rows_state_15 : decode b_Rows_state 15 = .ok (.getfield 119, 3) := by decide +kernel
theorem d_Rows_state_18 : decode b_Rows_state 18 = .ok (.ireturn, 1) := by decide +kernel
theorem d_Rows_jobsIn_0 : decode b_Rows_jobsIn 0 = .ok (.iconst 0, 1) := by decide +kernel
theorem d_Rows_jobsIn_1 : decode b_Rows_jobsIn 1 = .ok (.istore_n 2, 1) := by decide +kernel
theorem d_Rows_jobsIn_2 : decode b_Rows_jobsIn 2 = .ok (.iconst 0, 1) := by decide +kernel
theorem d_Rows_jobsIn_3 : decode b_Rows_jobsIn 3 = .ok (.istore_n 3, 1) := by decide +kernel
theorem d_Rows_jobsIn_4 : decode b_Rows_jobsIn 4 = .ok (.iload_n 3, 1) := by decide +kernel
theorem d_Rows_jobsIn_5 : decode b_Rows_jobsIn 5 = .ok (.aload_n 0, 1) := by decide +kernel
theorem d_Rows_jobsIn_6 : decode b_Rows_jobsIn 6 = .ok (.getfield 16, 3) := by decide +kernel
theorem d_Rows_jobsIn_9 : decode b_Rows_jobsIn 9 = .ok (.invokevirtual 60, 3) := by decide +kernel
theorem d_Rows_jobsIn_12 : decode b_Rows_jobsIn 12 = .ok (.if_icmp .ge 30, 3) := by decide +kernel
theorem d_Rows_jobsIn_15 : decode b_Rows_jobsIn 15 = .ok (.aload_n 0, 1) := by decide +kernel
theorem d_Rows_jobsIn_16 : decode b_Rows_jobsIn 16 = .ok (.getfield 16, 3) := by decide +kernel
theorem d_Rows_jobsIn_19 : decode b_Rows_jobsIn 19 = .ok (.iload_n 3, 1) := by decide +kernel
theorem d_Rows_jobsIn_20 : decode b_Rows_jobsIn 20 = .ok (.invokevirtual 156, 3) := by decide +kernel
theorem d_Rows_jobsIn_23 : decode b_Rows_jobsIn 23 = .ok (.checkcast 86, 3) := by decide +kernel
theorem d_Rows_jobsIn_26 : decode b_Rows_jobsIn 26 = .ok (.getfield 119, 3) := by decide +kernel
theorem d_Rows_jobsIn_29 : decode b_Rows_jobsIn 29 = .ok (.iload_n 1, 1) := by decide +kernel
theorem d_Rows_jobsIn_30 : decode b_Rows_jobsIn 30 = .ok (.if_icmp .ne 6, 3) := by decide +kernel
theorem d_Rows_jobsIn_33 : decode b_Rows_jobsIn 33 = .ok (.iinc 2 1, 3) := by decide +kernel
theorem d_Rows_jobsIn_36 : decode b_Rows_jobsIn 36 = .ok (.iinc 3 1, 3) := by decide +kernel
theorem d_Rows_jobsIn_39 : decode b_Rows_jobsIn 39 = .ok (.goto (-35), 3) := by decide +kernel
theorem d_Rows_jobsIn_42 : decode b_Rows_jobsIn 42 = .ok (.iload_n 2, 1) := by decide +kernel
theorem d_Rows_jobsIn_43 : decode b_Rows_jobsIn 43 = .ok (.ireturn, 1) := by decide +kernel
theorem d_Rows_drainedAndIdle_0 : decode b_Rows_drainedAndIdle 0 = .ok (.iconst 0, 1) := by decide +kernel
theorem d_Rows_drainedAndIdle_1 : decode b_Rows_drainedAndIdle 1 = .ok (.istore_n 1, 1) := by decide +kernel
theorem d_Rows_drainedAndIdle_2 : decode b_Rows_drainedAndIdle 2 = .ok (.iconst 0, 1) := by decide +kernel
theorem d_Rows_drainedAndIdle_3 : decode b_Rows_drainedAndIdle 3 = .ok (.istore_n 2, 1) := by decide +kernel
theorem d_Rows_drainedAndIdle_4 : decode b_Rows_drainedAndIdle 4 = .ok (.iload_n 2, 1) := by decide +kernel
theorem d_Rows_drainedAndIdle_5 : decode b_Rows_drainedAndIdle 5 = .ok (.aload_n 0, 1) := by decide +kernel
theorem d_Rows_drainedAndIdle_6 : decode b_Rows_drainedAndIdle 6 = .ok (.getfield 10, 3) := by decide +kernel
theorem d_Rows_drainedAndIdle_9 : decode b_Rows_drainedAndIdle 9 = .ok (.invokevirtual 60, 3) := by decide +kernel
theorem d_Rows_drainedAndIdle_12 : decode b_Rows_drainedAndIdle 12 = .ok (.if_icmp .ge 38, 3) := by decide +kernel
theorem d_Rows_drainedAndIdle_15 : decode b_Rows_drainedAndIdle 15 = .ok (.aload_n 0, 1) := by decide +kernel
theorem d_Rows_drainedAndIdle_16 : decode b_Rows_drainedAndIdle 16 = .ok (.getfield 10, 3) := by decide +kernel
theorem d_Rows_drainedAndIdle_19 : decode b_Rows_drainedAndIdle 19 = .ok (.iload_n 2, 1) := by decide +kernel
theorem d_Rows_drainedAndIdle_20 : decode b_Rows_drainedAndIdle 20 = .ok (.invokevirtual 156, 3) := by decide +kernel
theorem d_Rows_drainedAndIdle_23 : decode b_Rows_drainedAndIdle 23 = .ok (.checkcast 64, 3) := by decide +kernel
theorem d_Rows_drainedAndIdle_26 : decode b_Rows_drainedAndIdle 26 = .ok (.astore_n 3, 1) := by decide +kernel
theorem d_Rows_drainedAndIdle_27 : decode b_Rows_drainedAndIdle 27 = .ok (.aload_n 3, 1) := by decide +kernel
theorem d_Rows_drainedAndIdle_28 : decode b_Rows_drainedAndIdle 28 = .ok (.getfield 122, 3) := by decide +kernel
theorem d_Rows_drainedAndIdle_31 : decode b_Rows_drainedAndIdle 31 = .ok (.ifCond .eq 13, 3) := by decide +kernel
theorem d_Rows_drainedAndIdle_34 : decode b_Rows_drainedAndIdle 34 = .ok (.aload_n 3, 1) := by decide +kernel
theorem d_Rows_drainedAndIdle_35 : decode b_Rows_drainedAndIdle 35 = .ok (.getfield 125, 3) := by decide +kernel
theorem d_Rows_drainedAndIdle_38 : decode b_Rows_drainedAndIdle 38 = .ok (.ifCond .ne 6, 3) := by decide +kernel
theorem d_Rows_drainedAndIdle_41 : decode b_Rows_drainedAndIdle 41 = .ok (.iinc 1 1, 3) := by decide +kernel
theorem d_Rows_drainedAndIdle_44 : decode b_Rows_drainedAndIdle 44 = .ok (.iinc 2 1, 3) := by decide +kernel
theorem d_Rows_drainedAndIdle_47 : decode b_Rows_drainedAndIdle 47 = .ok (.goto (-43), 3) := by decide +kernel
theorem d_Rows_drainedAndIdle_50 : decode b_Rows_drainedAndIdle 50 = .ok (.iload_n 1, 1) := by decide +kernel
theorem d_Rows_drainedAndIdle_51 : decode b_Rows_drainedAndIdle 51 = .ok (.ireturn, 1) := by decide +kernel
theorem d_Rows_unitsInUse_0 : decode b_Rows_unitsInUse 0 = .ok (.iload_n 1, 1) := by decide +kernel
theorem d_Rows_unitsInUse_1 : decode b_Rows_unitsInUse 1 = .ok (.bipush 10, 2) := by decide +kernel
theorem d_Rows_unitsInUse_3 : decode b_Rows_unitsInUse 3 = .ok (.bipush 13, 2) := by decide +kernel
theorem d_Rows_unitsInUse_5 : decode b_Rows_unitsInUse 5 = .ok (.invokestatic 75, 3) := by decide +kernel
theorem d_Rows_unitsInUse_8 : decode b_Rows_unitsInUse 8 = .ok (.ifCond .ne 5, 3) := by decide +kernel
theorem d_Rows_unitsInUse_11 : decode b_Rows_unitsInUse 11 = .ok (.iconst (-1), 1) := by decide +kernel
theorem d_Rows_unitsInUse_12 : decode b_Rows_unitsInUse 12 = .ok (.ireturn, 1) := by decide +kernel
theorem d_Rows_unitsInUse_13 : decode b_Rows_unitsInUse 13 = .ok (.aload_n 0, 1) := by decide +kernel
theorem d_Rows_unitsInUse_14 : decode b_Rows_unitsInUse 14 = .ok (.getfield 38, 3) := by decide +kernel
theorem d_Rows_unitsInUse_17 : decode b_Rows_unitsInUse 17 = .ok (.getfield 225, 3) := by decide +kernel
theorem d_Rows_unitsInUse_20 : decode b_Rows_unitsInUse 20 = .ok (.iload_n 1, 1) := by decide +kernel
theorem d_Rows_unitsInUse_21 : decode b_Rows_unitsInUse 21 = .ok (.bipush 10, 2) := by decide +kernel
theorem d_Rows_unitsInUse_23 : decode b_Rows_unitsInUse 23 = .ok (.isub, 1) := by decide +kernel
theorem d_Rows_unitsInUse_24 : decode b_Rows_unitsInUse 24 = .ok (.iaload, 1) := by decide +kernel
theorem d_Rows_unitsInUse_25 : decode b_Rows_unitsInUse 25 = .ok (.ireturn, 1) := by decide +kernel
theorem d_Rows_count_0 : decode b_Rows_count 0 = .ok (.iload_n 1, 1) := by decide +kernel
theorem d_Rows_count_1 : decode b_Rows_count 1 = .ok (.tableswitch 86 0 5 #[39, 47, 55, 67, 73, 81], 39) := by decide +kernel
theorem d_Rows_count_40 : decode b_Rows_count 40 = .ok (.aload_n 0, 1) := by decide +kernel
theorem d_Rows_count_41 : decode b_Rows_count 41 = .ok (.getfield 10, 3) := by decide +kernel
theorem d_Rows_count_44 : decode b_Rows_count 44 = .ok (.invokevirtual 60, 3) := by decide +kernel
theorem d_Rows_count_47 : decode b_Rows_count 47 = .ok (.ireturn, 1) := by decide +kernel
theorem d_Rows_count_48 : decode b_Rows_count 48 = .ok (.aload_n 0, 1) := by decide +kernel
theorem d_Rows_count_49 : decode b_Rows_count 49 = .ok (.getfield 16, 3) := by decide +kernel
theorem d_Rows_count_52 : decode b_Rows_count 52 = .ok (.invokevirtual 60, 3) := by decide +kernel
theorem d_Rows_count_55 : decode b_Rows_count 55 = .ok (.ireturn, 1) := by decide +kernel
theorem d_Rows_count_56 : decode b_Rows_count 56 = .ok (.aload_n 0, 1) := by decide +kernel
theorem d_Rows_count_57 : decode b_Rows_count 57 = .ok (.iconst 0, 1) := by decide +kernel
theorem d_Rows_count_58 : decode b_Rows_count 58 = .ok (.invokevirtual 170, 3) := by decide +kernel
theorem d_Rows_count_61 : decode b_Rows_count 61 = .ok (.aload_n 0, 1) := by decide +kernel
theorem d_Rows_count_62 : decode b_Rows_count 62 = .ok (.iconst 1, 1) := by decide +kernel
theorem d_Rows_count_63 : decode b_Rows_count 63 = .ok (.invokevirtual 170, 3) := by decide +kernel
theorem d_Rows_count_66 : decode b_Rows_count 66 = .ok (.iadd, 1) := by decide +kernel
theorem d_Rows_count_67 : decode b_Rows_count 67 = .ok (.ireturn, 1) := by decide +kernel
theorem d_Rows_count_68 : decode b_Rows_count 68 = .ok (.aload_n 0, 1) := by decide +kernel
theorem d_Rows_count_69 : decode b_Rows_count 69 = .ok (.iconst 1, 1) := by decide +kernel
theorem d_Rows_count_70 : decode b_Rows_count 70 = .ok (.invokevirtual 170, 3) := by decide +kernel
theorem d_Rows_count_73 : decode b_Rows_count 73 = .ok (.ireturn, 1) := by decide +kernel
theorem d_Rows_count_74 : decode b_Rows_count 74 = .ok (.aload_n 0, 1) := by decide +kernel
theorem d_Rows_count_75 : decode b_Rows_count 75 = .ok (.getfield 38, 3) := by decide +kernel
theorem d_Rows_count_78 : decode b_Rows_count 78 = .ok (.getfield 174, 3) := by decide +kernel
theorem d_Rows_count_81 : decode b_Rows_count 81 = .ok (.ireturn, 1) := by decide +kernel
theorem d_Rows_count_82 : decode b_Rows_count 82 = .ok (.aload_n 0, 1) := by decide +kernel
theorem d_Rows_count_83 : decode b_Rows_count 83 = .ok (.invokevirtual 177, 3) := by decide +kernel
theorem d_Rows_count_86 : decode b_Rows_count 86 = .ok (.ireturn, 1) := by decide +kernel
theorem d_Rows_count_87 : decode b_Rows_count 87 = .ok (.aload_n 0, 1) := by decide +kernel
theorem d_Rows_count_88 : decode b_Rows_count 88 = .ok (.iload_n 1, 1) := by decide +kernel
theorem d_Rows_count_89 : decode b_Rows_count 89 = .ok (.invokevirtual 180, 3) := by decide +kernel
theorem d_Rows_count_92 : decode b_Rows_count 92 = .ok (.ireturn, 1) := by decide +kernel
