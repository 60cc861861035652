theorem d_Mod_mayStart_246 : decode b_Mod_mayStart 246 = .ok (.if_icmp .gt 7, 3) := by decide +kernel
theorem d_Mod_mayStart_249 : decode b_Mod_mayStart 249 = .ok (.iconst 1, 1) := by decide +kernel
theorem d_Mod_mayStart_250 : decode b_Mod_mayStart 250 = .ok (.goto 4, 3) := by decide +kernel
theorem d_Mod_mayStart_253 : decode b_Mod_mayStart 253 = .ok (.iconst 0, 1) := by decide +kernel
theorem d_Mod_mayStart_254 : decode b_Mod_mayStart 254 = .ok (.istore 6, 2) := by decide +kernel
theorem d_Mod_mayStart_256 : decode b_Mod_mayStart 256 = .ok (.iinc 7 1, 3) := by decide +kernel
theorem d_Mod_mayStart_259 : decode b_Mod_mayStart 259 = .ok (.goto (-49), 3) := by decide +kernel
theorem d_Mod_mayStart_262 : decode b_Mod_mayStart 262 = .ok (.iload_n 3, 1) := by decide +kernel
theorem d_Mod_mayStart_263 : decode b_Mod_mayStart 263 = .ok (.ifCond .eq 46, 3) := by decide +kernel
theorem d_Mod_mayStart_266 : decode b_Mod_mayStart 266 = .ok (.iload 5, 2) := by decide +kernel
theorem d_Mod_mayStart_268 : decode b_Mod_mayStart 268 = .ok (.ifCond .ne 41, 3) := by decide +kernel
theorem d_Mod_mayStart_271 : decode b_Mod_mayStart 271 = .ok (.iload 6, 2) := by decide +kernel
theorem d_Mod_mayStart_273 : decode b_Mod_mayStart 273 = .ok (.ifCond .eq 36, 3) := by decide +kernel
theorem d_Mod_mayStart_276 : decode b_Mod_mayStart 276 = .ok (.iload_n 2, 1) := by decide +kernel
theorem d_Mod_mayStart_277 : decode b_Mod_mayStart 277 = .ok (.aload_n 0, 1) := by decide +kernel
theorem d_Mod_mayStart_278 : decode b_Mod_mayStart 278 = .ok (.getfield 20, 3) := by decide +kernel
theorem d_Mod_mayStart_281 : decode b_Mod_mayStart 281 = .ok (.aload_n 0, 1) := by decide +kernel
theorem d_Mod_mayStart_282 : decode b_Mod_mayStart 282 = .ok (.getfield 35, 3) := by decide +kernel
theorem d_Mod_mayStart_285 : decode b_Mod_mayStart 285 = .ok (.iload_n 1, 1) := by decide +kernel
theorem d_Mod_mayStart_286 : decode b_Mod_mayStart 286 = .ok (.iaload, 1) := by decide +kernel
theorem d_Mod_mayStart_287 : decode b_Mod_mayStart 287 = .ok (.iaload, 1) := by decide +kernel
theorem d_Mod_mayStart_288 : decode b_Mod_mayStart 288 = .ok (.if_icmp .ge 21, 3) := by decide +kernel
theorem d_Mod_mayStart_291 : decode b_Mod_mayStart 291 = .ok (.aload_n 0, 1) := by decide +kernel
theorem d_Mod_mayStart_292 : decode b_Mod_mayStart 292 = .ok (.getfield 53, 3) := by decide +kernel
theorem d_Mod_mayStart_295 : decode b_Mod_mayStart 295 = .ok (.iload_n 1, 1) := by decide +kernel
theorem d_Mod_mayStart_296 : decode b_Mod_mayStart 296 = .ok (.baload, 1) := by decide +kernel
theorem d_Mod_mayStart_297 : decode b_Mod_mayStart 297 = .ok (.ifCond .eq 8, 3) := by decide +kernel
theorem d_Mod_mayStart_300 : decode b_Mod_mayStart 300 = .ok (.iload 4, 2) := by decide +kernel
theorem d_Mod_mayStart_302 : decode b_Mod_mayStart 302 = .ok (.ifCond .ne 7, 3) := by decide +kernel
theorem d_Mod_mayStart_305 : decode b_Mod_mayStart 305 = .ok (.iconst 1, 1) := by decide +kernel
theorem d_Mod_mayStart_306 : decode b_Mod_mayStart 306 = .ok (.goto 4, 3) := by decide +kernel
theorem d_Mod_mayStart_309 : decode b_Mod_mayStart 309 = .ok (.iconst 0, 1) := by decide +kernel
theorem d_Mod_mayStart_310 : decode b_Mod_mayStart 310 = .ok (.ireturn, 1) := by decide +kernel
theorem d_Mod_priority_0 : decode b_Mod_priority 0 = .ok (.aload_n 0, 1) := by decide +kernel
theorem d_Mod_priority_1 : decode b_Mod_priority 1 = .ok (.getfield 38, 3) := by decide +kernel
theorem d_Mod_priority_4 : decode b_Mod_priority 4 = .ok (.iload_n 1, 1) := by decide +kernel
theorem d_Mod_priority_5 : decode b_Mod_priority 5 = .ok (.iaload, 1) := by decide +kernel
theorem d_Mod_priority_6 : decode b_Mod_priority 6 = .ok (.i2l, 1) := by decide +kernel
theorem d_Mod_priority_7 : decode b_Mod_priority 7 = .ok (.lstore_n 2, 1) := by decide +kernel
theorem d_Mod_priority_8 : decode b_Mod_priority 8 = .ok (.aload_n 0, 1) := by decide +kernel
theorem d_Mod_priority_9 : decode b_Mod_priority 9 = .ok (.getfield 109, 3) := by decide +kernel
theorem d_Mod_priority_12 : decode b_Mod_priority 12 = .ok (.lconst 0, 1) := by decide +kernel
theorem d_Mod_priority_13 : decode b_Mod_priority 13 = .ok (.lcmp, 1) := by decide +kernel
theorem d_Mod_priority_14 : decode b_Mod_priority 14 = .ok (.ifCond .ne 5, 3) := by decide +kernel
theorem d_Mod_priority_17 : decode b_Mod_priority 17 = .ok (.lload_n 2, 1) := by decide +kernel
theorem d_Mod_priority_18 : decode b_Mod_priority 18 = .ok (.lreturn, 1) := by decide +kernel
theorem d_Mod_priority_19 : decode b_Mod_priority 19 = .ok (.aload_n 0, 1) := by decide +kernel
theorem d_Mod_priority_20 : decode b_Mod_priority 20 = .ok (.getfield 89, 3) := by decide +kernel
theorem d_Mod_priority_23 : decode b_Mod_priority 23 = .ok (.aload_n 0, 1) := by decide +kernel
theorem d_Mod_priority_24 : decode b_Mod_priority 24 = .ok (.getfield 62, 3) := by decide +kernel
theorem d_Mod_priority_27 : decode b_Mod_priority 27 = .ok (.iload_n 1, 1) := by decide +kernel
theorem d_Mod_priority_28 : decode b_Mod_priority 28 = .ok (.laload, 1) := by decide +kernel
theorem d_Mod_priority_29 : decode b_Mod_priority 29 = .ok (.lsub, 1) := by decide +kernel
theorem d_Mod_priority_30 : decode b_Mod_priority 30 = .ok (.aload_n 0, 1) := by decide +kernel
theorem d_Mod_priority_31 : decode b_Mod_priority 31 = .ok (.getfield 109, 3) := by decide +kernel
theorem d_Mod_priority_34 : decode b_Mod_priority 34 = .ok (.ldiv, 1) := by decide +kernel
theorem d_Mod_priority_35 : decode b_Mod_priority 35 = .ok (.lstore 4, 2) := by decide +kernel
theorem d_Mod_priority_37 : decode b_Mod_priority 37 = .ok (.lload 4, 2) := by decide +kernel
theorem d_Mod_priority_39 : decode b_Mod_priority 39 = .ok (.ldc2_w 112, 3) := by decide +kernel
theorem d_Mod_priority_42 : decode b_Mod_priority 42 = .ok (.lcmp, 1) := by decide +kernel
theorem d_Mod_priority_43 : decode b_Mod_priority 43 = .ok (.ifCond .le 9, 3) := by decide +kernel
theorem d_Mod_priority_46 : decode b_Mod_priority 46 = .ok (.ldc2_w 112, 3) := by decide +kernel
theorem d_Mod_priority_49 : decode b_Mod_priority 49 = .ok (.goto 5, 3) := by decide +kernel
theorem d_Mod_priority_52 : decode b_Mod_priority 52 = .ok (.lload 4, 2) := by decide +kernel
theorem d_Mod_priority_54 : decode b_Mod_priority 54 = .ok (.lstore 6, 2) := by decide +kernel
theorem d_Mod_priority_56 : decode b_Mod_priority 56 = .ok (.lload_n 2, 1) := by decide +kernel
theorem d_Mod_priority_57 : decode b_Mod_priority 57 = .ok (.lload 6, 2) := by decide +kernel
theorem d_Mod_priority_59 : decode b_Mod_priority 59 = .ok (.ladd, 1) := by decide +kernel
theorem d_Mod_priority_60 : decode b_Mod_priority 60 = .ok (.aload_n 0, 1) := by decide +kernel
theorem d_Mod_priority_61 : decode b_Mod_priority 61 = .ok (.getfield 114, 3) := by decide +kernel
theorem d_Mod_priority_64 : decode b_Mod_priority 64 = .ok (.i2l, 1) := by decide +kernel
theorem d_Mod_priority_65 : decode b_Mod_priority 65 = .ok (.lcmp, 1) := by decide +kernel
theorem d_Mod_priority_66 : decode b_Mod_priority 66 = .ok (.ifCond .le 11, 3) := by decide +kernel
theorem d_Mod_priority_69 : decode b_Mod_priority 69 = .ok (.aload_n 0, 1) := by decide +kernel
theorem d_Mod_priority_70 : decode b_Mod_priority 70 = .ok (.getfield 114, 3) := by decide +kernel
theorem d_Mod_priority_73 : decode b_Mod_priority 73 = .ok (.i2l, 1) := by decide +kernel
theorem d_Mod_priority_74 : decode b_Mod_priority 74 = .ok (.goto 7, 3) := by decide +kernel
theorem d_Mod_priority_77 : decode b_Mod_priority 77 = .ok (.lload_n 2, 1) := by decide +kernel
theorem d_Mod_priority_78 : decode b_Mod_priority 78 = .ok (.lload 6, 2) := by decide +kernel
theorem d_Mod_priority_80 : decode b_Mod_priority 80 = .ok (.ladd, 1) := by decide +kernel
theorem d_Mod_priority_81 : decode b_Mod_priority 81 = .ok (.lstore 8, 2) := by decide +kernel
theorem d_Mod_priority_83 : decode b_Mod_priority 83 = .ok (.lload 8, 2) := by decide +kernel
theorem d_Mod_priority_85 : decode b_Mod_priority 85 = .ok (.lload_n 2, 1) := by decide +kernel
theorem d_Mod_priority_86 : decode b_Mod_priority 86 = .ok (.lcmp, 1) := by decide +kernel
theorem d_Mod_priority_87 : decode b_Mod_priority 87 = .ok (.ifCond .ge 7, 3) := by decide +kernel
theorem d_Mod_priority_90 : decode b_Mod_priority 90 = .ok (.lload_n 2, 1) := by decide +kernel
theorem d_Mod_priority_91 : decode b_Mod_priority 91 = .ok (.goto 5, 3) := by decide +kernel
theorem d_Mod_priority_94 : decode b_Mod_priority 94 = .ok (.lload 8, 2) := by decide +kernel
theorem d_Mod_priority_96 : decode b_Mod_priority 96 = .ok (.lreturn, 1) := by decide +kernel
theorem d_Mod_isAhead_0 : decode b_Mod_isAhead 0 = .ok (.aload_n 0, 1) := by decide +kernel
theorem d_Mod_isAhead_1 : decode b_Mod_isAhead 1 = .ok (.iload_n 1, 1) := by decide +kernel
theorem d_Mod_isAhead_2 : decode b_Mod_isAhead 2 = .ok (.invokevirtual 117, 3) := by decide +kernel
theorem d_Mod_isAhead_5 : decode b_Mod_isAhead 5 = .ok (.lstore_n 3, 1) := by decide +kernel
theorem d_Mod_isAhead_6 : decode b_Mod_isAhead 6 = .ok (.aload_n 0, 1) := by decide +kernel
theorem d_Mod_isAhead_7 : decode b_Mod_isAhead 7 = .ok (.iload_n 2, 1) := by decide +kernel
theorem d_Mod_isAhead_8 : decode b_Mod_isAhead 8 = .ok (.invokevirtual 117, 3) := by decide +kernel
theorem d_Mod_isAhead_11 : decode b_Mod_isAhead 11 = .ok (.lstore 5, 2) := by decide +kernel
theorem d_Mod_isAhead_13 : decode b_Mod_isAhead 13 = .ok (.lload_n 3, 1) := by decide +kernel
theorem d_Mod_isAhead_14 : decode b_Mod_isAhead 14 = .ok (.lload 5, 2) := by decide +kernel
theorem d_Mod_isAhead_16 : decode b_Mod_isAhead 16 = .ok (.lcmp, 1) := by decide +kernel
theorem d_Mod_isAhead_17 : decode b_Mod_isAhead 17 = .ok (.ifCond .gt 15, 3) := by decide +kernel
theorem d_Mod_isAhead_20 : decode b_Mod_isAhead 20 = .ok (.lload_n 3, 1) := by decide +kernel
theorem d_Mod_isAhead_21 : decode b_Mod_isAhead 21 = .ok (.lload 5, 2) := by decide +kernel
theorem d_Mod_isAhead_23 : decode b_Mod_isAhead 23 = .ok (.lcmp, 1) := by decide +kernel
theorem d_Mod_isAhead_24 : decode b_Mod_isAhead 24 = .ok (.ifCond .ne 12, 3) := by decide +kernel
theorem d_Mod_isAhead_27 : decode b_Mod_isAhead 27 = .ok (.iload_n 1, 1) := by decide +kernel
theorem d_Mod_isAhead_28 : decode b_Mod_isAhead 28 = .ok (.iload_n 2, 1) := by decide +kernel
theorem d_Mod_isAhead_29 : decode b_Mod_isAhead 29 = .ok (.if_icmp .ge 7, 3) := by decide +kernel
theorem d_Mod_isAhead_32 : decode b_Mod_isAhead 32 = .ok (.iconst 1, 1) := by decide +kernel
theorem d_Mod_isAhead_33 : decode b_Mod_isAhead 33 = .ok (.goto 4, 3) := by decide +kernel
theorem d_Mod_isAhead_36 : decode b_Mod_isAhead 36 = .ok (.iconst 0, 1) := by decide +kernel
theorem d_Mod_isAhead_37 : decode b_Mod_isAhead 37 = .ok (.ireturn, 1) := by decide +kernel
theorem d_Mod_next_0 : decode b_Mod_next 0 = .ok (.aload_n 0, 1) := by decide +kernel
theorem d_Mod_next_1 : decode b_Mod_next 1 = .ok (.iconst 0, 1) := by decide +kernel
theorem d_Mod_next_2 : decode b_Mod_next 2 = .ok (.putfield 69, 3) := by decide +kernel
theorem d_Mod_next_5 : decode b_Mod_next 5 = .ok (.aload_n 0, 1) := by decide +kernel
theorem d_Mod_next_6 : decode b_Mod_next 6 = .ok (.iload_n 1, 1) := by decide +kernel
theorem d_Mod_next_7 : decode b_Mod_next 7 = .ok (.invokevirtual 79, 3) := by decide +kernel
theorem d_Mod_next_10 : decode b_Mod_next 10 = .ok (.ifCond .ne 6, 3) := by decide +kernel
theorem d_Mod_next_13 : decode b_Mod_next 13 = .ok (.bipush (-2), 2) := by decide +kernel
theorem d_Mod_next_15 : decode b_Mod_next 15 = .ok (.ireturn, 1) := by decide +kernel
theorem d_Mod_next_16 : decode b_Mod_next 16 = .ok (.lload_n 2, 1) := by decide +kernel
theorem d_Mod_next_17 : decode b_Mod_next 17 = .ok (.aload_n 0, 1) := by decide +kernel
theorem d_Mod_next_18 : decode b_Mod_next 18 = .ok (.getfield 89, 3) := by decide +kernel
theorem d_Mod_next_21 : decode b_Mod_next 21 = .ok (.lcmp, 1) := by decide +kernel
theorem d_Mod_next_22 : decode b_Mod_next 22 = .ok (.ifCond .ge 6, 3) := by decide +kernel
theorem d_Mod_next_25 : decode b_Mod_next 25 = .ok (.bipush (-4), 2) := by decide +kernel
theorem d_Mod_next_27 : decode b_Mod_next 27 = .ok (.ireturn, 1) := by decide +kernel
theorem d_Mod_next_28 : decode b_Mod_next 28 = .ok (.iload_n 1, 1) := by decide +kernel
theorem d_Mod_next_29 : decode b_Mod_next 29 = .ok (.iconst 1, 1) := by decide +kernel
theorem d_Mod_next_30 : decode b_Mod_next 30 = .ok (.isub, 1) := by decide +kernel
theorem d_Mod_next_31 : decode b_Mod_next 31 = .ok (.istore 4, 2) := by decide +kernel
theorem d_Mod_next_33 : decode b_Mod_next 33 = .ok (.aload_n 0, 1) := by decide +kernel
theorem d_Mod_next_34 : decode b_Mod_next 34 = .ok (.getfield 16, 3) := by decide +kernel
theorem d_Mod_next_37 : decode b_Mod_next 37 = .ok (.iload 4, 2) := by decide +kernel
theorem d_Mod_next_39 : decode b_Mod_next 39 = .ok (.baload, 1) := by decide +kernel
theorem d_Mod_next_40 : decode b_Mod_next 40 = .ok (.ifCond .ne 14, 3) := by decide +kernel
theorem d_Mod_next_43 : decode b_Mod_next 43 = .ok (.aload_n 0, 1) := by decide +kernel
theorem d_Mod_next_44 : decode b_Mod_next 44 = .ok (.getfield 13, 3) := by decide +kernel
theorem d_Mod_next_47 : decode b_Mod_next 47 = .ok (.iload 4, 2) := by decide +kernel
theorem d_Mod_next_49 : decode b_Mod_next 49 = .ok (.iaload, 1) := by decide +kernel
theorem d_Mod_next_50 : decode b_Mod_next 50 = .ok (.iconst (-1), 1) := by decide +kernel
theorem d_Mod_next_51 : decode b_Mod_next 51 = .ok (.if_icmp .eq 6, 3) := by decide +kernel
theorem d_Mod_next_54 : decode b_Mod_next 54 = .ok (.bipush (-5), 2) := by decide +kernel
theorem d_Mod_next_56 : decode b_Mod_next 56 = .ok (.ireturn, 1) := by decide +kernel
theorem d_Mod_next_57 : decode b_Mod_next 57 = .ok (.aload_n 0, 1) := by decide +kernel
theorem d_Mod_next_58 : decode b_Mod_next 58 = .ok (.lload_n 2, 1) := by decide +kernel
theorem d_Mod_next_59 : decode b_Mod_next 59 = .ok (.putfield 89, 3) := by decide +kernel
theorem d_Mod_next_62 : decode b_Mod_next 62 = .ok (.iconst (-1), 1) := by decide +kernel
theorem d_Mod_next_63 : decode b_Mod_next 63 = .ok (.istore 5, 2) := by decide +kernel
theorem d_Mod_next_65 : decode b_Mod_next 65 = .ok (.iconst 0, 1) := by decide +kernel
theorem d_Mod_next_66 : decode b_Mod_next 66 = .ok (.istore 6, 2) := by decide +kernel
theorem d_Mod_next_68 : decode b_Mod_next 68 = .ok (.iload 6, 2) := by decide +kernel
theorem d_Mod_next_70 : decode b_Mod_next 70 = .ok (.bipush 8, 2) := by decide +kernel
theorem d_Mod_next_72 : decode b_Mod_next 72 = .ok (.if_icmp .ge 86, 3) := by decide +kernel
theorem d_Mod_next_75 : decode b_Mod_next 75 = .ok (.iload 5, 2) := by decide +kernel
theorem d_Mod_next_77 : decode b_Mod_next 77 = .ok (.iconst (-1), 1) := by decide +kernel
theorem d_Mod_next_78 : decode b_Mod_next 78 = .ok (.if_icmp .ne 80, 3) := by decide +kernel
theorem d_Mod_next_81 : decode b_Mod_next 81 = .ok (.iconst 0, 1) := by decide +kernel
theorem d_Mod_next_82 : decode b_Mod_next 82 = .ok (.istore 7, 2) := by decide +kernel
theorem d_Mod_next_84 : decode b_Mod_next 84 = .ok (.iload 7, 2) := by decide +kernel
theorem d_Mod_next_86 : decode b_Mod_next 86 = .ok (.aload_n 0, 1) := by decide +kernel
theorem d_Mod_next_87 : decode b_Mod_next 87 = .ok (.getfield 76, 3) := by decide +kernel
theorem d_Mod_next_90 : decode b_Mod_next 90 = .ok (.if_icmp .ge 62, 3) := by decide +kernel
theorem d_Mod_next_93 : decode b_Mod_next 93 = .ok (.aload_n 0, 1) := by decide +kernel
theorem d_Mod_next_94 : decode b_Mod_next 94 = .ok (.getfield 35, 3) := by decide +kernel
theorem d_Mod_next_97 : decode b_Mod_next 97 = .ok (.iload 7, 2) := by decide +kernel
theorem d_Mod_next_99 : decode b_Mod_next 99 = .ok (.iaload, 1) := by decide +kernel
theorem d_Mod_next_100 : decode b_Mod_next 100 = .ok (.aload_n 0, 1) := by decide +kernel
theorem d_Mod_next_101 : decode b_Mod_next 101 = .ok (.getfield 7, 3) := by decide +kernel
theorem d_Mod_next_104 : decode b_Mod_next 104 = .ok (.bipush 8, 2) := by decide +kernel
theorem d_Mod_next_106 : decode b_Mod_next 106 = .ok (.iload 4, 2) := by decide +kernel
theorem d_Mod_next_108 : decode b_Mod_next 108 = .ok (.imul, 1) := by decide +kernel
theorem d_Mod_next_109 : decode b_Mod_next 109 = .ok (.iload 6, 2) := by decide +kernel
theorem d_Mod_next_111 : decode b_Mod_next 111 = .ok (.iadd, 1) := by decide +kernel
theorem d_Mod_next_112 : decode b_Mod_next 112 = .ok (.iaload, 1) := by decide +kernel
theorem d_Mod_next_113 : decode b_Mod_next 113 = .ok (.if_icmp .ne 33, 3) := by decide +kernel
theorem d_Mod_next_116 : decode b_Mod_next 116 = .ok (.aload_n 0, 1) := by decide +kernel
theorem d_Mod_next_117 : decode b_Mod_next 117 = .ok (.iload 7, 2) := by decide +kernel
theorem d_Mod_next_119 : decode b_Mod_next 119 = .ok (.invokevirtual 121, 3) := by decide +kernel
theorem d_Mod_next_122 : decode b_Mod_next 122 = .ok (.ifCond .eq 24, 3) := by decide +kernel
theorem d_Mod_next_125 : decode b_Mod_next 125 = .ok (.iload 5, 2) := by decide +kernel
theorem d_Mod_next_127 : decode b_Mod_next 127 = .ok (.iconst (-1), 1) := by decide +kernel
theorem d_Mod_next_128 : decode b_Mod_next 128 = .ok (.if_icmp .eq 14, 3) := by decide +kernel
theorem d_Mod_next_131 : decode b_Mod_next 131 = .ok (.aload_n 0, 1) := by decide +kernel
theorem d_Mod_next_132 : decode b_Mod_next 132 = .ok (.iload 7, 2) := by decide +kernel
theorem d_Mod_next_134 : decode b_Mod_next 134 = .ok (.iload 5, 2) := by decide +kernel
theorem d_Mod_next_136 : decode b_Mod_next 136 = .ok (.invokevirtual 124, 3) := by decide +kernel
theorem d_Mod_next_139 : decode b_Mod_next 139 = .ok (.ifCond .eq 7, 3) := by decide +kernel
theorem d_Mod_next_142 : decode b_Mod_next 142 = .ok (.iload 7, 2) := by decide +kernel
theorem d_Mod_next_144 : decode b_Mod_next 144 = .ok (.istore 5, 2) := by decide +kernel
theorem d_Mod_next_146 : decode b_Mod_next 146 = .ok (.iinc 7 1, 3) := by decide +kernel
theorem d_Mod_next_149 : decode b_Mod_next 149 = .ok (.goto (-65), 3) := by decide +kernel
theorem d_Mod_next_152 : decode b_Mod_next 152 = .ok (.iinc 6 1, 3) := by decide +kernel
theorem d_Mod_next_155 : decode b_Mod_next 155 = .ok (.goto (-87), 3) := by decide +kernel
theorem d_Mod_next_158 : decode b_Mod_next 158 = .ok (.iload 5, 2) := by decide +kernel
theorem d_Mod_next_160 : decode b_Mod_next 160 = .ok (.iconst (-1), 1) := by decide +kernel
theorem d_Mod_next_161 : decode b_Mod_next 161 = .ok (.if_icmp .ne 5, 3) := by decide +kernel
theorem d_Mod_next_164 : decode b_Mod_next 164 = .ok (.iconst 0, 1) := by decide +kernel
theorem d_Mod_next_165 : decode b_Mod_next 165 = .ok (.ireturn, 1) := by decide +kernel
theorem d_Mod_next_166 : decode b_Mod_next 166 = .ok (.aload_n 0, 1) := by decide +kernel
theorem d_Mod_next_167 : decode b_Mod_next 167 = .ok (.getfield 13, 3) := by decide +kernel
theorem d_Mod_next_170 : decode b_Mod_next 170 = .ok (.iload 4, 2) := by decide +kernel
theorem d_Mod_next_172 : decode b_Mod_next 172 = .ok (.iload 5, 2) := by decide +kernel
theorem d_Mod_next_174 : decode b_Mod_next 174 = .ok (.iastore, 1) := by decide +kernel
theorem d_Mod_next_175 : decode b_Mod_next 175 = .ok (.aload_n 0, 1) := by decide +kernel
theorem d_Mod_next_176 : decode b_Mod_next 176 = .ok (.getfield 44, 3) := by decide +kernel
theorem d_Mod_next_179 : decode b_Mod_next 179 = .ok (.iload 5, 2) := by decide +kernel
theorem d_Mod_next_181 : decode b_Mod_next 181 = .ok (.iconst 2, 1) := by decide +kernel
theorem d_Mod_next_182 : decode b_Mod_next 182 = .ok (.iastore, 1) := by decide +kernel
theorem d_Mod_next_183 : decode b_Mod_next 183 = .ok (.aload_n 0, 1) := by decide +kernel
theorem d_Mod_next_184 : decode b_Mod_next 184 = .ok (.getfield 66, 3) := by decide +kernel
theorem d_Mod_next_187 : decode b_Mod_next 187 = .ok (.iload 5, 2) := by decide +kernel
theorem d_Mod_next_189 : decode b_Mod_next 189 = .ok (.aload_n 0, 1) := by decide +kernel
theorem d_Mod_next_190 : decode b_Mod_next 190 = .ok (.getfield 89, 3) := by decide +kernel
theorem d_Mod_next_193 : decode b_Mod_next 193 = .ok (.lastore, 1) := by decide +kernel
theorem d_Mod_next_194 : decode b_Mod_next 194 = .ok (.iload 5, 2) := by decide +kernel
theorem d_Mod_next_196 : decode b_Mod_next 196 = .ok (.iconst 1, 1) := by decide +kernel
theorem d_Mod_next_197 : decode b_Mod_next 197 = .ok (.iadd, 1) := by decide +kernel
theorem d_Mod_next_198 : decode b_Mod_next 198 = .ok (.ireturn, 1) := by decide +kernel
theorem d_Mod_end_0 : decode b_Mod_end 0 = .ok (.aload_n 0, 1) := by decide +kernel
theorem d_Mod_end_1 : decode b_Mod_end 1 = .ok (.iconst 0, 1) := by decide +kernel
theorem d_Mod_end_2 : decode b_Mod_end 2 = .ok (.putfield 69, 3) := by decide +kernel
theorem d_Mod_end_5 : decode b_Mod_end 5 = .ok (.aload_n 0, 1) := by decide +kernel
theorem d_Mod_end_6 : decode b_Mod_end 6 = .ok (.iload_n 1, 1) := by decide +kernel
theorem d_Mod_end_7 : decode b_Mod_end 7 = .ok (.invokevirtual 93, 3) := by decide +kernel
theorem d_Mod_end_10 : decode b_Mod_end 10 = .ok (.ifCond .ne 6, 3) := by decide +kernel
theorem d_Mod_end_13 : decode b_Mod_end 13 = .ok (.bipush (-2), 2) := by decide +kernel
theorem d_Mod_end_15 : decode b_Mod_end 15 = .ok (.ireturn, 1) := by decide +kernel
theorem d_Mod_end_16 : decode b_Mod_end 16 = .ok (.aload_n 0, 1) := by decide +kernel
theorem d_Mod_end_17 : decode b_Mod_end 17 = .ok (.getfield 44, 3) := by decide +kernel
theorem d_Mod_end_20 : decode b_Mod_end 20 = .ok (.iload_n 1, 1) := by decide +kernel
theorem d_Mod_end_21 : decode b_Mod_end 21 = .ok (.iconst 1, 1) := by decide +kernel
theorem d_Mod_end_22 : decode b_Mod_end 22 = .ok (.isub, 1) := by decide +kernel
theorem d_Mod_end_23 : decode b_Mod_end 23 = .ok (.iaload, 1) := by decide +kernel
theorem d_Mod_end_24 : decode b_Mod_end 24 = .ok (.iconst 2, 1) := by decide +kernel
theorem d_Mod_end_25 : decode b_Mod_end 25 = .ok (.if_icmp .eq 6, 3) := by decide +kernel
theorem d_Mod_end_28 : decode b_Mod_end 28 = .ok (.bipush (-5), 2) := by decide +kernel
theorem d_Mod_end_30 : decode b_Mod_end 30 = .ok (.ireturn, 1) := by decide +kernel
theorem d_Mod_end_31 : decode b_Mod_end 31 = .ok (.aload_n 0, 1) := by decide +kernel
theorem d_Mod_end_32 : decode b_Mod_end 32 = .ok (.getfield 44, 3) := by decide +kernel
theorem d_Mod_end_35 : decode b_Mod_end 35 = .ok (.iload_n 1, 1) := by decide +kernel
theorem d_Mod_end_36 : decode b_Mod_end 36 = .ok (.iconst 1, 1) := by decide +kernel
theorem d_Mod_end_37 : decode b_Mod_end 37 = .ok (.isub, 1) := by decide +kernel
theorem d_Mod_end_38 : decode b_Mod_end 38 = .ok (.iconst 3, 1) := by decide +kernel
theorem d_Mod_end_39 : decode b_Mod_end 39 = .ok (.iastore, 1) := by decide +kernel
theorem d_Mod_end_40 : decode b_Mod_end 40 = .ok (.iconst 0, 1) := by decide +kernel
theorem d_Mod_end_41 : decode b_Mod_end 41 = .ok (.istore_n 2, 1) := by decide +kernel
theorem d_Mod_end_42 : decode b_Mod_end 42 = .ok (.iload_n 2, 1) := by decide +kernel
theorem d_Mod_end_43 : decode b_Mod_end 43 = .ok (.bipush 12, 2) := by decide +kernel
theorem d_Mod_end_45 : decode b_Mod_end 45 = .ok (.if_icmp .ge 37, 3) := by decide +kernel
theorem d_Mod_end_48 : decode b_Mod_end 48 = .ok (.aload_n 0, 1) := by decide +kernel
theorem d_Mod_end_49 : decode b_Mod_end 49 = .ok (.getfield 13, 3) := by decide +kernel
theorem d_Mod_end_52 : decode b_Mod_end 52 = .ok (.iload_n 2, 1) := by decide +kernel
theorem d_Mod_end_53 : decode b_Mod_end 53 = .ok (.aload_n 0, 1) := by decide +kernel
theorem d_Mod_end_54 : decode b_Mod_end 54 = .ok (.getfield 13, 3) := by decide +kernel
theorem d_Mod_end_57 : decode b_Mod_end 57 = .ok (.iload_n 2, 1) := by decide +kernel
theorem d_Mod_end_58 : decode b_Mod_end 58 = .ok (.iaload, 1) := by decide +kernel
theorem d_Mod_end_59 : decode b_Mod_end 59 = .ok (.iload_n 1, 1) := by decide +kernel
theorem d_Mod_end_60 : decode b_Mod_end 60 = .ok (.iconst 1, 1) := by decide +kernel
theorem d_Mod_end_61 : decode b_Mod_end 61 = .ok (.isub, 1) := by decide +kernel
theorem d_Mod_end_62 : decode b_Mod_end 62 = .ok (.if_icmp .ne 7, 3) := by decide +kernel
theorem d_Mod_end_65 : decode b_Mod_end 65 = .ok (.iconst (-1), 1) := by decide +kernel
theorem d_Mod_end_66 : decode b_Mod_end 66 = .ok (.goto 9, 3) := by decide +kernel
theorem d_Mod_end_69 : decode b_Mod_end 69 = .ok (.aload_n 0, 1) := by decide +kernel
theorem d_Mod_end_70 : decode b_Mod_end 70 = .ok (.getfield 13, 3) := by decide +kernel
theorem d_Mod_end_73 : decode b_Mod_end 73 = .ok (.iload_n 2, 1) := by decide +kernel
theorem d_Mod_end_74 : decode b_Mod_end 74 = .ok (.iaload, 1) := by decide +kernel
theorem d_Mod_end_75 : decode b_Mod_end 75 = .ok (.iastore, 1) := by decide +kernel
theorem d_Mod_end_76 : decode b_Mod_end 76 = .ok (.iinc 2 1, 3) := by decide +kernel
theorem d_Mod_end_79 : decode b_Mod_end 79 = .ok (.goto (-37), 3) := by decide +kernel
theorem d_Mod_end_82 : decode b_Mod_end 82 = .ok (.iconst 1, 1) := by decide +kernel
theorem d_Mod_end_83 : decode b_Mod_end 83 = .ok (.ireturn, 1) := by decide +kernel
theorem d_Mod_age_0 : decode b_Mod_age 0 = .ok (.aload_n 0, 1) := by decide +kernel
theorem d_Mod_age_1 : decode b_Mod_age 1 = .ok (.iconst 0, 1) := by decide +kernel
theorem d_Mod_age_2 : decode b_Mod_age 2 = .ok (.putfield 69, 3) := by decide +kernel
theorem d_Mod_age_5 : decode b_Mod_age 5 = .ok (.lload_n 1, 1) := by decide +kernel
theorem d_Mod_age_6 : decode b_Mod_age 6 = .ok (.lconst 0, 1) := by decide +kernel
theorem d_Mod_age_7 : decode b_Mod_age 7 = .ok (.lcmp, 1) := by decide +kernel
theorem d_Mod_age_8 : decode b_Mod_age 8 = .ok (.ifCond .lt 13, 3) := by decide +kernel
theorem d_Mod_age_11 : decode b_Mod_age 11 = .ok (.iload_n 3, 1) := by decide +kernel
theorem d_Mod_age_12 : decode b_Mod_age 12 = .ok (.ifCond .lt 9, 3) := by decide +kernel
theorem d_Mod_age_15 : decode b_Mod_age 15 = .ok (.iload_n 3, 1) := by decide +kernel
theorem d_Mod_age_16 : decode b_Mod_age 16 = .ok (.bipush 15, 2) := by decide +kernel
theorem d_Mod_age_18 : decode b_Mod_age 18 = .ok (.if_icmp .le 6, 3) := by decide +kernel
theorem d_Mod_age_21 : decode b_Mod_age 21 = .ok (.bipush (-4), 2) := by decide +kernel
theorem d_Mod_age_23 : decode b_Mod_age 23 = .ok (.ireturn, 1) := by decide +kernel
theorem d_Mod_age_24 : decode b_Mod_age 24 = .ok (.aload_n 0, 1) := by decide +kernel
theorem d_Mod_age_25 : decode b_Mod_age 25 = .ok (.lload_n 1, 1) := by decide +kernel
theorem d_Mod_age_26 : decode b_Mod_age 26 = .ok (.putfield 109, 3) := by decide +kernel
theorem d_Mod_age_29 : decode b_Mod_age 29 = .ok (.aload_n 0, 1) := by decide +kernel
theorem d_Mod_age_30 : decode b_Mod_age 30 = .ok (.iload_n 3, 1) := by decide +kernel
theorem d_Mod_age_31 : decode b_Mod_age 31 = .ok (.putfield 114, 3) := by decide +kernel
theorem d_Mod_age_34 : decode b_Mod_age 34 = .ok (.iconst 1, 1) := by decide +kernel
theorem d_Mod_age_35 : decode b_Mod_age 35 = .ok (.ireturn, 1) := by decide +kernel
theorem d_Mod_drain_0 : decode b_Mod_drain 0 = .ok (.aload_n 0, 1) := by decide +kernel
theorem d_Mod_drain_1 : decode b_Mod_drain 1 = .ok (.iconst 0, 1) := by decide +kernel
theorem d_Mod_drain_2 : decode b_Mod_drain 2 = .ok (.putfield 69, 3) := by decide +kernel
theorem d_Mod_drain_5 : decode b_Mod_drain 5 = .ok (.aload_n 0, 1) := by decide +kernel
theorem d_Mod_drain_6 : decode b_Mod_drain 6 = .ok (.iload_n 1, 1) := by decide +kernel
theorem d_Mod_drain_7 : decode b_Mod_drain 7 = .ok (.invokevirtual 79, 3) := by decide +kernel
theorem d_Mod_drain_10 : decode b_Mod_drain 10 = .ok (.ifCond .ne 6, 3) := by decide +kernel
theorem d_Mod_drain_13 : decode b_Mod_drain 13 = .ok (.bipush (-2), 2) := by decide +kernel
theorem d_Mod_drain_15 : decode b_Mod_drain 15 = .ok (.ireturn, 1) := by decide +kernel
theorem d_Mod_drain_16 : decode b_Mod_drain 16 = .ok (.aload_n 0, 1) := by decide +kernel
theorem d_Mod_drain_17 : decode b_Mod_drain 17 = .ok (.getfield 16, 3) := by decide +kernel
theorem d_Mod_drain_20 : decode b_Mod_drain 20 = .ok (.iload_n 1, 1) := by decide +kernel
theorem d_Mod_drain_21 : decode b_Mod_drain 21 = .ok (.iconst 1, 1) := by decide +kernel
theorem d_Mod_drain_22 : decode b_Mod_drain 22 = .ok (.isub, 1) := by decide +kernel
theorem d_Mod_drain_23 : decode b_Mod_drain 23 = .ok (.baload, 1) := by decide +kernel
theorem d_Mod_drain_24 : decode b_Mod_drain 24 = .ok (.istore_n 3, 1) := by decide +kernel
theorem d_Mod_drain_25 : decode b_Mod_drain 25 = .ok (.aload_n 0, 1) := by decide +kernel
theorem d_Mod_drain_26 : decode b_Mod_drain 26 = .ok (.getfield 16, 3) := by decide +kernel
theorem d_Mod_drain_29 : decode b_Mod_drain 29 = .ok (.iload_n 1, 1) := by decide +kernel
theorem d_Mod_drain_30 : decode b_Mod_drain 30 = .ok (.iconst 1, 1) := by decide +kernel
theorem d_Mod_drain_31 : decode b_Mod_drain 31 = .ok (.isub, 1) := by decide +kernel
theorem d_Mod_drain_32 : decode b_Mod_drain 32 = .ok (.iload_n 2, 1) := by decide +kernel
theorem d_Mod_drain_33 : decode b_Mod_drain 33 = .ok (.bastore, 1) := by decide +kernel
theorem d_Mod_drain_34 : decode b_Mod_drain 34 = .ok (.iload_n 3, 1) := by decide +kernel
theorem d_Mod_drain_35 : decode b_Mod_drain 35 = .ok (.iload_n 2, 1) := by decide +kernel
theorem d_Mod_drain_36 : decode b_Mod_drain 36 = .ok (.if_icmp .ne 7, 3) := by decide +kernel
theorem d_Mod_drain_39 : decode b_Mod_drain 39 = .ok (.iconst 0, 1) := by decide +kernel
theorem d_Mod_drain_40 : decode b_Mod_drain 40 = .ok (.goto 4, 3) := by decide +kernel
theorem d_Mod_drain_43 : decode b_Mod_drain 43 = .ok (.iconst 1, 1) := by decide +kernel
theorem d_Mod_drain_44 : decode b_Mod_drain 44 = .ok (.ireturn, 1) := by decide +kernel
theorem d_Mod_weight_0 : decode b_Mod_weight 0 = .ok (.aload_n 0, 1) := by decide +kernel
theorem d_Mod_weight_1 : decode b_Mod_weight 1 = .ok (.iconst 0, 1) := by decide +kernel
theorem d_Mod_weight_2 : decode b_Mod_weight 2 = .ok (.putfield 69, 3) := by decide +kernel
theorem d_Mod_weight_5 : decode b_Mod_weight 5 = .ok (.iload_n 1, 1) := by decide +kernel
theorem d_Mod_weight_6 : decode b_Mod_weight 6 = .ok (.invokestatic 83, 3) := by decide +kernel
theorem d_Mod_weight_9 : decode b_Mod_weight 9 = .ok (.ifCond .eq 14, 3) := by decide +kernel
theorem d_Mod_weight_12 : decode b_Mod_weight 12 = .ok (.iload_n 2, 1) := by decide +kernel
theorem d_Mod_weight_13 : decode b_Mod_weight 13 = .ok (.ifCond .lt 10, 3) := by decide +kernel
theorem d_Mod_weight_16 : decode b_Mod_weight 16 = .ok (.iload_n 2, 1) := by decide +kernel
theorem d_Mod_weight_17 : decode b_Mod_weight 17 = .ok (.sipush 1000, 3) := by decide +kernel
theorem d_Mod_weight_20 : decode b_Mod_weight 20 = .ok (.if_icmp .le 6, 3) := by decide +kernel
theorem d_Mod_weight_23 : decode b_Mod_weight 23 = .ok (.bipush (-4), 2) := by decide +kernel
theorem d_Mod_weight_25 : decode b_Mod_weight 25 = .ok (.ireturn, 1) := by decide +kernel
theorem d_Mod_weight_26 : decode b_Mod_weight 26 = .ok (.aload_n 0, 1) := by decide +kernel
theorem d_Mod_weight_27 : decode b_Mod_weight 27 = .ok (.getfield 29, 3) := by decide +kernel
theorem d_Mod_weight_30 : decode b_Mod_weight 30 = .ok (.iload_n 1, 1) := by decide +kernel
theorem d_Mod_weight_31 : decode b_Mod_weight 31 = .ok (.iload_n 2, 1) := by decide +kernel
theorem d_Mod_weight_32 : decode b_Mod_weight 32 = .ok (.iastore, 1) := by decide +kernel
theorem d_Mod_weight_33 : decode b_Mod_weight 33 = .ok (.iconst 1, 1) := by decide +kernel
theorem d_Mod_weight_34 : decode b_Mod_weight 34 = .ok (.ireturn, 1) := by decide +kernel
theorem d_Mod_share_0 : decode b_Mod_share 0 = .ok (.aload_n 0, 1) := by decide +kernel
theorem d_Mod_share_1 : decode b_Mod_share 1 = .ok (.iconst 0, 1) := by decide +kernel
theorem d_Mod_share_2 : decode b_Mod_share 2 = .ok (.putfield 69, 3) := by decide +kernel
theorem d_Mod_share_5 : decode b_Mod_share 5 = .ok (.iload_n 1, 1) := by decide +kernel
theorem d_Mod_share_6 : decode b_Mod_share 6 = .ok (.invokestatic 83, 3) := by decide +kernel
theorem d_Mod_share_9 : decode b_Mod_share 9 = .ok (.ifCond .eq 9, 3) := by decide +kernel
theorem d_Mod_share_12 : decode b_Mod_share 12 = .ok (.lload_n 2, 1) := by decide +kernel
theorem d_Mod_share_13 : decode b_Mod_share 13 = .ok (.lconst 0, 1) := by decide +kernel
theorem d_Mod_share_14 : decode b_Mod_share 14 = .ok (.lcmp, 1) := by decide +kernel
theorem d_Mod_share_15 : decode b_Mod_share 15 = .ok (.ifCond .ge 7, 3) := by decide +kernel
theorem d_Mod_share_18 : decode b_Mod_share 18 = .ok (.ldc2_w 127, 3) := by decide +kernel
theorem d_Mod_share_21 : decode b_Mod_share 21 = .ok (.lreturn, 1) := by decide +kernel
theorem d_Mod_share_22 : decode b_Mod_share 22 = .ok (.lconst 0, 1) := by decide +kernel
theorem d_Mod_share_23 : decode b_Mod_share 23 = .ok (.lstore 4, 2) := by decide +kernel
theorem d_Mod_share_25 : decode b_Mod_share 25 = .ok (.iconst 0, 1) := by decide +kernel
theorem d_Mod_share_26 : decode b_Mod_share 26 = .ok (.istore 6, 2) := by decide +kernel
theorem d_Mod_share_28 : decode b_Mod_share 28 = .ok (.iload 6, 2) := by decide +kernel
theorem d_Mod_share_30 : decode b_Mod_share 30 = .ok (.bipush 36, 2) := by decide +kernel
theorem d_Mod_share_32 : decode b_Mod_share 32 = .ok (.if_icmp .ge 22, 3) := by decide +kernel
theorem d_Mod_share_35 : decode b_Mod_share 35 = .ok (.lload 4, 2) := by decide +kernel
theorem d_Mod_share_37 : decode b_Mod_share 37 = .ok (.aload_n 0, 1) := by decide +kernel
theorem d_Mod_share_38 : decode b_Mod_share 38 = .ok (.getfield 29, 3) := by decide +kernel
theorem d_Mod_share_41 : decode b_Mod_share 41 = .ok (.iload 6, 2) := by decide +kernel
theorem d_Mod_share_43 : decode b_Mod_share 43 = .ok (.iaload, 1) := by decide +kernel
theorem d_Mod_share_44 : decode b_Mod_share 44 = .ok (.i2l, 1) := by decide +kernel
theorem d_Mod_share_45 : decode b_Mod_share 45 = .ok (.ladd, 1) := by decide +kernel
theorem d_Mod_share_46 : decode b_Mod_share 46 = .ok (.lstore 4, 2) := by decide +kernel
theorem d_Mod_share_48 : decode b_Mod_share 48 = .ok (.iinc 6 1, 3) := by decide +kernel
theorem d_Mod_share_51 : decode b_Mod_share 51 = .ok (.goto (-23), 3) := by decide +kernel
theorem d_Mod_share_54 : decode b_Mod_share 54 = .ok (.lload 4, 2) := by decide +kernel
theorem d_Mod_share_56 : decode b_Mod_share 56 = .ok (.lconst 0, 1) := by decide +kernel
theorem d_Mod_share_57 : decode b_Mod_share 57 = .ok (.lcmp, 1) := by decide +kernel
theorem d_Mod_share_58 : decode b_Mod_share 58 = .ok (.ifCond .ne 10, 3) := by decide +kernel
theorem d_Mod_share_61 : decode b_Mod_share 61 = .ok (.aload_n 0, 1) := by decide +kernel
theorem d_Mod_share_62 : decode b_Mod_share 62 = .ok (.iconst 1, 1) := by decide +kernel
theorem d_Mod_share_63 : decode b_Mod_share 63 = .ok (.putfield 69, 3) := by decide +kernel
theorem d_Mod_share_66 : decode b_Mod_share 66 = .ok (.lconst 0, 1) := by decide +kernel
theorem d_Mod_share_67 : decode b_Mod_share 67 = .ok (.lreturn, 1) := by decide +kernel
theorem d_Mod_share_68 : decode b_Mod_share 68 = .ok (.lload_n 2, 1) := by decide +kernel
theorem d_Mod_share_69 : decode b_Mod_share 69 = .ok (.lload 4, 2) := by decide +kernel
theorem d_Mod_share_71 : decode b_Mod_share 71 = .ok (.ldiv, 1) := by decide +kernel
theorem d_Mod_share_72 : decode b_Mod_share 72 = .ok (.lstore 6, 2) := by decide +kernel
theorem d_Mod_share_74 : decode b_Mod_share 74 = .ok (.lload_n 2, 1) := by decide +kernel
theorem d_Mod_share_75 : decode b_Mod_share 75 = .ok (.lload 4, 2) := by decide +kernel
theorem d_Mod_share_77 : decode b_Mod_share 77 = .ok (.lrem, 1) := by decide +kernel
theorem d_Mod_share_78 : decode b_Mod_share 78 = .ok (.lstore 8, 2) := by decide +kernel
theorem d_Mod_share_80 : decode b_Mod_share 80 = .ok (.lload_n 2, 1) := by decide +kernel
theorem d_Mod_share_81 : decode b_Mod_share 81 = .ok (.lstore 10, 2) := by decide +kernel
theorem d_Mod_share_83 : decode b_Mod_share 83 = .ok (.iconst 0, 1) := by decide +kernel
theorem d_Mod_share_84 : decode b_Mod_share 84 = .ok (.istore 12, 2) := by decide +kernel
theorem d_Mod_share_86 : decode b_Mod_share 86 = .ok (.lload 8, 2) := by decide +kernel
theorem d_Mod_share_88 : decode b_Mod_share 88 = .ok (.aload_n 0, 1) := by decide +kernel
theorem d_Mod_share_89 : decode b_Mod_share 89 = .ok (.getfield 29, 3) := by decide +kernel
theorem d_Mod_share_92 : decode b_Mod_share 92 = .ok (.iload_n 1, 1) := by decide +kernel
theorem d_Mod_share_93 : decode b_Mod_share 93 = .ok (.iaload, 1) := by decide +kernel
