theorem d_Mod_share_94 : decode b_Mod_share 94 = .ok (.i2l, 1) := by decide +kernel
theorem d_Mod_share_95 : decode b_Mod_share 95 = .ok (.lmul, 1) := by decide +kernel
theorem d_Mod_share_96 : decode b_Mod_share 96 = .ok (.lload 4, 2) := by decide +kernel
theorem d_Mod_share_98 : decode b_Mod_share 98 = .ok (.lrem, 1) := by decide +kernel
theorem d_Mod_share_99 : decode b_Mod_share 99 = .ok (.lstore 13, 2) := by decide +kernel
theorem d_Mod_share_101 : decode b_Mod_share 101 = .ok (.iconst 0, 1) := by decide +kernel
theorem d_Mod_share_102 : decode b_Mod_share 102 = .ok (.istore 15, 2) := by decide +kernel
theorem d_Mod_share_104 : decode b_Mod_share 104 = .ok (.iload 15, 2) := by decide +kernel
theorem d_Mod_share_106 : decode b_Mod_share 106 = .ok (.bipush 36, 2) := by decide +kernel
theorem d_Mod_share_108 : decode b_Mod_share 108 = .ok (.if_icmp .ge 88, 3) := by decide +kernel
theorem d_Mod_share_111 : decode b_Mod_share 111 = .ok (.lload 10, 2) := by decide +kernel
theorem d_Mod_share_113 : decode b_Mod_share 113 = .ok (.lload 6, 2) := by decide +kernel
theorem d_Mod_share_115 : decode b_Mod_share 115 = .ok (.aload_n 0, 1) := by decide +kernel
theorem d_Mod_share_116 : decode b_Mod_share 116 = .ok (.getfield 29, 3) := by decide +kernel
theorem d_Mod_share_119 : decode b_Mod_share 119 = .ok (.iload 15, 2) := by decide +kernel
theorem d_Mod_share_121 : decode b_Mod_share 121 = .ok (.iaload, 1) := by decide +kernel
theorem d_Mod_share_122 : decode b_Mod_share 122 = .ok (.i2l, 1) := by decide +kernel
theorem d_Mod_share_123 : decode b_Mod_share 123 = .ok (.lmul, 1) := by decide +kernel
theorem d_Mod_share_124 : decode b_Mod_share 124 = .ok (.lload 8, 2) := by decide +kernel
theorem d_Mod_share_126 : decode b_Mod_share 126 = .ok (.aload_n 0, 1) := by decide +kernel
theorem d_Mod_share_127 : decode b_Mod_share 127 = .ok (.getfield 29, 3) := by decide +kernel
theorem d_Mod_share_130 : decode b_Mod_share 130 = .ok (.iload 15, 2) := by decide +kernel
theorem d_Mod_share_132 : decode b_Mod_share 132 = .ok (.iaload, 1) := by decide +kernel
theorem d_Mod_share_133 : decode b_Mod_share 133 = .ok (.i2l, 1) := by decide +kernel
theorem d_Mod_share_134 : decode b_Mod_share 134 = .ok (.lmul, 1) := by decide +kernel
theorem d_Mod_share_135 : decode b_Mod_share 135 = .ok (.lload 4, 2) := by decide +kernel
theorem d_Mod_share_137 : decode b_Mod_share 137 = .ok (.ldiv, 1) := by decide +kernel
theorem d_Mod_share_138 : decode b_Mod_share 138 = .ok (.ladd, 1) := by decide +kernel
theorem d_Mod_share_139 : decode b_Mod_share 139 = .ok (.lsub, 1) := by decide +kernel
theorem d_Mod_share_140 : decode b_Mod_share 140 = .ok (.lstore 10, 2) := by decide +kernel
theorem d_Mod_share_142 : decode b_Mod_share 142 = .ok (.lload 8, 2) := by decide +kernel
theorem d_Mod_share_144 : decode b_Mod_share 144 = .ok (.aload_n 0, 1) := by decide +kernel
theorem d_Mod_share_145 : decode b_Mod_share 145 = .ok (.getfield 29, 3) := by decide +kernel
theorem d_Mod_share_148 : decode b_Mod_share 148 = .ok (.iload 15, 2) := by decide +kernel
theorem d_Mod_share_150 : decode b_Mod_share 150 = .ok (.iaload, 1) := by decide +kernel
theorem d_Mod_share_151 : decode b_Mod_share 151 = .ok (.i2l, 1) := by decide +kernel
theorem d_Mod_share_152 : decode b_Mod_share 152 = .ok (.lmul, 1) := by decide +kernel
theorem d_Mod_share_153 : decode b_Mod_share 153 = .ok (.lload 4, 2) := by decide +kernel
theorem d_Mod_share_155 : decode b_Mod_share 155 = .ok (.lrem, 1) := by decide +kernel
theorem d_Mod_share_156 : decode b_Mod_share 156 = .ok (.lstore 16, 2) := by decide +kernel
theorem d_Mod_share_158 : decode b_Mod_share 158 = .ok (.iload 12, 2) := by decide +kernel
theorem d_Mod_share_160 : decode b_Mod_share 160 = .ok (.lload 16, 2) := by decide +kernel
theorem d_Mod_share_162 : decode b_Mod_share 162 = .ok (.lload 13, 2) := by decide +kernel
theorem d_Mod_share_164 : decode b_Mod_share 164 = .ok (.lcmp, 1) := by decide +kernel
theorem d_Mod_share_165 : decode b_Mod_share 165 = .ok (.ifCond .gt 17, 3) := by decide +kernel
theorem d_Mod_share_168 : decode b_Mod_share 168 = .ok (.lload 16, 2) := by decide +kernel
theorem d_Mod_share_170 : decode b_Mod_share 170 = .ok (.lload 13, 2) := by decide +kernel
theorem d_Mod_share_172 : decode b_Mod_share 172 = .ok (.lcmp, 1) := by decide +kernel
theorem d_Mod_share_173 : decode b_Mod_share 173 = .ok (.ifCond .ne 13, 3) := by decide +kernel
theorem d_Mod_share_176 : decode b_Mod_share 176 = .ok (.iload 15, 2) := by decide +kernel
theorem d_Mod_share_178 : decode b_Mod_share 178 = .ok (.iload_n 1, 1) := by decide +kernel
theorem d_Mod_share_179 : decode b_Mod_share 179 = .ok (.if_icmp .ge 7, 3) := by decide +kernel
theorem d_Mod_share_182 : decode b_Mod_share 182 = .ok (.iconst 1, 1) := by decide +kernel
theorem d_Mod_share_183 : decode b_Mod_share 183 = .ok (.goto 4, 3) := by decide +kernel
theorem d_Mod_share_186 : decode b_Mod_share 186 = .ok (.iconst 0, 1) := by decide +kernel
theorem d_Mod_share_187 : decode b_Mod_share 187 = .ok (.iadd, 1) := by decide +kernel
theorem d_Mod_share_188 : decode b_Mod_share 188 = .ok (.istore 12, 2) := by decide +kernel
theorem d_Mod_share_190 : decode b_Mod_share 190 = .ok (.iinc 15 1, 3) := by decide +kernel
theorem d_Mod_share_193 : decode b_Mod_share 193 = .ok (.goto (-89), 3) := by decide +kernel
theorem d_Mod_share_196 : decode b_Mod_share 196 = .ok (.lload 6, 2) := by decide +kernel
theorem d_Mod_share_198 : decode b_Mod_share 198 = .ok (.aload_n 0, 1) := by decide +kernel
theorem d_Mod_share_199 : decode b_Mod_share 199 = .ok (.getfield 29, 3) := by decide +kernel
theorem d_Mod_share_202 : decode b_Mod_share 202 = .ok (.iload_n 1, 1) := by decide +kernel
theorem d_Mod_share_203 : decode b_Mod_share 203 = .ok (.iaload, 1) := by decide +kernel
theorem d_Mod_share_204 : decode b_Mod_share 204 = .ok (.i2l, 1) := by decide +kernel
theorem d_Mod_share_205 : decode b_Mod_share 205 = .ok (.lmul, 1) := by decide +kernel
theorem d_Mod_share_206 : decode b_Mod_share 206 = .ok (.lload 8, 2) := by decide +kernel
theorem d_Mod_share_208 : decode b_Mod_share 208 = .ok (.aload_n 0, 1) := by decide +kernel
theorem d_Mod_share_209 : decode b_Mod_share 209 = .ok (.getfield 29, 3) := by decide +kernel
theorem d_Mod_share_212 : decode b_Mod_share 212 = .ok (.iload_n 1, 1) := by decide +kernel
theorem d_Mod_share_213 : decode b_Mod_share 213 = .ok (.iaload, 1) := by decide +kernel
theorem d_Mod_share_214 : decode b_Mod_share 214 = .ok (.i2l, 1) := by decide +kernel
theorem d_Mod_share_215 : decode b_Mod_share 215 = .ok (.lmul, 1) := by decide +kernel
theorem d_Mod_share_216 : decode b_Mod_share 216 = .ok (.lload 4, 2) := by decide +kernel
theorem d_Mod_share_218 : decode b_Mod_share 218 = .ok (.ldiv, 1) := by decide +kernel
theorem d_Mod_share_219 : decode b_Mod_share 219 = .ok (.ladd, 1) := by decide +kernel
theorem d_Mod_share_220 : decode b_Mod_share 220 = .ok (.iload 12, 2) := by decide +kernel
theorem d_Mod_share_222 : decode b_Mod_share 222 = .ok (.i2l, 1) := by decide +kernel
theorem d_Mod_share_223 : decode b_Mod_share 223 = .ok (.lload 10, 2) := by decide +kernel
theorem d_Mod_share_225 : decode b_Mod_share 225 = .ok (.lcmp, 1) := by decide +kernel
theorem d_Mod_share_226 : decode b_Mod_share 226 = .ok (.ifCond .ge 7, 3) := by decide +kernel
theorem d_Mod_share_229 : decode b_Mod_share 229 = .ok (.lconst 1, 1) := by decide +kernel
theorem d_Mod_share_230 : decode b_Mod_share 230 = .ok (.goto 4, 3) := by decide +kernel
theorem d_Mod_share_233 : decode b_Mod_share 233 = .ok (.lconst 0, 1) := by decide +kernel
theorem d_Mod_share_234 : decode b_Mod_share 234 = .ok (.ladd, 1) := by decide +kernel
theorem d_Mod_share_235 : decode b_Mod_share 235 = .ok (.lreturn, 1) := by decide +kernel
theorem d_Mod_order_0 : decode b_Mod_order 0 = .ok (.aload_n 0, 1) := by decide +kernel
theorem d_Mod_order_1 : decode b_Mod_order 1 = .ok (.iconst 0, 1) := by decide +kernel
theorem d_Mod_order_2 : decode b_Mod_order 2 = .ok (.putfield 69, 3) := by decide +kernel
theorem d_Mod_order_5 : decode b_Mod_order 5 = .ok (.iconst 0, 1) := by decide +kernel
theorem d_Mod_order_6 : decode b_Mod_order 6 = .ok (.istore_n 2, 1) := by decide +kernel
theorem d_Mod_order_7 : decode b_Mod_order 7 = .ok (.iload_n 2, 1) := by decide +kernel
theorem d_Mod_order_8 : decode b_Mod_order 8 = .ok (.aload_n 0, 1) := by decide +kernel
theorem d_Mod_order_9 : decode b_Mod_order 9 = .ok (.getfield 76, 3) := by decide +kernel
theorem d_Mod_order_12 : decode b_Mod_order 12 = .ok (.if_icmp .ge 103, 3) := by decide +kernel
theorem d_Mod_order_15 : decode b_Mod_order 15 = .ok (.aload_n 0, 1) := by decide +kernel
theorem d_Mod_order_16 : decode b_Mod_order 16 = .ok (.getfield 44, 3) := by decide +kernel
theorem d_Mod_order_19 : decode b_Mod_order 19 = .ok (.iload_n 2, 1) := by decide +kernel
theorem d_Mod_order_20 : decode b_Mod_order 20 = .ok (.iaload, 1) := by decide +kernel
theorem d_Mod_order_21 : decode b_Mod_order 21 = .ok (.ifCond .ne 88, 3) := by decide +kernel
theorem d_Mod_order_24 : decode b_Mod_order 24 = .ok (.aload_n 0, 1) := by decide +kernel
theorem d_Mod_order_25 : decode b_Mod_order 25 = .ok (.getfield 50, 3) := by decide +kernel
theorem d_Mod_order_28 : decode b_Mod_order 28 = .ok (.iload_n 2, 1) := by decide +kernel
theorem d_Mod_order_29 : decode b_Mod_order 29 = .ok (.baload, 1) := by decide +kernel
theorem d_Mod_order_30 : decode b_Mod_order 30 = .ok (.ifCond .eq 6, 3) := by decide +kernel
theorem d_Mod_order_33 : decode b_Mod_order 33 = .ok (.goto 76, 3) := by decide +kernel
theorem d_Mod_order_36 : decode b_Mod_order 36 = .ok (.iconst 0, 1) := by decide +kernel
theorem d_Mod_order_37 : decode b_Mod_order 37 = .ok (.istore_n 3, 1) := by decide +kernel
theorem d_Mod_order_38 : decode b_Mod_order 38 = .ok (.iconst 0, 1) := by decide +kernel
theorem d_Mod_order_39 : decode b_Mod_order 39 = .ok (.istore 4, 2) := by decide +kernel
theorem d_Mod_order_41 : decode b_Mod_order 41 = .ok (.iload 4, 2) := by decide +kernel
theorem d_Mod_order_43 : decode b_Mod_order 43 = .ok (.aload_n 0, 1) := by decide +kernel
theorem d_Mod_order_44 : decode b_Mod_order 44 = .ok (.getfield 76, 3) := by decide +kernel
theorem d_Mod_order_47 : decode b_Mod_order 47 = .ok (.if_icmp .ge 53, 3) := by decide +kernel
theorem d_Mod_order_50 : decode b_Mod_order 50 = .ok (.iload_n 3, 1) := by decide +kernel
theorem d_Mod_order_51 : decode b_Mod_order 51 = .ok (.aload_n 0, 1) := by decide +kernel
theorem d_Mod_order_52 : decode b_Mod_order 52 = .ok (.getfield 44, 3) := by decide +kernel
theorem d_Mod_order_55 : decode b_Mod_order 55 = .ok (.iload 4, 2) := by decide +kernel
theorem d_Mod_order_57 : decode b_Mod_order 57 = .ok (.iaload, 1) := by decide +kernel
theorem d_Mod_order_58 : decode b_Mod_order 58 = .ok (.ifCond .ne 33, 3) := by decide +kernel
theorem d_Mod_order_61 : decode b_Mod_order 61 = .ok (.aload_n 0, 1) := by decide +kernel
theorem d_Mod_order_62 : decode b_Mod_order 62 = .ok (.getfield 50, 3) := by decide +kernel
theorem d_Mod_order_65 : decode b_Mod_order 65 = .ok (.iload 4, 2) := by decide +kernel
theorem d_Mod_order_67 : decode b_Mod_order 67 = .ok (.baload, 1) := by decide +kernel
theorem d_Mod_order_68 : decode b_Mod_order 68 = .ok (.ifCond .ne 23, 3) := by decide +kernel
theorem d_Mod_order_71 : decode b_Mod_order 71 = .ok (.iload 4, 2) := by decide +kernel
theorem d_Mod_order_73 : decode b_Mod_order 73 = .ok (.iload_n 2, 1) := by decide +kernel
theorem d_Mod_order_74 : decode b_Mod_order 74 = .ok (.if_icmp .eq 17, 3) := by decide +kernel
theorem d_Mod_order_77 : decode b_Mod_order 77 = .ok (.aload_n 0, 1) := by decide +kernel
theorem d_Mod_order_78 : decode b_Mod_order 78 = .ok (.iload 4, 2) := by decide +kernel
theorem d_Mod_order_80 : decode b_Mod_order 80 = .ok (.iload_n 2, 1) := by decide +kernel
theorem d_Mod_order_81 : decode b_Mod_order 81 = .ok (.invokevirtual 124, 3) := by decide +kernel
theorem d_Mod_order_84 : decode b_Mod_order 84 = .ok (.ifCond .eq 7, 3) := by decide +kernel
theorem d_Mod_order_87 : decode b_Mod_order 87 = .ok (.iconst 1, 1) := by decide +kernel
theorem d_Mod_order_88 : decode b_Mod_order 88 = .ok (.goto 4, 3) := by decide +kernel
theorem d_Mod_order_91 : decode b_Mod_order 91 = .ok (.iconst 0, 1) := by decide +kernel
theorem d_Mod_order_92 : decode b_Mod_order 92 = .ok (.iadd, 1) := by decide +kernel
theorem d_Mod_order_93 : decode b_Mod_order 93 = .ok (.istore_n 3, 1) := by decide +kernel
theorem d_Mod_order_94 : decode b_Mod_order 94 = .ok (.iinc 4 1, 3) := by decide +kernel
theorem d_Mod_order_97 : decode b_Mod_order 97 = .ok (.goto (-56), 3) := by decide +kernel
theorem d_Mod_order_100 : decode b_Mod_order 100 = .ok (.iload_n 3, 1) := by decide +kernel
theorem d_Mod_order_101 : decode b_Mod_order 101 = .ok (.iload_n 1, 1) := by decide +kernel
theorem d_Mod_order_102 : decode b_Mod_order 102 = .ok (.if_icmp .ne 7, 3) := by decide +kernel
theorem d_Mod_order_105 : decode b_Mod_order 105 = .ok (.iload_n 2, 1) := by decide +kernel
theorem d_Mod_order_106 : decode b_Mod_order 106 = .ok (.iconst 1, 1) := by decide +kernel
theorem d_Mod_order_107 : decode b_Mod_order 107 = .ok (.iadd, 1) := by decide +kernel
theorem d_Mod_order_108 : decode b_Mod_order 108 = .ok (.ireturn, 1) := by decide +kernel
theorem d_Mod_order_109 : decode b_Mod_order 109 = .ok (.iinc 2 1, 3) := by decide +kernel
theorem d_Mod_order_112 : decode b_Mod_order 112 = .ok (.goto (-105), 3) := by decide +kernel
theorem d_Mod_order_115 : decode b_Mod_order 115 = .ok (.iconst (-1), 1) := by decide +kernel
theorem d_Mod_order_116 : decode b_Mod_order 116 = .ok (.ireturn, 1) := by decide +kernel
theorem d_Mod_waited_0 : decode b_Mod_waited 0 = .ok (.aload_n 0, 1) := by decide +kernel
theorem d_Mod_waited_1 : decode b_Mod_waited 1 = .ok (.iconst 0, 1) := by decide +kernel
theorem d_Mod_waited_2 : decode b_Mod_waited 2 = .ok (.putfield 69, 3) := by decide +kernel
theorem d_Mod_waited_5 : decode b_Mod_waited 5 = .ok (.aload_n 0, 1) := by decide +kernel
theorem d_Mod_waited_6 : decode b_Mod_waited 6 = .ok (.iload_n 1, 1) := by decide +kernel
theorem d_Mod_waited_7 : decode b_Mod_waited 7 = .ok (.invokevirtual 93, 3) := by decide +kernel
theorem d_Mod_waited_10 : decode b_Mod_waited 10 = .ok (.ifCond .ne 7, 3) := by decide +kernel
theorem d_Mod_waited_13 : decode b_Mod_waited 13 = .ok (.ldc2_w 127, 3) := by decide +kernel
theorem d_Mod_waited_16 : decode b_Mod_waited 16 = .ok (.lreturn, 1) := by decide +kernel
theorem d_Mod_waited_17 : decode b_Mod_waited 17 = .ok (.aload_n 0, 1) := by decide +kernel
theorem d_Mod_waited_18 : decode b_Mod_waited 18 = .ok (.getfield 44, 3) := by decide +kernel
theorem d_Mod_waited_21 : decode b_Mod_waited 21 = .ok (.iload_n 1, 1) := by decide +kernel
theorem d_Mod_waited_22 : decode b_Mod_waited 22 = .ok (.iconst 1, 1) := by decide +kernel
theorem d_Mod_waited_23 : decode b_Mod_waited 23 = .ok (.isub, 1) := by decide +kernel
theorem d_Mod_waited_24 : decode b_Mod_waited 24 = .ok (.iaload, 1) := by decide +kernel
theorem d_Mod_waited_25 : decode b_Mod_waited 25 = .ok (.ifCond .ne 10, 3) := by decide +kernel
theorem d_Mod_waited_28 : decode b_Mod_waited 28 = .ok (.aload_n 0, 1) := by decide +kernel
theorem d_Mod_waited_29 : decode b_Mod_waited 29 = .ok (.getfield 89, 3) := by decide +kernel
theorem d_Mod_waited_32 : decode b_Mod_waited 32 = .ok (.goto 11, 3) := by decide +kernel
theorem d_Mod_waited_35 : decode b_Mod_waited 35 = .ok (.aload_n 0, 1) := by decide +kernel
theorem d_Mod_waited_36 : decode b_Mod_waited 36 = .ok (.getfield 66, 3) := by decide +kernel
theorem d_Mod_waited_39 : decode b_Mod_waited 39 = .ok (.iload_n 1, 1) := by decide +kernel
theorem d_Mod_waited_40 : decode b_Mod_waited 40 = .ok (.iconst 1, 1) := by decide +kernel
theorem d_Mod_waited_41 : decode b_Mod_waited 41 = .ok (.isub, 1) := by decide +kernel
theorem d_Mod_waited_42 : decode b_Mod_waited 42 = .ok (.laload, 1) := by decide +kernel
theorem d_Mod_waited_43 : decode b_Mod_waited 43 = .ok (.aload_n 0, 1) := by decide +kernel
theorem d_Mod_waited_44 : decode b_Mod_waited 44 = .ok (.getfield 62, 3) := by decide +kernel
theorem d_Mod_waited_47 : decode b_Mod_waited 47 = .ok (.iload_n 1, 1) := by decide +kernel
theorem d_Mod_waited_48 : decode b_Mod_waited 48 = .ok (.iconst 1, 1) := by decide +kernel
theorem d_Mod_waited_49 : decode b_Mod_waited 49 = .ok (.isub, 1) := by decide +kernel
theorem d_Mod_waited_50 : decode b_Mod_waited 50 = .ok (.laload, 1) := by decide +kernel
theorem d_Mod_waited_51 : decode b_Mod_waited 51 = .ok (.lsub, 1) := by decide +kernel
theorem d_Mod_waited_52 : decode b_Mod_waited 52 = .ok (.lreturn, 1) := by decide +kernel
theorem d_Mod_state_0 : decode b_Mod_state 0 = .ok (.aload_n 0, 1) := by decide +kernel
theorem d_Mod_state_1 : decode b_Mod_state 1 = .ok (.iconst 0, 1) := by decide +kernel
theorem d_Mod_state_2 : decode b_Mod_state 2 = .ok (.putfield 69, 3) := by decide +kernel
theorem d_Mod_state_5 : decode b_Mod_state 5 = .ok (.aload_n 0, 1) := by decide +kernel
theorem d_Mod_state_6 : decode b_Mod_state 6 = .ok (.iload_n 1, 1) := by decide +kernel
theorem d_Mod_state_7 : decode b_Mod_state 7 = .ok (.invokevirtual 93, 3) := by decide +kernel
theorem d_Mod_state_10 : decode b_Mod_state 10 = .ok (.ifCond .ne 5, 3) := by decide +kernel
theorem d_Mod_state_13 : decode b_Mod_state 13 = .ok (.iconst (-1), 1) := by decide +kernel
theorem d_Mod_state_14 : decode b_Mod_state 14 = .ok (.ireturn, 1) := by decide +kernel
theorem d_Mod_state_15 : decode b_Mod_state 15 = .ok (.aload_n 0, 1) := by decide +kernel
theorem d_Mod_state_16 : decode b_Mod_state 16 = .ok (.getfield 44, 3) := by decide +kernel
theorem d_Mod_state_19 : decode b_Mod_state 19 = .ok (.iload_n 1, 1) := by decide +kernel
theorem d_Mod_state_20 : decode b_Mod_state 20 = .ok (.iconst 1, 1) := by decide +kernel
theorem d_Mod_state_21 : decode b_Mod_state 21 = .ok (.isub, 1) := by decide +kernel
theorem d_Mod_state_22 : decode b_Mod_state 22 = .ok (.iaload, 1) := by decide +kernel
theorem d_Mod_state_23 : decode b_Mod_state 23 = .ok (.ifCond .ne 18, 3) := by decide +kernel
theorem d_Mod_state_26 : decode b_Mod_state 26 = .ok (.aload_n 0, 1) := by decide +kernel
theorem d_Mod_state_27 : decode b_Mod_state 27 = .ok (.getfield 50, 3) := by decide +kernel
theorem d_Mod_state_30 : decode b_Mod_state 30 = .ok (.iload_n 1, 1) := by decide +kernel
theorem d_Mod_state_31 : decode b_Mod_state 31 = .ok (.iconst 1, 1) := by decide +kernel
theorem d_Mod_state_32 : decode b_Mod_state 32 = .ok (.isub, 1) := by decide +kernel
theorem d_Mod_state_33 : decode b_Mod_state 33 = .ok (.baload, 1) := by decide +kernel
theorem d_Mod_state_34 : decode b_Mod_state 34 = .ok (.ifCond .eq 7, 3) := by decide +kernel
theorem d_Mod_state_37 : decode b_Mod_state 37 = .ok (.iconst 1, 1) := by decide +kernel
theorem d_Mod_state_38 : decode b_Mod_state 38 = .ok (.goto 11, 3) := by decide +kernel
theorem d_Mod_state_41 : decode b_Mod_state 41 = .ok (.aload_n 0, 1) := by decide +kernel
theorem d_Mod_state_42 : decode b_Mod_state 42 = .ok (.getfield 44, 3) := by decide +kernel
theorem d_Mod_state_45 : decode b_Mod_state 45 = .ok (.iload_n 1, 1) := by decide +kernel
theorem d_Mod_state_46 : decode b_Mod_state 46 = .ok (.iconst 1, 1) := by decide +kernel
theorem d_Mod_state_47 : decode b_Mod_state 47 = .ok (.isub, 1) := by decide +kernel
theorem d_Mod_state_48 : decode b_Mod_state 48 = .ok (.iaload, 1) := by decide +kernel
theorem d_Mod_state_49 : decode b_Mod_state 49 = .ok (.ireturn, 1) := by decide +kernel
theorem d_Mod_those_0 : decode b_Mod_those 0 = .ok (.iconst 0, 1) := by decide +kernel
theorem d_Mod_those_1 : decode b_Mod_those 1 = .ok (.istore_n 3, 1) := by decide +kernel
theorem d_Mod_those_2 : decode b_Mod_those 2 = .ok (.iconst 0, 1) := by decide +kernel
theorem d_Mod_those_3 : decode b_Mod_those 3 = .ok (.istore 4, 2) := by decide +kernel
theorem d_Mod_those_5 : decode b_Mod_those 5 = .ok (.iload 4, 2) := by decide +kernel
theorem d_Mod_those_7 : decode b_Mod_those 7 = .ok (.aload_n 0, 1) := by decide +kernel
theorem d_Mod_those_8 : decode b_Mod_those 8 = .ok (.getfield 76, 3) := by decide +kernel
theorem d_Mod_those_11 : decode b_Mod_those 11 = .ok (.if_icmp .ge 42, 3) := by decide +kernel
theorem d_Mod_those_14 : decode b_Mod_those 14 = .ok (.iload_n 3, 1) := by decide +kernel
theorem d_Mod_those_15 : decode b_Mod_those 15 = .ok (.aload_n 0, 1) := by decide +kernel
theorem d_Mod_those_16 : decode b_Mod_those 16 = .ok (.getfield 44, 3) := by decide +kernel
theorem d_Mod_those_19 : decode b_Mod_those 19 = .ok (.iload 4, 2) := by decide +kernel
theorem d_Mod_those_21 : decode b_Mod_those 21 = .ok (.iaload, 1) := by decide +kernel
theorem d_Mod_those_22 : decode b_Mod_those 22 = .ok (.iload_n 1, 1) := by decide +kernel
theorem d_Mod_those_23 : decode b_Mod_those 23 = .ok (.if_icmp .ne 21, 3) := by decide +kernel
theorem d_Mod_those_26 : decode b_Mod_those 26 = .ok (.iload_n 2, 1) := by decide +kernel
theorem d_Mod_those_27 : decode b_Mod_those 27 = .ok (.ifCond .ne 13, 3) := by decide +kernel
theorem d_Mod_those_30 : decode b_Mod_those 30 = .ok (.aload_n 0, 1) := by decide +kernel
theorem d_Mod_those_31 : decode b_Mod_those 31 = .ok (.getfield 50, 3) := by decide +kernel
theorem d_Mod_those_34 : decode b_Mod_those 34 = .ok (.iload 4, 2) := by decide +kernel
theorem d_Mod_those_36 : decode b_Mod_those 36 = .ok (.baload, 1) := by decide +kernel
theorem d_Mod_those_37 : decode b_Mod_those 37 = .ok (.ifCond .eq 7, 3) := by decide +kernel
theorem d_Mod_those_40 : decode b_Mod_those 40 = .ok (.iconst 1, 1) := by decide +kernel
theorem d_Mod_those_41 : decode b_Mod_those 41 = .ok (.goto 4, 3) := by decide +kernel
theorem d_Mod_those_44 : decode b_Mod_those 44 = .ok (.iconst 0, 1) := by decide +kernel
theorem d_Mod_those_45 : decode b_Mod_those 45 = .ok (.iadd, 1) := by decide +kernel
theorem d_Mod_those_46 : decode b_Mod_those 46 = .ok (.istore_n 3, 1) := by decide +kernel
theorem d_Mod_those_47 : decode b_Mod_those 47 = .ok (.iinc 4 1, 3) := by decide +kernel
theorem d_Mod_those_50 : decode b_Mod_those 50 = .ok (.goto (-45), 3) := by decide +kernel
theorem d_Mod_those_53 : decode b_Mod_those 53 = .ok (.iload_n 3, 1) := by decide +kernel
theorem d_Mod_those_54 : decode b_Mod_those 54 = .ok (.ireturn, 1) := by decide +kernel
theorem d_Mod_count_0 : decode b_Mod_count 0 = .ok (.aload_n 0, 1) := by decide +kernel
theorem d_Mod_count_1 : decode b_Mod_count 1 = .ok (.iconst 0, 1) := by decide +kernel
theorem d_Mod_count_2 : decode b_Mod_count 2 = .ok (.putfield 69, 3) := by decide +kernel
theorem d_Mod_count_5 : decode b_Mod_count 5 = .ok (.iload_n 1, 1) := by decide +kernel
theorem d_Mod_count_6 : decode b_Mod_count 6 = .ok (.tableswitch 157 0 13 #[70, 75, 80, 87, 94, 101, 157, 157, 157, 157, 148, 148, 148, 148], 70) := by decide +kernel
theorem d_Mod_count_76 : decode b_Mod_count 76 = .ok (.aload_n 0, 1) := by decide +kernel
theorem d_Mod_count_77 : decode b_Mod_count 77 = .ok (.getfield 73, 3) := by decide +kernel
theorem d_Mod_count_80 : decode b_Mod_count 80 = .ok (.ireturn, 1) := by decide +kernel
theorem d_Mod_count_81 : decode b_Mod_count 81 = .ok (.aload_n 0, 1) := by decide +kernel
theorem d_Mod_count_82 : decode b_Mod_count 82 = .ok (.getfield 76, 3) := by decide +kernel
theorem d_Mod_count_85 : decode b_Mod_count 85 = .ok (.ireturn, 1) := by decide +kernel
theorem d_Mod_count_86 : decode b_Mod_count 86 = .ok (.aload_n 0, 1) := by decide +kernel
theorem d_Mod_count_87 : decode b_Mod_count 87 = .ok (.iconst 0, 1) := by decide +kernel
theorem d_Mod_count_88 : decode b_Mod_count 88 = .ok (.iconst 1, 1) := by decide +kernel
theorem d_Mod_count_89 : decode b_Mod_count 89 = .ok (.invokevirtual 129, 3) := by decide +kernel
theorem d_Mod_count_92 : decode b_Mod_count 92 = .ok (.ireturn, 1) := by decide +kernel
theorem d_Mod_count_93 : decode b_Mod_count 93 = .ok (.aload_n 0, 1) := by decide +kernel
theorem d_Mod_count_94 : decode b_Mod_count 94 = .ok (.iconst 0, 1) := by decide +kernel
theorem d_Mod_count_95 : decode b_Mod_count 95 = .ok (.iconst 0, 1) := by decide +kernel
theorem d_Mod_count_96 : decode b_Mod_count 96 = .ok (.invokevirtual 129, 3) := by decide +kernel
theorem d_Mod_count_99 : decode b_Mod_count 99 = .ok (.ireturn, 1) := by decide +kernel
theorem d_Mod_count_100 : decode b_Mod_count 100 = .ok (.aload_n 0, 1) := by decide +kernel
theorem d_Mod_count_101 : decode b_Mod_count 101 = .ok (.iconst 2, 1) := by decide +kernel
theorem d_Mod_count_102 : decode b_Mod_count 102 = .ok (.iconst 1, 1) := by decide +kernel
theorem d_Mod_count_103 : decode b_Mod_count 103 = .ok (.invokevirtual 129, 3) := by decide +kernel
theorem d_Mod_count_106 : decode b_Mod_count 106 = .ok (.ireturn, 1) := by decide +kernel
theorem d_Mod_count_107 : decode b_Mod_count 107 = .ok (.iconst 0, 1) := by decide +kernel
theorem d_Mod_count_108 : decode b_Mod_count 108 = .ok (.istore_n 2, 1) := by decide +kernel
theorem d_Mod_count_109 : decode b_Mod_count 109 = .ok (.iconst 0, 1) := by decide +kernel
theorem d_Mod_count_110 : decode b_Mod_count 110 = .ok (.istore_n 3, 1) := by decide +kernel
theorem d_Mod_count_111 : decode b_Mod_count 111 = .ok (.iload_n 3, 1) := by decide +kernel
theorem d_Mod_count_112 : decode b_Mod_count 112 = .ok (.aload_n 0, 1) := by decide +kernel
theorem d_Mod_count_113 : decode b_Mod_count 113 = .ok (.getfield 73, 3) := by decide +kernel
theorem d_Mod_count_116 : decode b_Mod_count 116 = .ok (.if_icmp .ge 36, 3) := by decide +kernel
theorem d_Mod_count_119 : decode b_Mod_count 119 = .ok (.iload_n 2, 1) := by decide +kernel
theorem d_Mod_count_120 : decode b_Mod_count 120 = .ok (.aload_n 0, 1) := by decide +kernel
theorem d_Mod_count_121 : decode b_Mod_count 121 = .ok (.getfield 16, 3) := by decide +kernel
theorem d_Mod_count_124 : decode b_Mod_count 124 = .ok (.iload_n 3, 1) := by decide +kernel
theorem d_Mod_count_125 : decode b_Mod_count 125 = .ok (.baload, 1) := by decide +kernel
theorem d_Mod_count_126 : decode b_Mod_count 126 = .ok (.ifCond .eq 17, 3) := by decide +kernel
theorem d_Mod_count_129 : decode b_Mod_count 129 = .ok (.aload_n 0, 1) := by decide +kernel
theorem d_Mod_count_130 : decode b_Mod_count 130 = .ok (.getfield 13, 3) := by decide +kernel
theorem d_Mod_count_133 : decode b_Mod_count 133 = .ok (.iload_n 3, 1) := by decide +kernel
theorem d_Mod_count_134 : decode b_Mod_count 134 = .ok (.iaload, 1) := by decide +kernel
theorem d_Mod_count_135 : decode b_Mod_count 135 = .ok (.iconst (-1), 1) := by decide +kernel
theorem d_Mod_count_136 : decode b_Mod_count 136 = .ok (.if_icmp .ne 7, 3) := by decide +kernel
theorem d_Mod_count_139 : decode b_Mod_count 139 = .ok (.iconst 1, 1) := by decide +kernel
theorem d_Mod_count_140 : decode b_Mod_count 140 = .ok (.goto 4, 3) := by decide +kernel
theorem d_Mod_count_143 : decode b_Mod_count 143 = .ok (.iconst 0, 1) := by decide +kernel
theorem d_Mod_count_144 : decode b_Mod_count 144 = .ok (.iadd, 1) := by decide +kernel
theorem d_Mod_count_145 : decode b_Mod_count 145 = .ok (.istore_n 2, 1) := by decide +kernel
theorem d_Mod_count_146 : decode b_Mod_count 146 = .ok (.iinc 3 1, 3) := by decide +kernel
theorem d_Mod_count_149 : decode b_Mod_count 149 = .ok (.goto (-38), 3) := by decide +kernel
theorem d_Mod_count_152 : decode b_Mod_count 152 = .ok (.iload_n 2, 1) := by decide +kernel
theorem d_Mod_count_153 : decode b_Mod_count 153 = .ok (.ireturn, 1) := by decide +kernel
theorem d_Mod_count_154 : decode b_Mod_count 154 = .ok (.aload_n 0, 1) := by decide +kernel
theorem d_Mod_count_155 : decode b_Mod_count 155 = .ok (.iload_n 1, 1) := by decide +kernel
theorem d_Mod_count_156 : decode b_Mod_count 156 = .ok (.bipush 10, 2) := by decide +kernel
theorem d_Mod_count_158 : decode b_Mod_count 158 = .ok (.isub, 1) := by decide +kernel
theorem d_Mod_count_159 : decode b_Mod_count 159 = .ok (.invokevirtual 105, 3) := by decide +kernel
theorem d_Mod_count_162 : decode b_Mod_count 162 = .ok (.ireturn, 1) := by decide +kernel
theorem d_Mod_count_163 : decode b_Mod_count 163 = .ok (.iconst (-1), 1) := by decide +kernel
theorem d_Mod_count_164 : decode b_Mod_count 164 = .ok (.ireturn, 1) := by decide +kernel
