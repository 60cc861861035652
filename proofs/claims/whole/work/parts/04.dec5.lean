theorem d_Mod_init_0 : decode b_Mod_init 0 = .ok (.aload_n 0, 1) := by decide +kernel
theorem d_Mod_init_1 : decode b_Mod_init 1 = .ok (.invokespecial 1, 3) := by decide +kernel
theorem d_Mod_init_4 : decode b_Mod_init 4 = .ok (.aload_n 0, 1) := by decide +kernel
theorem d_Mod_init_5 : decode b_Mod_init 5 = .ok (.bipush 96, 2) := by decide +kernel
theorem d_Mod_init_7 : decode b_Mod_init 7 = .ok (.newarray .int, 2) := by decide +kernel
theorem d_Mod_init_9 : decode b_Mod_init 9 = .ok (.putfield 7, 3) := by decide +kernel
theorem d_Mod_init_12 : decode b_Mod_init 12 = .ok (.aload_n 0, 1) := by decide +kernel
theorem d_Mod_init_13 : decode b_Mod_init 13 = .ok (.bipush 12, 2) := by decide +kernel
theorem d_Mod_init_15 : decode b_Mod_init 15 = .ok (.newarray .int, 2) := by decide +kernel
theorem d_Mod_init_17 : decode b_Mod_init 17 = .ok (.putfield 13, 3) := by decide +kernel
theorem d_Mod_init_20 : decode b_Mod_init 20 = .ok (.aload_n 0, 1) := by decide +kernel
theorem d_Mod_init_21 : decode b_Mod_init 21 = .ok (.bipush 12, 2) := by decide +kernel
theorem d_Mod_init_23 : decode b_Mod_init 23 = .ok (.newarray .boolean, 2) := by decide +kernel
theorem d_Mod_init_25 : decode b_Mod_init 25 = .ok (.putfield 16, 3) := by decide +kernel
theorem d_Mod_init_28 : decode b_Mod_init 28 = .ok (.aload_n 0, 1) := by decide +kernel
theorem d_Mod_init_29 : decode b_Mod_init 29 = .ok (.bipush 36, 2) := by decide +kernel
theorem d_Mod_init_31 : decode b_Mod_init 31 = .ok (.newarray .int, 2) := by decide +kernel
theorem d_Mod_init_33 : decode b_Mod_init 33 = .ok (.putfield 20, 3) := by decide +kernel
theorem d_Mod_init_36 : decode b_Mod_init 36 = .ok (.aload_n 0, 1) := by decide +kernel
theorem d_Mod_init_37 : decode b_Mod_init 37 = .ok (.bipush 36, 2) := by decide +kernel
theorem d_Mod_init_39 : decode b_Mod_init 39 = .ok (.newarray .int, 2) := by decide +kernel
theorem d_Mod_init_41 : decode b_Mod_init 41 = .ok (.putfield 23, 3) := by decide +kernel
theorem d_Mod_init_44 : decode b_Mod_init 44 = .ok (.aload_n 0, 1) := by decide +kernel
theorem d_Mod_init_45 : decode b_Mod_init 45 = .ok (.bipush 36, 2) := by decide +kernel
theorem d_Mod_init_47 : decode b_Mod_init 47 = .ok (.newarray .int, 2) := by decide +kernel
theorem d_Mod_init_49 : decode b_Mod_init 49 = .ok (.putfield 26, 3) := by decide +kernel
theorem d_Mod_init_52 : decode b_Mod_init 52 = .ok (.aload_n 0, 1) := by decide +kernel
theorem d_Mod_init_53 : decode b_Mod_init 53 = .ok (.bipush 36, 2) := by decide +kernel
theorem d_Mod_init_55 : decode b_Mod_init 55 = .ok (.newarray .int, 2) := by decide +kernel
theorem d_Mod_init_57 : decode b_Mod_init 57 = .ok (.putfield 29, 3) := by decide +kernel
theorem d_Mod_init_60 : decode b_Mod_init 60 = .ok (.aload_n 0, 1) := by decide +kernel
theorem d_Mod_init_61 : decode b_Mod_init 61 = .ok (.iconst 4, 1) := by decide +kernel
theorem d_Mod_init_62 : decode b_Mod_init 62 = .ok (.newarray .int, 2) := by decide +kernel
theorem d_Mod_init_64 : decode b_Mod_init 64 = .ok (.putfield 32, 3) := by decide +kernel
theorem d_Mod_init_67 : decode b_Mod_init 67 = .ok (.aload_n 0, 1) := by decide +kernel
theorem d_Mod_init_68 : decode b_Mod_init 68 = .ok (.bipush 100, 2) := by decide +kernel
theorem d_Mod_init_70 : decode b_Mod_init 70 = .ok (.newarray .int, 2) := by decide +kernel
theorem d_Mod_init_72 : decode b_Mod_init 72 = .ok (.putfield 35, 3) := by decide +kernel
theorem d_Mod_init_75 : decode b_Mod_init 75 = .ok (.aload_n 0, 1) := by decide +kernel
theorem d_Mod_init_76 : decode b_Mod_init 76 = .ok (.bipush 100, 2) := by decide +kernel
theorem d_Mod_init_78 : decode b_Mod_init 78 = .ok (.newarray .int, 2) := by decide +kernel
theorem d_Mod_init_80 : decode b_Mod_init 80 = .ok (.putfield 38, 3) := by decide +kernel
theorem d_Mod_init_83 : decode b_Mod_init 83 = .ok (.aload_n 0, 1) := by decide +kernel
theorem d_Mod_init_84 : decode b_Mod_init 84 = .ok (.bipush 100, 2) := by decide +kernel
theorem d_Mod_init_86 : decode b_Mod_init 86 = .ok (.newarray .int, 2) := by decide +kernel
theorem d_Mod_init_88 : decode b_Mod_init 88 = .ok (.putfield 41, 3) := by decide +kernel
theorem d_Mod_init_91 : decode b_Mod_init 91 = .ok (.aload_n 0, 1) := by decide +kernel
theorem d_Mod_init_92 : decode b_Mod_init 92 = .ok (.bipush 100, 2) := by decide +kernel
theorem d_Mod_init_94 : decode b_Mod_init 94 = .ok (.newarray .int, 2) := by decide +kernel
theorem d_Mod_init_96 : decode b_Mod_init 96 = .ok (.putfield 44, 3) := by decide +kernel
theorem d_Mod_init_99 : decode b_Mod_init 99 = .ok (.aload_n 0, 1) := by decide +kernel
theorem d_Mod_init_100 : decode b_Mod_init 100 = .ok (.sipush 400, 3) := by decide +kernel
theorem d_Mod_init_103 : decode b_Mod_init 103 = .ok (.newarray .int, 2) := by decide +kernel
theorem d_Mod_init_105 : decode b_Mod_init 105 = .ok (.putfield 47, 3) := by decide +kernel
theorem d_Mod_init_108 : decode b_Mod_init 108 = .ok (.aload_n 0, 1) := by decide +kernel
theorem d_Mod_init_109 : decode b_Mod_init 109 = .ok (.bipush 100, 2) := by decide +kernel
theorem d_Mod_init_111 : decode b_Mod_init 111 = .ok (.newarray .boolean, 2) := by decide +kernel
theorem d_Mod_init_113 : decode b_Mod_init 113 = .ok (.putfield 50, 3) := by decide +kernel
theorem d_Mod_init_116 : decode b_Mod_init 116 = .ok (.aload_n 0, 1) := by decide +kernel
theorem d_Mod_init_117 : decode b_Mod_init 117 = .ok (.bipush 100, 2) := by decide +kernel
theorem d_Mod_init_119 : decode b_Mod_init 119 = .ok (.newarray .boolean, 2) := by decide +kernel
theorem d_Mod_init_121 : decode b_Mod_init 121 = .ok (.putfield 53, 3) := by decide +kernel
theorem d_Mod_init_124 : decode b_Mod_init 124 = .ok (.aload_n 0, 1) := by decide +kernel
theorem d_Mod_init_125 : decode b_Mod_init 125 = .ok (.sipush 10000, 3) := by decide +kernel
theorem d_Mod_init_128 : decode b_Mod_init 128 = .ok (.newarray .boolean, 2) := by decide +kernel
theorem d_Mod_init_130 : decode b_Mod_init 130 = .ok (.putfield 56, 3) := by decide +kernel
theorem d_Mod_init_133 : decode b_Mod_init 133 = .ok (.aload_n 0, 1) := by decide +kernel
theorem d_Mod_init_134 : decode b_Mod_init 134 = .ok (.bipush 100, 2) := by decide +kernel
theorem d_Mod_init_136 : decode b_Mod_init 136 = .ok (.newarray .boolean, 2) := by decide +kernel
theorem d_Mod_init_138 : decode b_Mod_init 138 = .ok (.putfield 59, 3) := by decide +kernel
theorem d_Mod_init_141 : decode b_Mod_init 141 = .ok (.aload_n 0, 1) := by decide +kernel
theorem d_Mod_init_142 : decode b_Mod_init 142 = .ok (.bipush 100, 2) := by decide +kernel
theorem d_Mod_init_144 : decode b_Mod_init 144 = .ok (.newarray .long, 2) := by decide +kernel
theorem d_Mod_init_146 : decode b_Mod_init 146 = .ok (.putfield 62, 3) := by decide +kernel
theorem d_Mod_init_149 : decode b_Mod_init 149 = .ok (.aload_n 0, 1) := by decide +kernel
theorem d_Mod_init_150 : decode b_Mod_init 150 = .ok (.bipush 100, 2) := by decide +kernel
theorem d_Mod_init_152 : decode b_Mod_init 152 = .ok (.newarray .long, 2) := by decide +kernel
theorem d_Mod_init_154 : decode b_Mod_init 154 = .ok (.putfield 66, 3) := by decide +kernel
theorem d_Mod_init_157 : decode b_Mod_init 157 = .ok (.iconst 0, 1) := by decide +kernel
theorem d_Mod_init_158 : decode b_Mod_init 158 = .ok (.istore_n 1, 1) := by decide +kernel
theorem d_Mod_init_159 : decode b_Mod_init 159 = .ok (.iload_n 1, 1) := by decide +kernel
theorem d_Mod_init_160 : decode b_Mod_init 160 = .ok (.aload_n 0, 1) := by decide +kernel
theorem d_Mod_init_161 : decode b_Mod_init 161 = .ok (.getfield 7, 3) := by decide +kernel
theorem d_Mod_init_164 : decode b_Mod_init 164 = .ok (.arraylength, 1) := by decide +kernel
theorem d_Mod_init_165 : decode b_Mod_init 165 = .ok (.if_icmp .ge 16, 3) := by decide +kernel
theorem d_Mod_init_168 : decode b_Mod_init 168 = .ok (.aload_n 0, 1) := by decide +kernel
theorem d_Mod_init_169 : decode b_Mod_init 169 = .ok (.getfield 7, 3) := by decide +kernel
theorem d_Mod_init_172 : decode b_Mod_init 172 = .ok (.iload_n 1, 1) := by decide +kernel
theorem d_Mod_init_173 : decode b_Mod_init 173 = .ok (.iconst (-1), 1) := by decide +kernel
theorem d_Mod_init_174 : decode b_Mod_init 174 = .ok (.iastore, 1) := by decide +kernel
theorem d_Mod_init_175 : decode b_Mod_init 175 = .ok (.iinc 1 1, 3) := by decide +kernel
theorem d_Mod_init_178 : decode b_Mod_init 178 = .ok (.goto (-19), 3) := by decide +kernel
theorem d_Mod_init_181 : decode b_Mod_init 181 = .ok (.iconst 0, 1) := by decide +kernel
theorem d_Mod_init_182 : decode b_Mod_init 182 = .ok (.istore_n 1, 1) := by decide +kernel
theorem d_Mod_init_183 : decode b_Mod_init 183 = .ok (.iload_n 1, 1) := by decide +kernel
theorem d_Mod_init_184 : decode b_Mod_init 184 = .ok (.bipush 36, 2) := by decide +kernel
theorem d_Mod_init_186 : decode b_Mod_init 186 = .ok (.if_icmp .ge 17, 3) := by decide +kernel
theorem d_Mod_init_189 : decode b_Mod_init 189 = .ok (.aload_n 0, 1) := by decide +kernel
theorem d_Mod_init_190 : decode b_Mod_init 190 = .ok (.getfield 20, 3) := by decide +kernel
theorem d_Mod_init_193 : decode b_Mod_init 193 = .ok (.iload_n 1, 1) := by decide +kernel
theorem d_Mod_init_194 : decode b_Mod_init 194 = .ok (.bipush 40, 2) := by decide +kernel
theorem d_Mod_init_196 : decode b_Mod_init 196 = .ok (.iastore, 1) := by decide +kernel
theorem d_Mod_init_197 : decode b_Mod_init 197 = .ok (.iinc 1 1, 3) := by decide +kernel
theorem d_Mod_init_200 : decode b_Mod_init 200 = .ok (.goto (-17), 3) := by decide +kernel
theorem d_Mod_init_203 : decode b_Mod_init 203 = .ok (.iconst 0, 1) := by decide +kernel
theorem d_Mod_init_204 : decode b_Mod_init 204 = .ok (.istore_n 1, 1) := by decide +kernel
theorem d_Mod_init_205 : decode b_Mod_init 205 = .ok (.iload_n 1, 1) := by decide +kernel
theorem d_Mod_init_206 : decode b_Mod_init 206 = .ok (.bipush 12, 2) := by decide +kernel
theorem d_Mod_init_208 : decode b_Mod_init 208 = .ok (.if_icmp .ge 16, 3) := by decide +kernel
theorem d_Mod_init_211 : decode b_Mod_init 211 = .ok (.aload_n 0, 1) := by decide +kernel
theorem d_Mod_init_212 : decode b_Mod_init 212 = .ok (.getfield 13, 3) := by decide +kernel
theorem d_Mod_init_215 : decode b_Mod_init 215 = .ok (.iload_n 1, 1) := by decide +kernel
theorem d_Mod_init_216 : decode b_Mod_init 216 = .ok (.iconst (-1), 1) := by decide +kernel
theorem d_Mod_init_217 : decode b_Mod_init 217 = .ok (.iastore, 1) := by decide +kernel
theorem d_Mod_init_218 : decode b_Mod_init 218 = .ok (.iinc 1 1, 3) := by decide +kernel
theorem d_Mod_init_221 : decode b_Mod_init 221 = .ok (.goto (-16), 3) := by decide +kernel
theorem d_Mod_init_224 : decode b_Mod_init 224 = .ok (.return_, 1) := by decide +kernel
theorem d_Mod_thrown_0 : decode b_Mod_thrown 0 = .ok (.aload_n 0, 1) := by decide +kernel
theorem d_Mod_thrown_1 : decode b_Mod_thrown 1 = .ok (.getfield 69, 3) := by decide +kernel
theorem d_Mod_thrown_4 : decode b_Mod_thrown 4 = .ok (.ireturn, 1) := by decide +kernel
theorem d_Mod_isInitiator_0 : decode b_Mod_isInitiator 0 = .ok (.iload_n 1, 1) := by decide +kernel
theorem d_Mod_isInitiator_1 : decode b_Mod_isInitiator 1 = .ok (.iconst 1, 1) := by decide +kernel
theorem d_Mod_isInitiator_2 : decode b_Mod_isInitiator 2 = .ok (.if_icmp .lt 15, 3) := by decide +kernel
theorem d_Mod_isInitiator_5 : decode b_Mod_isInitiator 5 = .ok (.iload_n 1, 1) := by decide +kernel
theorem d_Mod_isInitiator_6 : decode b_Mod_isInitiator 6 = .ok (.aload_n 0, 1) := by decide +kernel
theorem d_Mod_isInitiator_7 : decode b_Mod_isInitiator 7 = .ok (.getfield 73, 3) := by decide +kernel
theorem d_Mod_isInitiator_10 : decode b_Mod_isInitiator 10 = .ok (.if_icmp .gt 7, 3) := by decide +kernel
theorem d_Mod_isInitiator_13 : decode b_Mod_isInitiator 13 = .ok (.iconst 1, 1) := by decide +kernel
theorem d_Mod_isInitiator_14 : decode b_Mod_isInitiator 14 = .ok (.goto 4, 3) := by decide +kernel
theorem d_Mod_isInitiator_17 : decode b_Mod_isInitiator 17 = .ok (.iconst 0, 1) := by decide +kernel
theorem d_Mod_isInitiator_18 : decode b_Mod_isInitiator 18 = .ok (.ireturn, 1) := by decide +kernel
theorem d_Mod_isJob_0 : decode b_Mod_isJob 0 = .ok (.iload_n 1, 1) := by decide +kernel
theorem d_Mod_isJob_1 : decode b_Mod_isJob 1 = .ok (.iconst 1, 1) := by decide +kernel
theorem d_Mod_isJob_2 : decode b_Mod_isJob 2 = .ok (.if_icmp .lt 15, 3) := by decide +kernel
theorem d_Mod_isJob_5 : decode b_Mod_isJob 5 = .ok (.iload_n 1, 1) := by decide +kernel
theorem d_Mod_isJob_6 : decode b_Mod_isJob 6 = .ok (.aload_n 0, 1) := by decide +kernel
theorem d_Mod_isJob_7 : decode b_Mod_isJob 7 = .ok (.getfield 76, 3) := by decide +kernel
theorem d_Mod_isJob_10 : decode b_Mod_isJob 10 = .ok (.if_icmp .gt 7, 3) := by decide +kernel
theorem d_Mod_isJob_13 : decode b_Mod_isJob 13 = .ok (.iconst 1, 1) := by decide +kernel
theorem d_Mod_isJob_14 : decode b_Mod_isJob 14 = .ok (.goto 4, 3) := by decide +kernel
theorem d_Mod_isJob_17 : decode b_Mod_isJob 17 = .ok (.iconst 0, 1) := by decide +kernel
theorem d_Mod_isJob_18 : decode b_Mod_isJob 18 = .ok (.ireturn, 1) := by decide +kernel
theorem d_Mod_isClass_0 : decode b_Mod_isClass 0 = .ok (.iload_n 0, 1) := by decide +kernel
theorem d_Mod_isClass_1 : decode b_Mod_isClass 1 = .ok (.ifCond .lt 13, 3) := by decide +kernel
theorem d_Mod_isClass_4 : decode b_Mod_isClass 4 = .ok (.iload_n 0, 1) := by decide +kernel
theorem d_Mod_isClass_5 : decode b_Mod_isClass 5 = .ok (.bipush 36, 2) := by decide +kernel
theorem d_Mod_isClass_7 : decode b_Mod_isClass 7 = .ok (.if_icmp .ge 7, 3) := by decide +kernel
theorem d_Mod_isClass_10 : decode b_Mod_isClass 10 = .ok (.iconst 1, 1) := by decide +kernel
theorem d_Mod_isClass_11 : decode b_Mod_isClass 11 = .ok (.goto 4, 3) := by decide +kernel
theorem d_Mod_isClass_14 : decode b_Mod_isClass 14 = .ok (.iconst 0, 1) := by decide +kernel
theorem d_Mod_isClass_15 : decode b_Mod_isClass 15 = .ok (.ireturn, 1) := by decide +kernel
theorem d_Mod_initiator_0 : decode b_Mod_initiator 0 = .ok (.aload_n 0, 1) := by decide +kernel
theorem d_Mod_initiator_1 : decode b_Mod_initiator 1 = .ok (.iconst 0, 1) := by decide +kernel
theorem d_Mod_initiator_2 : decode b_Mod_initiator 2 = .ok (.putfield 69, 3) := by decide +kernel
theorem d_Mod_initiator_5 : decode b_Mod_initiator 5 = .ok (.aload_n 0, 1) := by decide +kernel
theorem d_Mod_initiator_6 : decode b_Mod_initiator 6 = .ok (.getfield 73, 3) := by decide +kernel
theorem d_Mod_initiator_9 : decode b_Mod_initiator 9 = .ok (.bipush 12, 2) := by decide +kernel
theorem d_Mod_initiator_11 : decode b_Mod_initiator 11 = .ok (.if_icmp .ne 5, 3) := by decide +kernel
theorem d_Mod_initiator_14 : decode b_Mod_initiator 14 = .ok (.iconst (-1), 1) := by decide +kernel
theorem d_Mod_initiator_15 : decode b_Mod_initiator 15 = .ok (.ireturn, 1) := by decide +kernel
theorem d_Mod_initiator_16 : decode b_Mod_initiator 16 = .ok (.aload_n 0, 1) := by decide +kernel
theorem d_Mod_initiator_17 : decode b_Mod_initiator 17 = .ok (.dup, 1) := by decide +kernel
theorem d_Mod_initiator_18 : decode b_Mod_initiator 18 = .ok (.getfield 73, 3) := by decide +kernel
theorem d_Mod_initiator_21 : decode b_Mod_initiator 21 = .ok (.iconst 1, 1) := by decide +kernel
theorem d_Mod_initiator_22 : decode b_Mod_initiator 22 = .ok (.iadd, 1) := by decide +kernel
theorem d_Mod_initiator_23 : decode b_Mod_initiator 23 = .ok (.putfield 73, 3) := by decide +kernel
theorem d_Mod_initiator_26 : decode b_Mod_initiator 26 = .ok (.aload_n 0, 1) := by decide +kernel
theorem d_Mod_initiator_27 : decode b_Mod_initiator 27 = .ok (.getfield 73, 3) := by decide +kernel
theorem d_Mod_initiator_30 : decode b_Mod_initiator 30 = .ok (.ireturn, 1) := by decide +kernel
theorem d_Mod_cls_0 : decode b_Mod_cls 0 = .ok (.aload_n 0, 1) := by decide +kernel
theorem d_Mod_cls_1 : decode b_Mod_cls 1 = .ok (.iconst 0, 1) := by decide +kernel
theorem d_Mod_cls_2 : decode b_Mod_cls 2 = .ok (.putfield 69, 3) := by decide +kernel
theorem d_Mod_cls_5 : decode b_Mod_cls 5 = .ok (.aload_n 0, 1) := by decide +kernel
theorem d_Mod_cls_6 : decode b_Mod_cls 6 = .ok (.iload_n 1, 1) := by decide +kernel
theorem d_Mod_cls_7 : decode b_Mod_cls 7 = .ok (.invokevirtual 79, 3) := by decide +kernel
theorem d_Mod_cls_10 : decode b_Mod_cls 10 = .ok (.ifCond .ne 6, 3) := by decide +kernel
theorem d_Mod_cls_13 : decode b_Mod_cls 13 = .ok (.bipush (-2), 2) := by decide +kernel
theorem d_Mod_cls_15 : decode b_Mod_cls 15 = .ok (.ireturn, 1) := by decide +kernel
theorem d_Mod_cls_16 : decode b_Mod_cls 16 = .ok (.iload_n 2, 1) := by decide +kernel
theorem d_Mod_cls_17 : decode b_Mod_cls 17 = .ok (.ifCond .lt 21, 3) := by decide +kernel
theorem d_Mod_cls_20 : decode b_Mod_cls 20 = .ok (.iload_n 2, 1) := by decide +kernel
theorem d_Mod_cls_21 : decode b_Mod_cls 21 = .ok (.bipush 7, 2) := by decide +kernel
theorem d_Mod_cls_23 : decode b_Mod_cls 23 = .ok (.if_icmp .gt 15, 3) := by decide +kernel
theorem d_Mod_cls_26 : decode b_Mod_cls 26 = .ok (.iload_n 3, 1) := by decide +kernel
theorem d_Mod_cls_27 : decode b_Mod_cls 27 = .ok (.iconst (-1), 1) := by decide +kernel
theorem d_Mod_cls_28 : decode b_Mod_cls 28 = .ok (.if_icmp .eq 13, 3) := by decide +kernel
theorem d_Mod_cls_31 : decode b_Mod_cls 31 = .ok (.iload_n 3, 1) := by decide +kernel
theorem d_Mod_cls_32 : decode b_Mod_cls 32 = .ok (.invokestatic 83, 3) := by decide +kernel
theorem d_Mod_cls_35 : decode b_Mod_cls 35 = .ok (.ifCond .ne 6, 3) := by decide +kernel
theorem d_Mod_cls_38 : decode b_Mod_cls 38 = .ok (.bipush (-4), 2) := by decide +kernel
theorem d_Mod_cls_40 : decode b_Mod_cls 40 = .ok (.ireturn, 1) := by decide +kernel
theorem d_Mod_cls_41 : decode b_Mod_cls 41 = .ok (.aload_n 0, 1) := by decide +kernel
theorem d_Mod_cls_42 : decode b_Mod_cls 42 = .ok (.getfield 7, 3) := by decide +kernel
theorem d_Mod_cls_45 : decode b_Mod_cls 45 = .ok (.bipush 8, 2) := by decide +kernel
theorem d_Mod_cls_47 : decode b_Mod_cls 47 = .ok (.iload_n 1, 1) := by decide +kernel
theorem d_Mod_cls_48 : decode b_Mod_cls 48 = .ok (.imul, 1) := by decide +kernel
theorem d_Mod_cls_49 : decode b_Mod_cls 49 = .ok (.bipush 8, 2) := by decide +kernel
theorem d_Mod_cls_51 : decode b_Mod_cls 51 = .ok (.isub, 1) := by decide +kernel
theorem d_Mod_cls_52 : decode b_Mod_cls 52 = .ok (.iload_n 2, 1) := by decide +kernel
theorem d_Mod_cls_53 : decode b_Mod_cls 53 = .ok (.iadd, 1) := by decide +kernel
theorem d_Mod_cls_54 : decode b_Mod_cls 54 = .ok (.iload_n 3, 1) := by decide +kernel
theorem d_Mod_cls_55 : decode b_Mod_cls 55 = .ok (.iastore, 1) := by decide +kernel
theorem d_Mod_cls_56 : decode b_Mod_cls 56 = .ok (.iconst 1, 1) := by decide +kernel
theorem d_Mod_cls_57 : decode b_Mod_cls 57 = .ok (.ireturn, 1) := by decide +kernel
theorem d_Mod_limit_0 : decode b_Mod_limit 0 = .ok (.aload_n 0, 1) := by decide +kernel
theorem d_Mod_limit_1 : decode b_Mod_limit 1 = .ok (.iconst 0, 1) := by decide +kernel
theorem d_Mod_limit_2 : decode b_Mod_limit 2 = .ok (.putfield 69, 3) := by decide +kernel
theorem d_Mod_limit_5 : decode b_Mod_limit 5 = .ok (.iload_n 1, 1) := by decide +kernel
theorem d_Mod_limit_6 : decode b_Mod_limit 6 = .ok (.invokestatic 83, 3) := by decide +kernel
theorem d_Mod_limit_9 : decode b_Mod_limit 9 = .ok (.ifCond .eq 13, 3) := by decide +kernel
theorem d_Mod_limit_12 : decode b_Mod_limit 12 = .ok (.iload_n 2, 1) := by decide +kernel
theorem d_Mod_limit_13 : decode b_Mod_limit 13 = .ok (.ifCond .lt 9, 3) := by decide +kernel
theorem d_Mod_limit_16 : decode b_Mod_limit 16 = .ok (.iload_n 2, 1) := by decide +kernel
theorem d_Mod_limit_17 : decode b_Mod_limit 17 = .ok (.bipush 40, 2) := by decide +kernel
theorem d_Mod_limit_19 : decode b_Mod_limit 19 = .ok (.if_icmp .le 6, 3) := by decide +kernel
theorem d_Mod_limit_22 : decode b_Mod_limit 22 = .ok (.bipush (-4), 2) := by decide +kernel
theorem d_Mod_limit_24 : decode b_Mod_limit 24 = .ok (.ireturn, 1) := by decide +kernel
theorem d_Mod_limit_25 : decode b_Mod_limit 25 = .ok (.aload_n 0, 1) := by decide +kernel
theorem d_Mod_limit_26 : decode b_Mod_limit 26 = .ok (.getfield 20, 3) := by decide +kernel
theorem d_Mod_limit_29 : decode b_Mod_limit 29 = .ok (.iload_n 1, 1) := by decide +kernel
theorem d_Mod_limit_30 : decode b_Mod_limit 30 = .ok (.iload_n 2, 1) := by decide +kernel
theorem d_Mod_limit_31 : decode b_Mod_limit 31 = .ok (.iastore, 1) := by decide +kernel
theorem d_Mod_limit_32 : decode b_Mod_limit 32 = .ok (.iconst 1, 1) := by decide +kernel
theorem d_Mod_limit_33 : decode b_Mod_limit 33 = .ok (.ireturn, 1) := by decide +kernel
theorem d_Mod_isMinute_0 : decode b_Mod_isMinute 0 = .ok (.iload_n 0, 1) := by decide +kernel
theorem d_Mod_isMinute_1 : decode b_Mod_isMinute 1 = .ok (.ifCond .lt 14, 3) := by decide +kernel
theorem d_Mod_isMinute_4 : decode b_Mod_isMinute 4 = .ok (.iload_n 0, 1) := by decide +kernel
theorem d_Mod_isMinute_5 : decode b_Mod_isMinute 5 = .ok (.sipush 1440, 3) := by decide +kernel
theorem d_Mod_isMinute_8 : decode b_Mod_isMinute 8 = .ok (.if_icmp .ge 7, 3) := by decide +kernel
theorem d_Mod_isMinute_11 : decode b_Mod_isMinute 11 = .ok (.iconst 1, 1) := by decide +kernel
theorem d_Mod_isMinute_12 : decode b_Mod_isMinute 12 = .ok (.goto 4, 3) := by decide +kernel
theorem d_Mod_isMinute_15 : decode b_Mod_isMinute 15 = .ok (.iconst 0, 1) := by decide +kernel
theorem d_Mod_isMinute_16 : decode b_Mod_isMinute 16 = .ok (.ireturn, 1) := by decide +kernel
theorem d_Mod_window_0 : decode b_Mod_window 0 = .ok (.aload_n 0, 1) := by decide +kernel
theorem d_Mod_window_1 : decode b_Mod_window 1 = .ok (.iconst 0, 1) := by decide +kernel
theorem d_Mod_window_2 : decode b_Mod_window 2 = .ok (.putfield 69, 3) := by decide +kernel
theorem d_Mod_window_5 : decode b_Mod_window 5 = .ok (.iload_n 1, 1) := by decide +kernel
theorem d_Mod_window_6 : decode b_Mod_window 6 = .ok (.invokestatic 83, 3) := by decide +kernel
theorem d_Mod_window_9 : decode b_Mod_window 9 = .ok (.ifCond .eq 17, 3) := by decide +kernel
theorem d_Mod_window_12 : decode b_Mod_window 12 = .ok (.iload_n 2, 1) := by decide +kernel
theorem d_Mod_window_13 : decode b_Mod_window 13 = .ok (.invokestatic 86, 3) := by decide +kernel
theorem d_Mod_window_16 : decode b_Mod_window 16 = .ok (.ifCond .eq 10, 3) := by decide +kernel
theorem d_Mod_window_19 : decode b_Mod_window 19 = .ok (.iload_n 3, 1) := by decide +kernel
theorem d_Mod_window_20 : decode b_Mod_window 20 = .ok (.invokestatic 86, 3) := by decide +kernel
theorem d_Mod_window_23 : decode b_Mod_window 23 = .ok (.ifCond .ne 6, 3) := by decide +kernel
theorem d_Mod_window_26 : decode b_Mod_window 26 = .ok (.bipush (-4), 2) := by decide +kernel
theorem d_Mod_window_28 : decode b_Mod_window 28 = .ok (.ireturn, 1) := by decide +kernel
theorem d_Mod_window_29 : decode b_Mod_window 29 = .ok (.aload_n 0, 1) := by decide +kernel
theorem d_Mod_window_30 : decode b_Mod_window 30 = .ok (.getfield 23, 3) := by decide +kernel
theorem d_Mod_window_33 : decode b_Mod_window 33 = .ok (.iload_n 1, 1) := by decide +kernel
theorem d_Mod_window_34 : decode b_Mod_window 34 = .ok (.iload_n 2, 1) := by decide +kernel
theorem d_Mod_window_35 : decode b_Mod_window 35 = .ok (.iastore, 1) := by decide +kernel
theorem d_Mod_window_36 : decode b_Mod_window 36 = .ok (.aload_n 0, 1) := by decide +kernel
theorem d_Mod_window_37 : decode b_Mod_window 37 = .ok (.getfield 26, 3) := by decide +kernel
theorem d_Mod_window_40 : decode b_Mod_window 40 = .ok (.iload_n 1, 1) := by decide +kernel
theorem d_Mod_window_41 : decode b_Mod_window 41 = .ok (.iload_n 3, 1) := by decide +kernel
theorem d_Mod_window_42 : decode b_Mod_window 42 = .ok (.iastore, 1) := by decide +kernel
theorem d_Mod_window_43 : decode b_Mod_window 43 = .ok (.iconst 1, 1) := by decide +kernel
theorem d_Mod_window_44 : decode b_Mod_window 44 = .ok (.ireturn, 1) := by decide +kernel
theorem d_Mod_job_0 : decode b_Mod_job 0 = .ok (.aload_n 0, 1) := by decide +kernel
theorem d_Mod_job_1 : decode b_Mod_job 1 = .ok (.iconst 0, 1) := by decide +kernel
theorem d_Mod_job_2 : decode b_Mod_job 2 = .ok (.putfield 69, 3) := by decide +kernel
theorem d_Mod_job_5 : decode b_Mod_job 5 = .ok (.iload_n 1, 1) := by decide +kernel
theorem d_Mod_job_6 : decode b_Mod_job 6 = .ok (.invokestatic 83, 3) := by decide +kernel
theorem d_Mod_job_9 : decode b_Mod_job 9 = .ok (.ifCond .eq 33, 3) := by decide +kernel
theorem d_Mod_job_12 : decode b_Mod_job 12 = .ok (.iload_n 2, 1) := by decide +kernel
theorem d_Mod_job_13 : decode b_Mod_job 13 = .ok (.ifCond .lt 29, 3) := by decide +kernel
theorem d_Mod_job_16 : decode b_Mod_job 16 = .ok (.iload_n 2, 1) := by decide +kernel
theorem d_Mod_job_17 : decode b_Mod_job 17 = .ok (.bipush 15, 2) := by decide +kernel
theorem d_Mod_job_19 : decode b_Mod_job 19 = .ok (.if_icmp .gt 23, 3) := by decide +kernel
theorem d_Mod_job_22 : decode b_Mod_job 22 = .ok (.iload_n 3, 1) := by decide +kernel
theorem d_Mod_job_23 : decode b_Mod_job 23 = .ok (.ifCond .lt 19, 3) := by decide +kernel
theorem d_Mod_job_26 : decode b_Mod_job 26 = .ok (.iload_n 3, 1) := by decide +kernel
theorem d_Mod_job_27 : decode b_Mod_job 27 = .ok (.bipush 99, 2) := by decide +kernel
theorem d_Mod_job_29 : decode b_Mod_job 29 = .ok (.if_icmp .gt 13, 3) := by decide +kernel
theorem d_Mod_job_32 : decode b_Mod_job 32 = .ok (.lload 4, 2) := by decide +kernel
theorem d_Mod_job_34 : decode b_Mod_job 34 = .ok (.aload_n 0, 1) := by decide +kernel
theorem d_Mod_job_35 : decode b_Mod_job 35 = .ok (.getfield 89, 3) := by decide +kernel
theorem d_Mod_job_38 : decode b_Mod_job 38 = .ok (.lcmp, 1) := by decide +kernel
theorem d_Mod_job_39 : decode b_Mod_job 39 = .ok (.ifCond .ge 6, 3) := by decide +kernel
theorem d_Mod_job_42 : decode b_Mod_job 42 = .ok (.bipush (-4), 2) := by decide +kernel
theorem d_Mod_job_44 : decode b_Mod_job 44 = .ok (.ireturn, 1) := by decide +kernel
theorem d_Mod_job_45 : decode b_Mod_job 45 = .ok (.aload_n 0, 1) := by decide +kernel
theorem d_Mod_job_46 : decode b_Mod_job 46 = .ok (.getfield 76, 3) := by decide +kernel
theorem d_Mod_job_49 : decode b_Mod_job 49 = .ok (.bipush 100, 2) := by decide +kernel
theorem d_Mod_job_51 : decode b_Mod_job 51 = .ok (.if_icmp .ne 5, 3) := by decide +kernel
theorem d_Mod_job_54 : decode b_Mod_job 54 = .ok (.iconst (-1), 1) := by decide +kernel
theorem d_Mod_job_55 : decode b_Mod_job 55 = .ok (.ireturn, 1) := by decide +kernel
theorem d_Mod_job_56 : decode b_Mod_job 56 = .ok (.aload_n 0, 1) := by decide +kernel
theorem d_Mod_job_57 : decode b_Mod_job 57 = .ok (.lload 4, 2) := by decide +kernel
theorem d_Mod_job_59 : decode b_Mod_job 59 = .ok (.putfield 89, 3) := by decide +kernel
theorem d_Mod_job_62 : decode b_Mod_job 62 = .ok (.aload_n 0, 1) := by decide +kernel
theorem d_Mod_job_63 : decode b_Mod_job 63 = .ok (.getfield 35, 3) := by decide +kernel
theorem d_Mod_job_66 : decode b_Mod_job 66 = .ok (.aload_n 0, 1) := by decide +kernel
theorem d_Mod_job_67 : decode b_Mod_job 67 = .ok (.getfield 76, 3) := by decide +kernel
theorem d_Mod_job_70 : decode b_Mod_job 70 = .ok (.iload_n 1, 1) := by decide +kernel
theorem d_Mod_job_71 : decode b_Mod_job 71 = .ok (.iastore, 1) := by decide +kernel
theorem d_Mod_job_72 : decode b_Mod_job 72 = .ok (.aload_n 0, 1) := by decide +kernel
theorem d_Mod_job_73 : decode b_Mod_job 73 = .ok (.getfield 38, 3) := by decide +kernel
theorem d_Mod_job_76 : decode b_Mod_job 76 = .ok (.aload_n 0, 1) := by decide +kernel
theorem d_Mod_job_77 : decode b_Mod_job 77 = .ok (.getfield 76, 3) := by decide +kernel
theorem d_Mod_job_80 : decode b_Mod_job 80 = .ok (.iload_n 2, 1) := by decide +kernel
theorem d_Mod_job_81 : decode b_Mod_job 81 = .ok (.iastore, 1) := by decide +kernel
theorem d_Mod_job_82 : decode b_Mod_job 82 = .ok (.aload_n 0, 1) := by decide +kernel
theorem d_Mod_job_83 : decode b_Mod_job 83 = .ok (.getfield 41, 3) := by decide +kernel
theorem d_Mod_job_86 : decode b_Mod_job 86 = .ok (.aload_n 0, 1) := by decide +kernel
theorem d_Mod_job_87 : decode b_Mod_job 87 = .ok (.getfield 76, 3) := by decide +kernel
theorem d_Mod_job_90 : decode b_Mod_job 90 = .ok (.iload_n 3, 1) := by decide +kernel
theorem d_Mod_job_91 : decode b_Mod_job 91 = .ok (.iastore, 1) := by decide +kernel
theorem d_Mod_job_92 : decode b_Mod_job 92 = .ok (.aload_n 0, 1) := by decide +kernel
theorem d_Mod_job_93 : decode b_Mod_job 93 = .ok (.getfield 62, 3) := by decide +kernel
theorem d_Mod_job_96 : decode b_Mod_job 96 = .ok (.aload_n 0, 1) := by decide +kernel
theorem d_Mod_job_97 : decode b_Mod_job 97 = .ok (.getfield 76, 3) := by decide +kernel
theorem d_Mod_job_100 : decode b_Mod_job 100 = .ok (.lload 4, 2) := by decide +kernel
theorem d_Mod_job_102 : decode b_Mod_job 102 = .ok (.lastore, 1) := by decide +kernel
theorem d_Mod_job_103 : decode b_Mod_job 103 = .ok (.aload_n 0, 1) := by decide +kernel
theorem d_Mod_job_104 : decode b_Mod_job 104 = .ok (.dup, 1) := by decide +kernel
theorem d_Mod_job_105 : decode b_Mod_job 105 = .ok (.getfield 76, 3) := by decide +kernel
theorem d_Mod_job_108 : decode b_Mod_job 108 = .ok (.iconst 1, 1) := by decide +kernel
theorem d_Mod_job_109 : decode b_Mod_job 109 = .ok (.iadd, 1) := by decide +kernel
theorem d_Mod_job_110 : decode b_Mod_job 110 = .ok (.putfield 76, 3) := by decide +kernel
theorem d_Mod_job_113 : decode b_Mod_job 113 = .ok (.aload_n 0, 1) := by decide +kernel
theorem d_Mod_job_114 : decode b_Mod_job 114 = .ok (.getfield 76, 3) := by decide +kernel
theorem d_Mod_job_117 : decode b_Mod_job 117 = .ok (.ireturn, 1) := by decide +kernel
theorem d_Mod_reaches_0 : decode b_Mod_reaches 0 = .ok (.iconst 0, 1) := by decide +kernel
theorem d_Mod_reaches_1 : decode b_Mod_reaches 1 = .ok (.istore_n 3, 1) := by decide +kernel
theorem d_Mod_reaches_2 : decode b_Mod_reaches 2 = .ok (.iload_n 3, 1) := by decide +kernel
theorem d_Mod_reaches_3 : decode b_Mod_reaches 3 = .ok (.bipush 100, 2) := by decide +kernel
theorem d_Mod_reaches_5 : decode b_Mod_reaches 5 = .ok (.if_icmp .ge 25, 3) := by decide +kernel
theorem d_Mod_reaches_8 : decode b_Mod_reaches 8 = .ok (.aload_n 0, 1) := by decide +kernel
theorem d_Mod_reaches_9 : decode b_Mod_reaches 9 = .ok (.getfield 59, 3) := by decide +kernel
theorem d_Mod_reaches_12 : decode b_Mod_reaches 12 = .ok (.iload_n 3, 1) := by decide +kernel
theorem d_Mod_reaches_13 : decode b_Mod_reaches 13 = .ok (.iload_n 3, 1) := by decide +kernel
theorem d_Mod_reaches_14 : decode b_Mod_reaches 14 = .ok (.iload_n 1, 1) := by decide +kernel
theorem d_Mod_reaches_15 : decode b_Mod_reaches 15 = .ok (.if_icmp .ne 7, 3) := by decide +kernel
theorem d_Mod_reaches_18 : decode b_Mod_reaches 18 = .ok (.iconst 1, 1) := by decide +kernel
theorem d_Mod_reaches_19 : decode b_Mod_reaches 19 = .ok (.goto 4, 3) := by decide +kernel
theorem d_Mod_reaches_22 : decode b_Mod_reaches 22 = .ok (.iconst 0, 1) := by decide +kernel
theorem d_Mod_reaches_23 : decode b_Mod_reaches 23 = .ok (.bastore, 1) := by decide +kernel
theorem d_Mod_reaches_24 : decode b_Mod_reaches 24 = .ok (.iinc 3 1, 3) := by decide +kernel
theorem d_Mod_reaches_27 : decode b_Mod_reaches 27 = .ok (.goto (-25), 3) := by decide +kernel
theorem d_Mod_reaches_30 : decode b_Mod_reaches 30 = .ok (.iconst 1, 1) := by decide +kernel
theorem d_Mod_reaches_31 : decode b_Mod_reaches 31 = .ok (.istore_n 3, 1) := by decide +kernel
theorem d_Mod_reaches_32 : decode b_Mod_reaches 32 = .ok (.iload_n 3, 1) := by decide +kernel
theorem d_Mod_reaches_33 : decode b_Mod_reaches 33 = .ok (.ifCond .eq 89, 3) := by decide +kernel
theorem d_Mod_reaches_36 : decode b_Mod_reaches 36 = .ok (.iconst 0, 1) := by decide +kernel
theorem d_Mod_reaches_37 : decode b_Mod_reaches 37 = .ok (.istore_n 3, 1) := by decide +kernel
theorem d_Mod_reaches_38 : decode b_Mod_reaches 38 = .ok (.iconst 0, 1) := by decide +kernel
theorem d_Mod_reaches_39 : decode b_Mod_reaches 39 = .ok (.istore 4, 2) := by decide +kernel
theorem d_Mod_reaches_41 : decode b_Mod_reaches 41 = .ok (.iload 4, 2) := by decide +kernel
theorem d_Mod_reaches_43 : decode b_Mod_reaches 43 = .ok (.bipush 100, 2) := by decide +kernel
theorem d_Mod_reaches_45 : decode b_Mod_reaches 45 = .ok (.if_icmp .ge 74, 3) := by decide +kernel
theorem d_Mod_reaches_48 : decode b_Mod_reaches 48 = .ok (.iconst 0, 1) := by decide +kernel
theorem d_Mod_reaches_49 : decode b_Mod_reaches 49 = .ok (.istore 5, 2) := by decide +kernel
theorem d_Mod_reaches_51 : decode b_Mod_reaches 51 = .ok (.iload 5, 2) := by decide +kernel
theorem d_Mod_reaches_53 : decode b_Mod_reaches 53 = .ok (.bipush 100, 2) := by decide +kernel
theorem d_Mod_reaches_55 : decode b_Mod_reaches 55 = .ok (.if_icmp .ge 58, 3) := by decide +kernel
theorem d_Mod_reaches_58 : decode b_Mod_reaches 58 = .ok (.aload_n 0, 1) := by decide +kernel
theorem d_Mod_reaches_59 : decode b_Mod_reaches 59 = .ok (.getfield 59, 3) := by decide +kernel
theorem d_Mod_reaches_62 : decode b_Mod_reaches 62 = .ok (.iload 4, 2) := by decide +kernel
theorem d_Mod_reaches_64 : decode b_Mod_reaches 64 = .ok (.baload, 1) := by decide +kernel
theorem d_Mod_reaches_65 : decode b_Mod_reaches 65 = .ok (.ifCond .eq 48, 3) := by decide +kernel
theorem d_Mod_reaches_68 : decode b_Mod_reaches 68 = .ok (.aload_n 0, 1) := by decide +kernel
theorem d_Mod_reaches_69 : decode b_Mod_reaches 69 = .ok (.getfield 56, 3) := by decide +kernel
theorem d_Mod_reaches_72 : decode b_Mod_reaches 72 = .ok (.bipush 100, 2) := by decide +kernel
theorem d_Mod_reaches_74 : decode b_Mod_reaches 74 = .ok (.iload 4, 2) := by decide +kernel
theorem d_Mod_reaches_76 : decode b_Mod_reaches 76 = .ok (.imul, 1) := by decide +kernel
theorem d_Mod_reaches_77 : decode b_Mod_reaches 77 = .ok (.iload 5, 2) := by decide +kernel
theorem d_Mod_reaches_79 : decode b_Mod_reaches 79 = .ok (.iadd, 1) := by decide +kernel
theorem d_Mod_reaches_80 : decode b_Mod_reaches 80 = .ok (.baload, 1) := by decide +kernel
theorem d_Mod_reaches_81 : decode b_Mod_reaches 81 = .ok (.ifCond .eq 26, 3) := by decide +kernel
theorem d_Mod_reaches_84 : decode b_Mod_reaches 84 = .ok (.aload_n 0, 1) := by decide +kernel
theorem d_Mod_reaches_85 : decode b_Mod_reaches 85 = .ok (.getfield 59, 3) := by decide +kernel
theorem d_Mod_reaches_88 : decode b_Mod_reaches 88 = .ok (.iload 5, 2) := by decide +kernel
theorem d_Mod_reaches_90 : decode b_Mod_reaches 90 = .ok (.baload, 1) := by decide +kernel
theorem d_Mod_reaches_91 : decode b_Mod_reaches 91 = .ok (.ifCond .eq 6, 3) := by decide +kernel
theorem d_Mod_reaches_94 : decode b_Mod_reaches 94 = .ok (.goto 13, 3) := by decide +kernel
theorem d_Mod_reaches_97 : decode b_Mod_reaches 97 = .ok (.aload_n 0, 1) := by decide +kernel
theorem d_Mod_reaches_98 : decode b_Mod_reaches 98 = .ok (.getfield 59, 3) := by decide +kernel
theorem d_Mod_reaches_101 : decode b_Mod_reaches 101 = .ok (.iload 5, 2) := by decide +kernel
theorem d_Mod_reaches_103 : decode b_Mod_reaches 103 = .ok (.iconst 1, 1) := by decide +kernel
theorem d_Mod_reaches_104 : decode b_Mod_reaches 104 = .ok (.bastore, 1) := by decide +kernel
theorem d_Mod_reaches_105 : decode b_Mod_reaches 105 = .ok (.iconst 1, 1) := by decide +kernel
theorem d_Mod_reaches_106 : decode b_Mod_reaches 106 = .ok (.istore_n 3, 1) := by decide +kernel
theorem d_Mod_reaches_107 : decode b_Mod_reaches 107 = .ok (.iinc 5 1, 3) := by decide +kernel
theorem d_Mod_reaches_110 : decode b_Mod_reaches 110 = .ok (.goto (-59), 3) := by decide +kernel
theorem d_Mod_reaches_113 : decode b_Mod_reaches 113 = .ok (.iinc 4 1, 3) := by decide +kernel
theorem d_Mod_reaches_116 : decode b_Mod_reaches 116 = .ok (.goto (-75), 3) := by decide +kernel
theorem d_Mod_reaches_119 : decode b_Mod_reaches 119 = .ok (.goto (-87), 3) := by decide +kernel
theorem d_Mod_reaches_122 : decode b_Mod_reaches 122 = .ok (.aload_n 0, 1) := by decide +kernel
theorem d_Mod_reaches_123 : decode b_Mod_reaches 123 = .ok (.getfield 59, 3) := by decide +kernel
theorem d_Mod_reaches_126 : decode b_Mod_reaches 126 = .ok (.iload_n 2, 1) := by decide +kernel
theorem d_Mod_reaches_127 : decode b_Mod_reaches 127 = .ok (.baload, 1) := by decide +kernel
theorem d_Mod_reaches_128 : decode b_Mod_reaches 128 = .ok (.ireturn, 1) := by decide +kernel
theorem d_Mod_needs_0 : decode b_Mod_needs 0 = .ok (.aload_n 0, 1) := by decide +kernel
theorem d_Mod_needs_1 : decode b_Mod_needs 1 = .ok (.iconst 0, 1) := by decide +kernel
theorem d_Mod_needs_2 : decode b_Mod_needs 2 = .ok (.putfield 69, 3) := by decide +kernel
theorem d_Mod_needs_5 : decode b_Mod_needs 5 = .ok (.aload_n 0, 1) := by decide +kernel
theorem d_Mod_needs_6 : decode b_Mod_needs 6 = .ok (.iload_n 1, 1) := by decide +kernel
theorem d_Mod_needs_7 : decode b_Mod_needs 7 = .ok (.invokevirtual 93, 3) := by decide +kernel
