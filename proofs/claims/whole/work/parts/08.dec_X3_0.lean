theorem dX3_init_0 : decode cX3_init 0 = .ok (.aload_n 0, 1) := by decide +kernel
theorem dX3_init_1 : decode cX3_init 1 = .ok (.invokespecial 3, 3) := by decide +kernel
theorem dX3_init_4 : decode cX3_init 4 = .ok (.aload_n 0, 1) := by decide +kernel
theorem dX3_init_5 : decode cX3_init 5 = .ok (.iconst 3, 1) := by decide +kernel
theorem dX3_init_6 : decode cX3_init 6 = .ok (.newarray .int, 2) := by decide +kernel
theorem dX3_init_8 : decode cX3_init 8 = .ok (.putfield 9, 3) := by decide +kernel
theorem dX3_init_11 : decode cX3_init 11 = .ok (.aload_n 0, 1) := by decide +kernel
theorem dX3_init_12 : decode cX3_init 12 = .ok (.new 15, 3) := by decide +kernel
theorem dX3_init_15 : decode cX3_init 15 = .ok (.dup, 1) := by decide +kernel
theorem dX3_init_16 : decode cX3_init 16 = .ok (.invokespecial 17, 3) := by decide +kernel
theorem dX3_init_19 : decode cX3_init 19 = .ok (.putfield 18, 3) := by decide +kernel
theorem dX3_init_22 : decode cX3_init 22 = .ok (.aload_n 0, 1) := by decide +kernel
theorem dX3_init_23 : decode cX3_init 23 = .ok (.new 22, 3) := by decide +kernel
theorem dX3_init_26 : decode cX3_init 26 = .ok (.dup, 1) := by decide +kernel
theorem dX3_init_27 : decode cX3_init 27 = .ok (.invokespecial 24, 3) := by decide +kernel
theorem dX3_init_30 : decode cX3_init 30 = .ok (.putfield 25, 3) := by decide +kernel
theorem dX3_init_33 : decode cX3_init 33 = .ok (.return_, 1) := by decide +kernel
theorem dX3_rowsOf_0 : decode cX3_rowsOf 0 = .ok (.lconst 1, 1) := by decide +kernel
theorem dX3_rowsOf_1 : decode cX3_rowsOf 1 = .ok (.lstore_n 1, 1) := by decide +kernel
theorem dX3_rowsOf_2 : decode cX3_rowsOf 2 = .ok (.iconst 0, 1) := by decide +kernel
theorem dX3_rowsOf_3 : decode cX3_rowsOf 3 = .ok (.istore_n 3, 1) := by decide +kernel
theorem dX3_rowsOf_4 : decode cX3_rowsOf 4 = .ok (.iload_n 3, 1) := by decide +kernel
theorem dX3_rowsOf_5 : decode cX3_rowsOf 5 = .ok (.iload_n 0, 1) := by decide +kernel
theorem dX3_rowsOf_6 : decode cX3_rowsOf 6 = .ok (.if_icmp .ge 20, 3) := by decide +kernel
theorem dX3_rowsOf_9 : decode cX3_rowsOf 9 = .ok (.iload_n 3, 1) := by decide +kernel
theorem dX3_rowsOf_10 : decode cX3_rowsOf 10 = .ok (.iconst 4, 1) := by decide +kernel
theorem dX3_rowsOf_11 : decode cX3_rowsOf 11 = .ok (.if_icmp .ge 15, 3) := by decide +kernel
theorem dX3_rowsOf_14 : decode cX3_rowsOf 14 = .ok (.lload_n 1, 1) := by decide +kernel
theorem dX3_rowsOf_15 : decode cX3_rowsOf 15 = .ok (.ldc2_w 29, 3) := by decide +kernel
theorem dX3_rowsOf_18 : decode cX3_rowsOf 18 = .ok (.lmul, 1) := by decide +kernel
theorem dX3_rowsOf_19 : decode cX3_rowsOf 19 = .ok (.lstore_n 1, 1) := by decide +kernel
theorem dX3_rowsOf_20 : decode cX3_rowsOf 20 = .ok (.iinc 3 1, 3) := by decide +kernel
theorem dX3_rowsOf_23 : decode cX3_rowsOf 23 = .ok (.goto (-19), 3) := by decide +kernel
theorem dX3_rowsOf_26 : decode cX3_rowsOf 26 = .ok (.lload_n 1, 1) := by decide +kernel
theorem dX3_rowsOf_27 : decode cX3_rowsOf 27 = .ok (.lreturn, 1) := by decide +kernel
theorem dX3_firstNotSo_0 : decode cX3_firstNotSo 0 = .ok (.aload_n 1, 1) := by decide +kernel
theorem dX3_firstNotSo_1 : decode cX3_firstNotSo 1 = .ok (.getfield 31, 3) := by decide +kernel
theorem dX3_firstNotSo_4 : decode cX3_firstNotSo 4 = .ok (.iconst 0, 1) := by decide +kernel
theorem dX3_firstNotSo_5 : decode cX3_firstNotSo 5 = .ok (.aload_n 0, 1) := by decide +kernel
theorem dX3_firstNotSo_6 : decode cX3_firstNotSo 6 = .ok (.getfield 9, 3) := by decide +kernel
theorem dX3_firstNotSo_9 : decode cX3_firstNotSo 9 = .ok (.iconst 0, 1) := by decide +kernel
theorem dX3_firstNotSo_10 : decode cX3_firstNotSo 10 = .ok (.iconst 3, 1) := by decide +kernel
theorem dX3_firstNotSo_11 : decode cX3_firstNotSo 11 = .ok (.invokestatic 34, 3) := by decide +kernel
theorem dX3_firstNotSo_14 : decode cX3_firstNotSo 14 = .ok (.aload_n 0, 1) := by decide +kernel
theorem dX3_firstNotSo_15 : decode cX3_firstNotSo 15 = .ok (.getfield 18, 3) := by decide +kernel
theorem dX3_firstNotSo_18 : decode cX3_firstNotSo 18 = .ok (.aload_n 1, 1) := by decide +kernel
theorem dX3_firstNotSo_19 : decode cX3_firstNotSo 19 = .ok (.aload_n 0, 1) := by decide +kernel
theorem dX3_firstNotSo_20 : decode cX3_firstNotSo 20 = .ok (.getfield 9, 3) := by decide +kernel
theorem dX3_firstNotSo_23 : decode cX3_firstNotSo 23 = .ok (.invokevirtual 40, 3) := by decide +kernel
theorem dX3_firstNotSo_26 : decode cX3_firstNotSo 26 = .ok (.iconst 0, 1) := by decide +kernel
theorem dX3_firstNotSo_27 : decode cX3_firstNotSo 27 = .ok (.istore 5, 2) := by decide +kernel
theorem dX3_firstNotSo_29 : decode cX3_firstNotSo 29 = .ok (.iload 5, 2) := by decide +kernel
theorem dX3_firstNotSo_31 : decode cX3_firstNotSo 31 = .ok (.iload_n 2, 1) := by decide +kernel
theorem dX3_firstNotSo_32 : decode cX3_firstNotSo 32 = .ok (.if_icmp .ge 47, 3) := by decide +kernel
theorem dX3_firstNotSo_35 : decode cX3_firstNotSo 35 = .ok (.iload_n 2, 1) := by decide +kernel
theorem dX3_firstNotSo_36 : decode cX3_firstNotSo 36 = .ok (.iconst 1, 1) := by decide +kernel
theorem dX3_firstNotSo_37 : decode cX3_firstNotSo 37 = .ok (.isub, 1) := by decide +kernel
theorem dX3_firstNotSo_38 : decode cX3_firstNotSo 38 = .ok (.iload 5, 2) := by decide +kernel
theorem dX3_firstNotSo_40 : decode cX3_firstNotSo 40 = .ok (.isub, 1) := by decide +kernel
theorem dX3_firstNotSo_41 : decode cX3_firstNotSo 41 = .ok (.invokestatic 44, 3) := by decide +kernel
theorem dX3_firstNotSo_44 : decode cX3_firstNotSo 44 = .ok (.lstore 6, 2) := by decide +kernel
theorem dX3_firstNotSo_46 : decode cX3_firstNotSo 46 = .ok (.lload 6, 2) := by decide +kernel
theorem dX3_firstNotSo_48 : decode cX3_firstNotSo 48 = .ok (.lconst 1, 1) := by decide +kernel
theorem dX3_firstNotSo_49 : decode cX3_firstNotSo 49 = .ok (.lcmp, 1) := by decide +kernel
theorem dX3_firstNotSo_50 : decode cX3_firstNotSo 50 = .ok (.ifCond .lt 20, 3) := by decide +kernel
theorem dX3_firstNotSo_53 : decode cX3_firstNotSo 53 = .ok (.aload_n 0, 1) := by decide +kernel
theorem dX3_firstNotSo_54 : decode cX3_firstNotSo 54 = .ok (.aload_n 1, 1) := by decide +kernel
theorem dX3_firstNotSo_55 : decode cX3_firstNotSo 55 = .ok (.lload_n 3, 1) := by decide +kernel
theorem dX3_firstNotSo_56 : decode cX3_firstNotSo 56 = .ok (.lload 6, 2) := by decide +kernel
theorem dX3_firstNotSo_58 : decode cX3_firstNotSo 58 = .ok (.ldiv, 1) := by decide +kernel
theorem dX3_firstNotSo_59 : decode cX3_firstNotSo 59 = .ok (.ldc2_w 29, 3) := by decide +kernel
theorem dX3_firstNotSo_62 : decode cX3_firstNotSo 62 = .ok (.lrem, 1) := by decide +kernel
theorem dX3_firstNotSo_63 : decode cX3_firstNotSo 63 = .ok (.l2i, 1) := by decide +kernel
theorem dX3_firstNotSo_64 : decode cX3_firstNotSo 64 = .ok (.invokevirtual 48, 3) := by decide +kernel
theorem dX3_firstNotSo_67 : decode cX3_firstNotSo 67 = .ok (.ifCond .ne 6, 3) := by decide +kernel
theorem dX3_firstNotSo_70 : decode cX3_firstNotSo 70 = .ok (.iload 5, 2) := by decide +kernel
theorem dX3_firstNotSo_72 : decode cX3_firstNotSo 72 = .ok (.ireturn, 1) := by decide +kernel
theorem dX3_firstNotSo_73 : decode cX3_firstNotSo 73 = .ok (.iinc 5 1, 3) := by decide +kernel
theorem dX3_firstNotSo_76 : decode cX3_firstNotSo 76 = .ok (.goto (-47), 3) := by decide +kernel
theorem dX3_firstNotSo_79 : decode cX3_firstNotSo 79 = .ok (.bipush (-9), 2) := by decide +kernel
theorem dX3_firstNotSo_81 : decode cX3_firstNotSo 81 = .ok (.ireturn, 1) := by decide +kernel
theorem dX3_isSo_0 : decode cX3_isSo 0 = .ok (.iload_n 2, 1) := by decide +kernel
theorem dX3_isSo_1 : decode cX3_isSo 1 = .ok (.sipush 1000, 3) := by decide +kernel
theorem dX3_isSo_4 : decode cX3_isSo 4 = .ok (.idiv, 1) := by decide +kernel
theorem dX3_isSo_5 : decode cX3_isSo 5 = .ok (.istore_n 3, 1) := by decide +kernel
theorem dX3_isSo_6 : decode cX3_isSo 6 = .ok (.iload_n 2, 1) := by decide +kernel
theorem dX3_isSo_7 : decode cX3_isSo 7 = .ok (.bipush 100, 2) := by decide +kernel
theorem dX3_isSo_9 : decode cX3_isSo 9 = .ok (.idiv, 1) := by decide +kernel
theorem dX3_isSo_10 : decode cX3_isSo 10 = .ok (.bipush 10, 2) := by decide +kernel
theorem dX3_isSo_12 : decode cX3_isSo 12 = .ok (.irem, 1) := by decide +kernel
theorem dX3_isSo_13 : decode cX3_isSo 13 = .ok (.istore 4, 2) := by decide +kernel
theorem dX3_isSo_15 : decode cX3_isSo 15 = .ok (.iload_n 2, 1) := by decide +kernel
theorem dX3_isSo_16 : decode cX3_isSo 16 = .ok (.bipush 10, 2) := by decide +kernel
theorem dX3_isSo_18 : decode cX3_isSo 18 = .ok (.idiv, 1) := by decide +kernel
theorem dX3_isSo_19 : decode cX3_isSo 19 = .ok (.bipush 10, 2) := by decide +kernel
theorem dX3_isSo_21 : decode cX3_isSo 21 = .ok (.irem, 1) := by decide +kernel
theorem dX3_isSo_22 : decode cX3_isSo 22 = .ok (.istore 5, 2) := by decide +kernel
theorem dX3_isSo_24 : decode cX3_isSo 24 = .ok (.iload_n 2, 1) := by decide +kernel
theorem dX3_isSo_25 : decode cX3_isSo 25 = .ok (.bipush 10, 2) := by decide +kernel
theorem dX3_isSo_27 : decode cX3_isSo 27 = .ok (.irem, 1) := by decide +kernel
theorem dX3_isSo_28 : decode cX3_isSo 28 = .ok (.istore 6, 2) := by decide +kernel
theorem dX3_isSo_30 : decode cX3_isSo 30 = .ok (.iload 5, 2) := by decide +kernel
theorem dX3_isSo_32 : decode cX3_isSo 32 = .ok (.ifCond .eq 10, 3) := by decide +kernel
theorem dX3_isSo_35 : decode cX3_isSo 35 = .ok (.iload_n 3, 1) := by decide +kernel
theorem dX3_isSo_36 : decode cX3_isSo 36 = .ok (.iconst 2, 1) := by decide +kernel
theorem dX3_isSo_37 : decode cX3_isSo 37 = .ok (.if_icmp .eq 5, 3) := by decide +kernel
theorem dX3_isSo_40 : decode cX3_isSo 40 = .ok (.iconst 0, 1) := by decide +kernel
theorem dX3_isSo_41 : decode cX3_isSo 41 = .ok (.ireturn, 1) := by decide +kernel
theorem dX3_isSo_42 : decode cX3_isSo 42 = .ok (.iload_n 3, 1) := by decide +kernel
theorem dX3_isSo_43 : decode cX3_isSo 43 = .ok (.tableswitch 261 1 7 #[41, 51, 105, 147, 177, 204, 230], 41) := by decide +kernel
theorem dX3_isSo_84 : decode cX3_isSo 84 = .ok (.aload_n 0, 1) := by decide +kernel
theorem dX3_isSo_85 : decode cX3_isSo 85 = .ok (.aload_n 1, 1) := by decide +kernel
theorem dX3_isSo_86 : decode cX3_isSo 86 = .ok (.iload 4, 2) := by decide +kernel
theorem dX3_isSo_88 : decode cX3_isSo 88 = .ok (.iload 6, 2) := by decide +kernel
theorem dX3_isSo_90 : decode cX3_isSo 90 = .ok (.invokevirtual 52, 3) := by decide +kernel
theorem dX3_isSo_93 : decode cX3_isSo 93 = .ok (.ireturn, 1) := by decide +kernel
theorem dX3_isSo_94 : decode cX3_isSo 94 = .ok (.aload_n 1, 1) := by decide +kernel
theorem dX3_isSo_95 : decode cX3_isSo 95 = .ok (.iload 4, 2) := by decide +kernel
theorem dX3_isSo_97 : decode cX3_isSo 97 = .ok (.invokevirtual 56, 3) := by decide +kernel
theorem dX3_isSo_100 : decode cX3_isSo 100 = .ok (.ifCond .eq 46, 3) := by decide +kernel
theorem dX3_isSo_103 : decode cX3_isSo 103 = .ok (.aload_n 0, 1) := by decide +kernel
theorem dX3_isSo_104 : decode cX3_isSo 104 = .ok (.getfield 18, 3) := by decide +kernel
theorem dX3_isSo_107 : decode cX3_isSo 107 = .ok (.iload 4, 2) := by decide +kernel
theorem dX3_isSo_109 : decode cX3_isSo 109 = .ok (.invokevirtual 60, 3) := by decide +kernel
theorem dX3_isSo_112 : decode cX3_isSo 112 = .ok (.ifCond .eq 34, 3) := by decide +kernel
theorem dX3_isSo_115 : decode cX3_isSo 115 = .ok (.iload 5, 2) := by decide +kernel
theorem dX3_isSo_117 : decode cX3_isSo 117 = .ok (.iconst 5, 1) := by decide +kernel
theorem dX3_isSo_118 : decode cX3_isSo 118 = .ok (.invokestatic 63, 3) := by decide +kernel
theorem dX3_isSo_121 : decode cX3_isSo 121 = .ok (.ifCond .eq 25, 3) := by decide +kernel
theorem dX3_isSo_124 : decode cX3_isSo 124 = .ok (.aload_n 0, 1) := by decide +kernel
theorem dX3_isSo_125 : decode cX3_isSo 125 = .ok (.getfield 18, 3) := by decide +kernel
theorem dX3_isSo_128 : decode cX3_isSo 128 = .ok (.getfield 67, 3) := by decide +kernel
theorem dX3_isSo_131 : decode cX3_isSo 131 = .ok (.iload 4, 2) := by decide +kernel
theorem dX3_isSo_133 : decode cX3_isSo 133 = .ok (.aaload, 1) := by decide +kernel
theorem dX3_isSo_134 : decode cX3_isSo 134 = .ok (.iload 5, 2) := by decide +kernel
theorem dX3_isSo_136 : decode cX3_isSo 136 = .ok (.iaload, 1) := by decide +kernel
theorem dX3_isSo_137 : decode cX3_isSo 137 = .ok (.iload 6, 2) := by decide +kernel
theorem dX3_isSo_139 : decode cX3_isSo 139 = .ok (.if_icmp .ne 7, 3) := by decide +kernel
theorem dX3_isSo_142 : decode cX3_isSo 142 = .ok (.iconst 1, 1) := by decide +kernel
theorem dX3_isSo_143 : decode cX3_isSo 143 = .ok (.goto 4, 3) := by decide +kernel
theorem dX3_isSo_146 : decode cX3_isSo 146 = .ok (.iconst 0, 1) := by decide +kernel
theorem dX3_isSo_147 : decode cX3_isSo 147 = .ok (.ireturn, 1) := by decide +kernel
theorem dX3_isSo_148 : decode cX3_isSo 148 = .ok (.aload_n 1, 1) := by decide +kernel
theorem dX3_isSo_149 : decode cX3_isSo 149 = .ok (.iload 4, 2) := by decide +kernel
theorem dX3_isSo_151 : decode cX3_isSo 151 = .ok (.invokevirtual 56, 3) := by decide +kernel
theorem dX3_isSo_154 : decode cX3_isSo 154 = .ok (.ifCond .eq 34, 3) := by decide +kernel
theorem dX3_isSo_157 : decode cX3_isSo 157 = .ok (.aload_n 0, 1) := by decide +kernel
theorem dX3_isSo_158 : decode cX3_isSo 158 = .ok (.getfield 18, 3) := by decide +kernel
theorem dX3_isSo_161 : decode cX3_isSo 161 = .ok (.iload 4, 2) := by decide +kernel
theorem dX3_isSo_163 : decode cX3_isSo 163 = .ok (.invokevirtual 60, 3) := by decide +kernel
theorem dX3_isSo_166 : decode cX3_isSo 166 = .ok (.ifCond .eq 22, 3) := by decide +kernel
theorem dX3_isSo_169 : decode cX3_isSo 169 = .ok (.aload_n 0, 1) := by decide +kernel
theorem dX3_isSo_170 : decode cX3_isSo 170 = .ok (.getfield 18, 3) := by decide +kernel
theorem dX3_isSo_173 : decode cX3_isSo 173 = .ok (.getfield 70, 3) := by decide +kernel
theorem dX3_isSo_176 : decode cX3_isSo 176 = .ok (.iload 4, 2) := by decide +kernel
theorem dX3_isSo_178 : decode cX3_isSo 178 = .ok (.iaload, 1) := by decide +kernel
theorem dX3_isSo_179 : decode cX3_isSo 179 = .ok (.iload 6, 2) := by decide +kernel
theorem dX3_isSo_181 : decode cX3_isSo 181 = .ok (.if_icmp .ne 7, 3) := by decide +kernel
theorem dX3_isSo_184 : decode cX3_isSo 184 = .ok (.iconst 1, 1) := by decide +kernel
theorem dX3_isSo_185 : decode cX3_isSo 185 = .ok (.goto 4, 3) := by decide +kernel
theorem dX3_isSo_188 : decode cX3_isSo 188 = .ok (.iconst 0, 1) := by decide +kernel
theorem dX3_isSo_189 : decode cX3_isSo 189 = .ok (.ireturn, 1) := by decide +kernel
theorem dX3_isSo_190 : decode cX3_isSo 190 = .ok (.aload_n 1, 1) := by decide +kernel
theorem dX3_isSo_191 : decode cX3_isSo 191 = .ok (.iload 4, 2) := by decide +kernel
theorem dX3_isSo_193 : decode cX3_isSo 193 = .ok (.invokevirtual 56, 3) := by decide +kernel
theorem dX3_isSo_196 : decode cX3_isSo 196 = .ok (.ifCond .eq 22, 3) := by decide +kernel
theorem dX3_isSo_199 : decode cX3_isSo 199 = .ok (.aload_n 0, 1) := by decide +kernel
theorem dX3_isSo_200 : decode cX3_isSo 200 = .ok (.getfield 18, 3) := by decide +kernel
theorem dX3_isSo_203 : decode cX3_isSo 203 = .ok (.getfield 73, 3) := by decide +kernel
theorem dX3_isSo_206 : decode cX3_isSo 206 = .ok (.iload 4, 2) := by decide +kernel
theorem dX3_isSo_208 : decode cX3_isSo 208 = .ok (.iaload, 1) := by decide +kernel
theorem dX3_isSo_209 : decode cX3_isSo 209 = .ok (.iload 6, 2) := by decide +kernel
theorem dX3_isSo_211 : decode cX3_isSo 211 = .ok (.if_icmp .ne 7, 3) := by decide +kernel
theorem dX3_isSo_214 : decode cX3_isSo 214 = .ok (.iconst 1, 1) := by decide +kernel
theorem dX3_isSo_215 : decode cX3_isSo 215 = .ok (.goto 4, 3) := by decide +kernel
theorem dX3_isSo_218 : decode cX3_isSo 218 = .ok (.iconst 0, 1) := by decide +kernel
theorem dX3_isSo_219 : decode cX3_isSo 219 = .ok (.ireturn, 1) := by decide +kernel
theorem dX3_isSo_220 : decode cX3_isSo 220 = .ok (.iload 6, 2) := by decide +kernel
theorem dX3_isSo_222 : decode cX3_isSo 222 = .ok (.ifCond .ne 23, 3) := by decide +kernel
theorem dX3_isSo_225 : decode cX3_isSo 225 = .ok (.aload_n 0, 1) := by decide +kernel
theorem dX3_isSo_226 : decode cX3_isSo 226 = .ok (.getfield 18, 3) := by decide +kernel
theorem dX3_isSo_229 : decode cX3_isSo 229 = .ok (.getfield 76, 3) := by decide +kernel
theorem dX3_isSo_232 : decode cX3_isSo 232 = .ok (.iload 4, 2) := by decide +kernel
theorem dX3_isSo_234 : decode cX3_isSo 234 = .ok (.ishr, 1) := by decide +kernel
theorem dX3_isSo_235 : decode cX3_isSo 235 = .ok (.iconst 1, 1) := by decide +kernel
theorem dX3_isSo_236 : decode cX3_isSo 236 = .ok (.iand, 1) := by decide +kernel
theorem dX3_isSo_237 : decode cX3_isSo 237 = .ok (.iconst 1, 1) := by decide +kernel
theorem dX3_isSo_238 : decode cX3_isSo 238 = .ok (.if_icmp .ne 7, 3) := by decide +kernel
theorem dX3_isSo_241 : decode cX3_isSo 241 = .ok (.iconst 1, 1) := by decide +kernel
theorem dX3_isSo_242 : decode cX3_isSo 242 = .ok (.goto 4, 3) := by decide +kernel
theorem dX3_isSo_245 : decode cX3_isSo 245 = .ok (.iconst 0, 1) := by decide +kernel
theorem dX3_isSo_246 : decode cX3_isSo 246 = .ok (.ireturn, 1) := by decide +kernel
theorem dX3_isSo_247 : decode cX3_isSo 247 = .ok (.iload 4, 2) := by decide +kernel
theorem dX3_isSo_249 : decode cX3_isSo 249 = .ok (.ifCond .ne 22, 3) := by decide +kernel
theorem dX3_isSo_252 : decode cX3_isSo 252 = .ok (.iload 6, 2) := by decide +kernel
theorem dX3_isSo_254 : decode cX3_isSo 254 = .ok (.ifCond .ne 17, 3) := by decide +kernel
theorem dX3_isSo_257 : decode cX3_isSo 257 = .ok (.aload_n 0, 1) := by decide +kernel
theorem dX3_isSo_258 : decode cX3_isSo 258 = .ok (.getfield 18, 3) := by decide +kernel
theorem dX3_isSo_261 : decode cX3_isSo 261 = .ok (.getfield 76, 3) := by decide +kernel
theorem dX3_isSo_264 : decode cX3_isSo 264 = .ok (.ifCond .ne 7, 3) := by decide +kernel
theorem dX3_isSo_267 : decode cX3_isSo 267 = .ok (.iconst 1, 1) := by decide +kernel
theorem dX3_isSo_268 : decode cX3_isSo 268 = .ok (.goto 4, 3) := by decide +kernel
theorem dX3_isSo_271 : decode cX3_isSo 271 = .ok (.iconst 0, 1) := by decide +kernel
theorem dX3_isSo_272 : decode cX3_isSo 272 = .ok (.ireturn, 1) := by decide +kernel
theorem dX3_isSo_273 : decode cX3_isSo 273 = .ok (.aload_n 0, 1) := by decide +kernel
theorem dX3_isSo_274 : decode cX3_isSo 274 = .ok (.getfield 25, 3) := by decide +kernel
theorem dX3_isSo_277 : decode cX3_isSo 277 = .ok (.aload_n 1, 1) := by decide +kernel
theorem dX3_isSo_278 : decode cX3_isSo 278 = .ok (.iload 4, 2) := by decide +kernel
theorem dX3_isSo_280 : decode cX3_isSo 280 = .ok (.invokevirtual 80, 3) := by decide +kernel
theorem dX3_isSo_283 : decode cX3_isSo 283 = .ok (.aload_n 0, 1) := by decide +kernel
theorem dX3_isSo_284 : decode cX3_isSo 284 = .ok (.getfield 25, 3) := by decide +kernel
theorem dX3_isSo_287 : decode cX3_isSo 287 = .ok (.sipush 511, 3) := by decide +kernel
theorem dX3_isSo_290 : decode cX3_isSo 290 = .ok (.invokevirtual 84, 3) := by decide +kernel
theorem dX3_isSo_293 : decode cX3_isSo 293 = .ok (.iload 6, 2) := by decide +kernel
theorem dX3_isSo_295 : decode cX3_isSo 295 = .ok (.if_icmp .lt 7, 3) := by decide +kernel
theorem dX3_isSo_298 : decode cX3_isSo 298 = .ok (.iconst 1, 1) := by decide +kernel
theorem dX3_isSo_299 : decode cX3_isSo 299 = .ok (.goto 4, 3) := by decide +kernel
theorem dX3_isSo_302 : decode cX3_isSo 302 = .ok (.iconst 0, 1) := by decide +kernel
theorem dX3_isSo_303 : decode cX3_isSo 303 = .ok (.ireturn, 1) := by decide +kernel
theorem dX3_isSo_304 : decode cX3_isSo 304 = .ok (.iconst 0, 1) := by decide +kernel
theorem dX3_isSo_305 : decode cX3_isSo 305 = .ok (.ireturn, 1) := by decide +kernel
theorem dX3_isLabelled_0 : decode cX3_isLabelled 0 = .ok (.iload_n 2, 1) := by decide +kernel
theorem dX3_isLabelled_1 : decode cX3_isLabelled 1 = .ok (.iconst 3, 1) := by decide +kernel
theorem dX3_isLabelled_2 : decode cX3_isLabelled 2 = .ok (.invokestatic 63, 3) := by decide +kernel
theorem dX3_isLabelled_5 : decode cX3_isLabelled 5 = .ok (.ifCond .eq 11, 3) := by decide +kernel
theorem dX3_isLabelled_8 : decode cX3_isLabelled 8 = .ok (.iload_n 3, 1) := by decide +kernel
theorem dX3_isLabelled_9 : decode cX3_isLabelled 9 = .ok (.iconst 4, 1) := by decide +kernel
theorem dX3_isLabelled_10 : decode cX3_isLabelled 10 = .ok (.invokestatic 63, 3) := by decide +kernel
theorem dX3_isLabelled_13 : decode cX3_isLabelled 13 = .ok (.ifCond .ne 5, 3) := by decide +kernel
theorem dX3_isLabelled_16 : decode cX3_isLabelled 16 = .ok (.iconst 0, 1) := by decide +kernel
theorem dX3_isLabelled_17 : decode cX3_isLabelled 17 = .ok (.ireturn, 1) := by decide +kernel
theorem dX3_isLabelled_18 : decode cX3_isLabelled 18 = .ok (.aload_n 0, 1) := by decide +kernel
theorem dX3_isLabelled_19 : decode cX3_isLabelled 19 = .ok (.getfield 9, 3) := by decide +kernel
theorem dX3_isLabelled_22 : decode cX3_isLabelled 22 = .ok (.iload_n 2, 1) := by decide +kernel
theorem dX3_isLabelled_23 : decode cX3_isLabelled 23 = .ok (.iload_n 3, 1) := by decide +kernel
theorem dX3_isLabelled_24 : decode cX3_isLabelled 24 = .ok (.iastore, 1) := by decide +kernel
theorem dX3_isLabelled_25 : decode cX3_isLabelled 25 = .ok (.aload_n 0, 1) := by decide +kernel
theorem dX3_isLabelled_26 : decode cX3_isLabelled 26 = .ok (.getfield 18, 3) := by decide +kernel
theorem dX3_isLabelled_29 : decode cX3_isLabelled 29 = .ok (.aload_n 1, 1) := by decide +kernel
theorem dX3_isLabelled_30 : decode cX3_isLabelled 30 = .ok (.aload_n 0, 1) := by decide +kernel
theorem dX3_isLabelled_31 : decode cX3_isLabelled 31 = .ok (.getfield 9, 3) := by decide +kernel
theorem dX3_isLabelled_34 : decode cX3_isLabelled 34 = .ok (.invokevirtual 40, 3) := by decide +kernel
theorem dX3_isLabelled_37 : decode cX3_isLabelled 37 = .ok (.iconst 1, 1) := by decide +kernel
theorem dX3_isLabelled_38 : decode cX3_isLabelled 38 = .ok (.ireturn, 1) := by decide +kernel
