theorem dX9_flow_42 : decode cX9_flow 42 = .ok (.getfield 105, 3) := by decide +kernel
theorem dX9_flow_45 : decode cX9_flow 45 = .ok (.ishl, 1) := by decide +kernel
theorem dX9_flow_46 : decode cX9_flow 46 = .ok (.iconst 1, 1) := by decide +kernel
theorem dX9_flow_47 : decode cX9_flow 47 = .ok (.isub, 1) := by decide +kernel
theorem dX9_flow_48 : decode cX9_flow 48 = .ok (.iand, 1) := by decide +kernel
theorem dX9_flow_49 : decode cX9_flow 49 = .ok (.putfield 132, 3) := by decide +kernel
theorem dX9_flow_52 : decode cX9_flow 52 = .ok (.aload_n 0, 1) := by decide +kernel
theorem dX9_flow_53 : decode cX9_flow 53 = .ok (.iload_n 1, 1) := by decide +kernel
theorem dX9_flow_54 : decode cX9_flow 54 = .ok (.bipush 9, 2) := by decide +kernel
theorem dX9_flow_56 : decode cX9_flow 56 = .ok (.iload_n 2, 1) := by decide +kernel
theorem dX9_flow_57 : decode cX9_flow 57 = .ok (.invokevirtual 114, 3) := by decide +kernel
theorem dX9_flow_60 : decode cX9_flow 60 = .ok (.istore 5, 2) := by decide +kernel
theorem dX9_flow_62 : decode cX9_flow 62 = .ok (.aload_n 0, 1) := by decide +kernel
theorem dX9_flow_63 : decode cX9_flow 63 = .ok (.getfield 19, 3) := by decide +kernel
theorem dX9_flow_66 : decode cX9_flow 66 = .ok (.iload_n 2, 1) := by decide +kernel
theorem dX9_flow_67 : decode cX9_flow 67 = .ok (.iaload, 1) := by decide +kernel
theorem dX9_flow_68 : decode cX9_flow 68 = .ok (.istore 6, 2) := by decide +kernel
theorem dX9_flow_70 : decode cX9_flow 70 = .ok (.aload_n 0, 1) := by decide +kernel
theorem dX9_flow_71 : decode cX9_flow 71 = .ok (.getfield 16, 3) := by decide +kernel
theorem dX9_flow_74 : decode cX9_flow 74 = .ok (.iconst 5, 1) := by decide +kernel
theorem dX9_flow_75 : decode cX9_flow 75 = .ok (.iload_n 2, 1) := by decide +kernel
theorem dX9_flow_76 : decode cX9_flow 76 = .ok (.imul, 1) := by decide +kernel
theorem dX9_flow_77 : decode cX9_flow 77 = .ok (.iload_n 3, 1) := by decide +kernel
theorem dX9_flow_78 : decode cX9_flow 78 = .ok (.invokestatic 91, 3) := by decide +kernel
theorem dX9_flow_81 : decode cX9_flow 81 = .ok (.ifCond .eq 14, 3) := by decide +kernel
theorem dX9_flow_84 : decode cX9_flow 84 = .ok (.aload_n 0, 1) := by decide +kernel
theorem dX9_flow_85 : decode cX9_flow 85 = .ok (.iload_n 1, 1) := by decide +kernel
theorem dX9_flow_86 : decode cX9_flow 86 = .ok (.bipush 18, 2) := by decide +kernel
theorem dX9_flow_88 : decode cX9_flow 88 = .ok (.iload_n 2, 1) := by decide +kernel
theorem dX9_flow_89 : decode cX9_flow 89 = .ok (.invokevirtual 114, 3) := by decide +kernel
theorem dX9_flow_92 : decode cX9_flow 92 = .ok (.goto 4, 3) := by decide +kernel
theorem dX9_flow_95 : decode cX9_flow 95 = .ok (.iconst 0, 1) := by decide +kernel
theorem dX9_flow_96 : decode cX9_flow 96 = .ok (.iadd, 1) := by decide +kernel
theorem dX9_flow_97 : decode cX9_flow 97 = .ok (.iaload, 1) := by decide +kernel
theorem dX9_flow_98 : decode cX9_flow 98 = .ok (.aload_n 0, 1) := by decide +kernel
theorem dX9_flow_99 : decode cX9_flow 99 = .ok (.getfield 16, 3) := by decide +kernel
theorem dX9_flow_102 : decode cX9_flow 102 = .ok (.iconst 5, 1) := by decide +kernel
theorem dX9_flow_103 : decode cX9_flow 103 = .ok (.iload_n 2, 1) := by decide +kernel
theorem dX9_flow_104 : decode cX9_flow 104 = .ok (.imul, 1) := by decide +kernel
theorem dX9_flow_105 : decode cX9_flow 105 = .ok (.iload_n 3, 1) := by decide +kernel
theorem dX9_flow_106 : decode cX9_flow 106 = .ok (.invokestatic 91, 3) := by decide +kernel
theorem dX9_flow_109 : decode cX9_flow 109 = .ok (.ifCond .eq 14, 3) := by decide +kernel
theorem dX9_flow_112 : decode cX9_flow 112 = .ok (.aload_n 0, 1) := by decide +kernel
theorem dX9_flow_113 : decode cX9_flow 113 = .ok (.iload_n 1, 1) := by decide +kernel
theorem dX9_flow_114 : decode cX9_flow 114 = .ok (.bipush 27, 2) := by decide +kernel
theorem dX9_flow_116 : decode cX9_flow 116 = .ok (.iload_n 2, 1) := by decide +kernel
theorem dX9_flow_117 : decode cX9_flow 117 = .ok (.invokevirtual 114, 3) := by decide +kernel
theorem dX9_flow_120 : decode cX9_flow 120 = .ok (.goto 4, 3) := by decide +kernel
theorem dX9_flow_123 : decode cX9_flow 123 = .ok (.iconst 0, 1) := by decide +kernel
theorem dX9_flow_124 : decode cX9_flow 124 = .ok (.iadd, 1) := by decide +kernel
theorem dX9_flow_125 : decode cX9_flow 125 = .ok (.iaload, 1) := by decide +kernel
theorem dX9_flow_126 : decode cX9_flow 126 = .ok (.ior, 1) := by decide +kernel
theorem dX9_flow_127 : decode cX9_flow 127 = .ok (.istore 7, 2) := by decide +kernel
theorem dX9_flow_129 : decode cX9_flow 129 = .ok (.iconst 0, 1) := by decide +kernel
theorem dX9_flow_130 : decode cX9_flow 130 = .ok (.istore 8, 2) := by decide +kernel
theorem dX9_flow_132 : decode cX9_flow 132 = .ok (.iload 8, 2) := by decide +kernel
theorem dX9_flow_134 : decode cX9_flow 134 = .ok (.iconst 4, 1) := by decide +kernel
theorem dX9_flow_135 : decode cX9_flow 135 = .ok (.if_icmp .gt 140, 3) := by decide +kernel
theorem dX9_flow_138 : decode cX9_flow 138 = .ok (.aload_n 0, 1) := by decide +kernel
theorem dX9_flow_139 : decode cX9_flow 139 = .ok (.getfield 16, 3) := by decide +kernel
theorem dX9_flow_142 : decode cX9_flow 142 = .ok (.iconst 5, 1) := by decide +kernel
theorem dX9_flow_143 : decode cX9_flow 143 = .ok (.iload_n 2, 1) := by decide +kernel
theorem dX9_flow_144 : decode cX9_flow 144 = .ok (.imul, 1) := by decide +kernel
theorem dX9_flow_145 : decode cX9_flow 145 = .ok (.iload 8, 2) := by decide +kernel
theorem dX9_flow_147 : decode cX9_flow 147 = .ok (.iadd, 1) := by decide +kernel
theorem dX9_flow_148 : decode cX9_flow 148 = .ok (.iaload, 1) := by decide +kernel
theorem dX9_flow_149 : decode cX9_flow 149 = .ok (.istore 9, 2) := by decide +kernel
theorem dX9_flow_151 : decode cX9_flow 151 = .ok (.iload 8, 2) := by decide +kernel
theorem dX9_flow_153 : decode cX9_flow 153 = .ok (.iload 5, 2) := by decide +kernel
theorem dX9_flow_155 : decode cX9_flow 155 = .ok (.if_icmp .eq 8, 3) := by decide +kernel
theorem dX9_flow_158 : decode cX9_flow 158 = .ok (.iload 9, 2) := by decide +kernel
theorem dX9_flow_160 : decode cX9_flow 160 = .ok (.goto 35, 3) := by decide +kernel
theorem dX9_flow_163 : decode cX9_flow 163 = .ok (.iload_n 3, 1) := by decide +kernel
theorem dX9_flow_164 : decode cX9_flow 164 = .ok (.ifCond .eq 9, 3) := by decide +kernel
theorem dX9_flow_167 : decode cX9_flow 167 = .ok (.iload_n 3, 1) := by decide +kernel
theorem dX9_flow_168 : decode cX9_flow 168 = .ok (.bipush 6, 2) := by decide +kernel
theorem dX9_flow_170 : decode cX9_flow 170 = .ok (.if_icmp .ne 8, 3) := by decide +kernel
theorem dX9_flow_173 : decode cX9_flow 173 = .ok (.iload 6, 2) := by decide +kernel
theorem dX9_flow_175 : decode cX9_flow 175 = .ok (.goto 20, 3) := by decide +kernel
theorem dX9_flow_178 : decode cX9_flow 178 = .ok (.iload_n 3, 1) := by decide +kernel
theorem dX9_flow_179 : decode cX9_flow 179 = .ok (.invokestatic 91, 3) := by decide +kernel
theorem dX9_flow_182 : decode cX9_flow 182 = .ok (.ifCond .eq 11, 3) := by decide +kernel
theorem dX9_flow_185 : decode cX9_flow 185 = .ok (.iload 7, 2) := by decide +kernel
theorem dX9_flow_187 : decode cX9_flow 187 = .ok (.iload 6, 2) := by decide +kernel
theorem dX9_flow_189 : decode cX9_flow 189 = .ok (.ior, 1) := by decide +kernel
theorem dX9_flow_190 : decode cX9_flow 190 = .ok (.goto 5, 3) := by decide +kernel
theorem dX9_flow_193 : decode cX9_flow 193 = .ok (.iload 9, 2) := by decide +kernel
theorem dX9_flow_195 : decode cX9_flow 195 = .ok (.istore 10, 2) := by decide +kernel
theorem dX9_flow_197 : decode cX9_flow 197 = .ok (.aload_n 0, 1) := by decide +kernel
theorem dX9_flow_198 : decode cX9_flow 198 = .ok (.iload_n 2, 1) := by decide +kernel
theorem dX9_flow_199 : decode cX9_flow 199 = .ok (.iconst 1, 1) := by decide +kernel
theorem dX9_flow_200 : decode cX9_flow 200 = .ok (.iadd, 1) := by decide +kernel
theorem dX9_flow_201 : decode cX9_flow 201 = .ok (.iload 8, 2) := by decide +kernel
theorem dX9_flow_203 : decode cX9_flow 203 = .ok (.iload 10, 2) := by decide +kernel
theorem dX9_flow_205 : decode cX9_flow 205 = .ok (.invokevirtual 145, 3) := by decide +kernel
theorem dX9_flow_208 : decode cX9_flow 208 = .ok (.iload_n 3, 1) := by decide +kernel
theorem dX9_flow_209 : decode cX9_flow 209 = .ok (.invokestatic 87, 3) := by decide +kernel
theorem dX9_flow_212 : decode cX9_flow 212 = .ok (.ifCond .eq 57, 3) := by decide +kernel
theorem dX9_flow_215 : decode cX9_flow 215 = .ok (.iload 8, 2) := by decide +kernel
theorem dX9_flow_217 : decode cX9_flow 217 = .ok (.iconst 4, 1) := by decide +kernel
theorem dX9_flow_218 : decode cX9_flow 218 = .ok (.if_icmp .ne 12, 3) := by decide +kernel
theorem dX9_flow_221 : decode cX9_flow 221 = .ok (.iload_n 3, 1) := by decide +kernel
theorem dX9_flow_222 : decode cX9_flow 222 = .ok (.iconst 3, 1) := by decide +kernel
theorem dX9_flow_223 : decode cX9_flow 223 = .ok (.if_icmp .eq 7, 3) := by decide +kernel
theorem dX9_flow_226 : decode cX9_flow 226 = .ok (.iconst 1, 1) := by decide +kernel
theorem dX9_flow_227 : decode cX9_flow 227 = .ok (.goto 4, 3) := by decide +kernel
theorem dX9_flow_230 : decode cX9_flow 230 = .ok (.iconst 0, 1) := by decide +kernel
theorem dX9_flow_231 : decode cX9_flow 231 = .ok (.istore 11, 2) := by decide +kernel
theorem dX9_flow_233 : decode cX9_flow 233 = .ok (.aload_n 0, 1) := by decide +kernel
theorem dX9_flow_234 : decode cX9_flow 234 = .ok (.iload 4, 2) := by decide +kernel
theorem dX9_flow_236 : decode cX9_flow 236 = .ok (.iload 8, 2) := by decide +kernel
theorem dX9_flow_238 : decode cX9_flow 238 = .ok (.iload 11, 2) := by decide +kernel
theorem dX9_flow_240 : decode cX9_flow 240 = .ok (.ifCond .eq 24, 3) := by decide +kernel
theorem dX9_flow_243 : decode cX9_flow 243 = .ok (.aload_n 0, 1) := by decide +kernel
theorem dX9_flow_244 : decode cX9_flow 244 = .ok (.getfield 16, 3) := by decide +kernel
theorem dX9_flow_247 : decode cX9_flow 247 = .ok (.iconst 5, 1) := by decide +kernel
theorem dX9_flow_248 : decode cX9_flow 248 = .ok (.iload_n 2, 1) := by decide +kernel
theorem dX9_flow_249 : decode cX9_flow 249 = .ok (.imul, 1) := by decide +kernel
theorem dX9_flow_250 : decode cX9_flow 250 = .ok (.aload_n 0, 1) := by decide +kernel
theorem dX9_flow_251 : decode cX9_flow 251 = .ok (.iload_n 1, 1) := by decide +kernel
theorem dX9_flow_252 : decode cX9_flow 252 = .ok (.iload_n 2, 1) := by decide +kernel
theorem dX9_flow_253 : decode cX9_flow 253 = .ok (.invokevirtual 135, 3) := by decide +kernel
theorem dX9_flow_256 : decode cX9_flow 256 = .ok (.iadd, 1) := by decide +kernel
theorem dX9_flow_257 : decode cX9_flow 257 = .ok (.iaload, 1) := by decide +kernel
theorem dX9_flow_258 : decode cX9_flow 258 = .ok (.iload 6, 2) := by decide +kernel
theorem dX9_flow_260 : decode cX9_flow 260 = .ok (.ior, 1) := by decide +kernel
theorem dX9_flow_261 : decode cX9_flow 261 = .ok (.goto 5, 3) := by decide +kernel
theorem dX9_flow_264 : decode cX9_flow 264 = .ok (.iload 9, 2) := by decide +kernel
theorem dX9_flow_266 : decode cX9_flow 266 = .ok (.invokevirtual 145, 3) := by decide +kernel
theorem dX9_flow_269 : decode cX9_flow 269 = .ok (.iinc 8 1, 3) := by decide +kernel
theorem dX9_flow_272 : decode cX9_flow 272 = .ok (.goto (-140), 3) := by decide +kernel
theorem dX9_flow_275 : decode cX9_flow 275 = .ok (.return_, 1) := by decide +kernel
theorem dX9_isVariable_0 : decode cX9_isVariable 0 = .ok (.iload_n 1, 1) := by decide +kernel
theorem dX9_isVariable_1 : decode cX9_isVariable 1 = .ok (.i2l, 1) := by decide +kernel
theorem dX9_isVariable_2 : decode cX9_isVariable 2 = .ok (.lconst 0, 1) := by decide +kernel
theorem dX9_isVariable_3 : decode cX9_isVariable 3 = .ok (.ldc2_w 70, 3) := by decide +kernel
theorem dX9_isVariable_6 : decode cX9_isVariable 6 = .ok (.invokestatic 60, 3) := by decide +kernel
theorem dX9_isVariable_9 : decode cX9_isVariable 9 = .ok (.ireturn, 1) := by decide +kernel
theorem dX9_label_0 : decode cX9_label 0 = .ok (.aload_n 0, 1) := by decide +kernel
theorem dX9_label_1 : decode cX9_label 1 = .ok (.iload_n 1, 1) := by decide +kernel
theorem dX9_label_2 : decode cX9_label 2 = .ok (.invokevirtual 111, 3) := by decide +kernel
theorem dX9_label_5 : decode cX9_label 5 = .ok (.ifCond .eq 11, 3) := by decide +kernel
theorem dX9_label_8 : decode cX9_label 8 = .ok (.aload_n 0, 1) := by decide +kernel
theorem dX9_label_9 : decode cX9_label 9 = .ok (.iload_n 2, 1) := by decide +kernel
theorem dX9_label_10 : decode cX9_label 10 = .ok (.invokevirtual 149, 3) := by decide +kernel
theorem dX9_label_13 : decode cX9_label 13 = .ok (.ifCond .ne 5, 3) := by decide +kernel
theorem dX9_label_16 : decode cX9_label 16 = .ok (.iconst (-1), 1) := by decide +kernel
theorem dX9_label_17 : decode cX9_label 17 = .ok (.ireturn, 1) := by decide +kernel
theorem dX9_label_18 : decode cX9_label 18 = .ok (.aload_n 0, 1) := by decide +kernel
theorem dX9_label_19 : decode cX9_label 19 = .ok (.iconst 0, 1) := by decide +kernel
theorem dX9_label_20 : decode cX9_label 20 = .ok (.invokevirtual 54, 3) := by decide +kernel
theorem dX9_label_23 : decode cX9_label 23 = .ok (.aload_n 0, 1) := by decide +kernel
theorem dX9_label_24 : decode cX9_label 24 = .ok (.getfield 132, 3) := by decide +kernel
theorem dX9_label_27 : decode cX9_label 27 = .ok (.iload_n 1, 1) := by decide +kernel
theorem dX9_label_28 : decode cX9_label 28 = .ok (.invokestatic 118, 3) := by decide +kernel
theorem dX9_label_31 : decode cX9_label 31 = .ok (.ifCond .eq 16, 3) := by decide +kernel
theorem dX9_label_34 : decode cX9_label 34 = .ok (.aload_n 0, 1) := by decide +kernel
theorem dX9_label_35 : decode cX9_label 35 = .ok (.getfield 16, 3) := by decide +kernel
theorem dX9_label_38 : decode cX9_label 38 = .ok (.iconst 5, 1) := by decide +kernel
theorem dX9_label_39 : decode cX9_label 39 = .ok (.iload_n 1, 1) := by decide +kernel
theorem dX9_label_40 : decode cX9_label 40 = .ok (.imul, 1) := by decide +kernel
theorem dX9_label_41 : decode cX9_label 41 = .ok (.iload_n 2, 1) := by decide +kernel
theorem dX9_label_42 : decode cX9_label 42 = .ok (.iadd, 1) := by decide +kernel
theorem dX9_label_43 : decode cX9_label 43 = .ok (.iaload, 1) := by decide +kernel
theorem dX9_label_44 : decode cX9_label 44 = .ok (.goto 5, 3) := by decide +kernel
theorem dX9_label_47 : decode cX9_label 47 = .ok (.bipush (-9), 2) := by decide +kernel
theorem dX9_label_49 : decode cX9_label 49 = .ok (.ireturn, 1) := by decide +kernel
theorem dX9_context_0 : decode cX9_context 0 = .ok (.aload_n 0, 1) := by decide +kernel
theorem dX9_context_1 : decode cX9_context 1 = .ok (.iload_n 1, 1) := by decide +kernel
theorem dX9_context_2 : decode cX9_context 2 = .ok (.invokevirtual 111, 3) := by decide +kernel
theorem dX9_context_5 : decode cX9_context 5 = .ok (.ifCond .ne 5, 3) := by decide +kernel
theorem dX9_context_8 : decode cX9_context 8 = .ok (.iconst (-1), 1) := by decide +kernel
theorem dX9_context_9 : decode cX9_context 9 = .ok (.ireturn, 1) := by decide +kernel
theorem dX9_context_10 : decode cX9_context 10 = .ok (.iload_n 2, 1) := by decide +kernel
theorem dX9_context_11 : decode cX9_context 11 = .ok (.i2l, 1) := by decide +kernel
theorem dX9_context_12 : decode cX9_context 12 = .ok (.lconst 0, 1) := by decide +kernel
theorem dX9_context_13 : decode cX9_context 13 = .ok (.lconst 1, 1) := by decide +kernel
theorem dX9_context_14 : decode cX9_context 14 = .ok (.invokestatic 60, 3) := by decide +kernel
theorem dX9_context_17 : decode cX9_context 17 = .ok (.ifCond .ne 6, 3) := by decide +kernel
theorem dX9_context_20 : decode cX9_context 20 = .ok (.bipush (-2), 2) := by decide +kernel
theorem dX9_context_22 : decode cX9_context 22 = .ok (.ireturn, 1) := by decide +kernel
theorem dX9_context_23 : decode cX9_context 23 = .ok (.aload_n 0, 1) := by decide +kernel
theorem dX9_context_24 : decode cX9_context 24 = .ok (.iconst 0, 1) := by decide +kernel
theorem dX9_context_25 : decode cX9_context 25 = .ok (.invokevirtual 54, 3) := by decide +kernel
theorem dX9_context_28 : decode cX9_context 28 = .ok (.iload_n 2, 1) := by decide +kernel
theorem dX9_context_29 : decode cX9_context 29 = .ok (.iconst 1, 1) := by decide +kernel
theorem dX9_context_30 : decode cX9_context 30 = .ok (.if_icmp .ne 12, 3) := by decide +kernel
theorem dX9_context_33 : decode cX9_context 33 = .ok (.aload_n 0, 1) := by decide +kernel
theorem dX9_context_34 : decode cX9_context 34 = .ok (.iconst 0, 1) := by decide +kernel
theorem dX9_context_35 : decode cX9_context 35 = .ok (.iload_n 1, 1) := by decide +kernel
theorem dX9_context_36 : decode cX9_context 36 = .ok (.invokevirtual 129, 3) := by decide +kernel
theorem dX9_context_39 : decode cX9_context 39 = .ok (.goto 25, 3) := by decide +kernel
theorem dX9_context_42 : decode cX9_context 42 = .ok (.aload_n 0, 1) := by decide +kernel
theorem dX9_context_43 : decode cX9_context 43 = .ok (.getfield 132, 3) := by decide +kernel
theorem dX9_context_46 : decode cX9_context 46 = .ok (.iload_n 1, 1) := by decide +kernel
theorem dX9_context_47 : decode cX9_context 47 = .ok (.invokestatic 118, 3) := by decide +kernel
theorem dX9_context_50 : decode cX9_context 50 = .ok (.ifCond .eq 12, 3) := by decide +kernel
theorem dX9_context_53 : decode cX9_context 53 = .ok (.aload_n 0, 1) := by decide +kernel
theorem dX9_context_54 : decode cX9_context 54 = .ok (.getfield 19, 3) := by decide +kernel
theorem dX9_context_57 : decode cX9_context 57 = .ok (.iload_n 1, 1) := by decide +kernel
theorem dX9_context_58 : decode cX9_context 58 = .ok (.iaload, 1) := by decide +kernel
theorem dX9_context_59 : decode cX9_context 59 = .ok (.goto 5, 3) := by decide +kernel
theorem dX9_context_62 : decode cX9_context 62 = .ok (.bipush (-9), 2) := by decide +kernel
theorem dX9_context_64 : decode cX9_context 64 = .ok (.ireturn, 1) := by decide +kernel
theorem dX9_wrongOn_0 : decode cX9_wrongOn 0 = .ok (.iconst 0, 1) := by decide +kernel
theorem dX9_wrongOn_1 : decode cX9_wrongOn 1 = .ok (.istore_n 2, 1) := by decide +kernel
theorem dX9_wrongOn_2 : decode cX9_wrongOn 2 = .ok (.iconst 0, 1) := by decide +kernel
theorem dX9_wrongOn_3 : decode cX9_wrongOn 3 = .ok (.istore_n 3, 1) := by decide +kernel
theorem dX9_wrongOn_4 : decode cX9_wrongOn 4 = .ok (.iload_n 3, 1) := by decide +kernel
theorem dX9_wrongOn_5 : decode cX9_wrongOn 5 = .ok (.aload_n 0, 1) := by decide +kernel
theorem dX9_wrongOn_6 : decode cX9_wrongOn 6 = .ok (.getfield 105, 3) := by decide +kernel
theorem dX9_wrongOn_9 : decode cX9_wrongOn 9 = .ok (.if_icmp .ge 80, 3) := by decide +kernel
theorem dX9_wrongOn_12 : decode cX9_wrongOn 12 = .ok (.aload_n 0, 1) := by decide +kernel
theorem dX9_wrongOn_13 : decode cX9_wrongOn 13 = .ok (.getfield 132, 3) := by decide +kernel
theorem dX9_wrongOn_16 : decode cX9_wrongOn 16 = .ok (.iload_n 3, 1) := by decide +kernel
theorem dX9_wrongOn_17 : decode cX9_wrongOn 17 = .ok (.invokestatic 118, 3) := by decide +kernel
theorem dX9_wrongOn_20 : decode cX9_wrongOn 20 = .ok (.ifCond .eq 18, 3) := by decide +kernel
theorem dX9_wrongOn_23 : decode cX9_wrongOn 23 = .ok (.aload_n 0, 1) := by decide +kernel
theorem dX9_wrongOn_24 : decode cX9_wrongOn 24 = .ok (.iload_n 1, 1) := by decide +kernel
theorem dX9_wrongOn_25 : decode cX9_wrongOn 25 = .ok (.iconst 0, 1) := by decide +kernel
theorem dX9_wrongOn_26 : decode cX9_wrongOn 26 = .ok (.iload_n 3, 1) := by decide +kernel
theorem dX9_wrongOn_27 : decode cX9_wrongOn 27 = .ok (.invokevirtual 114, 3) := by decide +kernel
theorem dX9_wrongOn_30 : decode cX9_wrongOn 30 = .ok (.iconst 5, 1) := by decide +kernel
theorem dX9_wrongOn_31 : decode cX9_wrongOn 31 = .ok (.if_icmp .ne 7, 3) := by decide +kernel
theorem dX9_wrongOn_34 : decode cX9_wrongOn 34 = .ok (.iconst 1, 1) := by decide +kernel
theorem dX9_wrongOn_35 : decode cX9_wrongOn 35 = .ok (.goto 4, 3) := by decide +kernel
theorem dX9_wrongOn_38 : decode cX9_wrongOn 38 = .ok (.iconst 0, 1) := by decide +kernel
theorem dX9_wrongOn_39 : decode cX9_wrongOn 39 = .ok (.istore 4, 2) := by decide +kernel
theorem dX9_wrongOn_41 : decode cX9_wrongOn 41 = .ok (.iload_n 2, 1) := by decide +kernel
theorem dX9_wrongOn_42 : decode cX9_wrongOn 42 = .ok (.iload 4, 2) := by decide +kernel
theorem dX9_wrongOn_44 : decode cX9_wrongOn 44 = .ok (.ifCond .eq 36, 3) := by decide +kernel
theorem dX9_wrongOn_47 : decode cX9_wrongOn 47 = .ok (.aload_n 0, 1) := by decide +kernel
theorem dX9_wrongOn_48 : decode cX9_wrongOn 48 = .ok (.getfield 16, 3) := by decide +kernel
theorem dX9_wrongOn_51 : decode cX9_wrongOn 51 = .ok (.iconst 5, 1) := by decide +kernel
theorem dX9_wrongOn_52 : decode cX9_wrongOn 52 = .ok (.iload_n 3, 1) := by decide +kernel
theorem dX9_wrongOn_53 : decode cX9_wrongOn 53 = .ok (.imul, 1) := by decide +kernel
theorem dX9_wrongOn_54 : decode cX9_wrongOn 54 = .ok (.aload_n 0, 1) := by decide +kernel
theorem dX9_wrongOn_55 : decode cX9_wrongOn 55 = .ok (.iload_n 1, 1) := by decide +kernel
theorem dX9_wrongOn_56 : decode cX9_wrongOn 56 = .ok (.bipush 9, 2) := by decide +kernel
theorem dX9_wrongOn_58 : decode cX9_wrongOn 58 = .ok (.iload_n 3, 1) := by decide +kernel
theorem dX9_wrongOn_59 : decode cX9_wrongOn 59 = .ok (.invokevirtual 114, 3) := by decide +kernel
theorem dX9_wrongOn_62 : decode cX9_wrongOn 62 = .ok (.iadd, 1) := by decide +kernel
theorem dX9_wrongOn_63 : decode cX9_wrongOn 63 = .ok (.iaload, 1) := by decide +kernel
theorem dX9_wrongOn_64 : decode cX9_wrongOn 64 = .ok (.aload_n 0, 1) := by decide +kernel
theorem dX9_wrongOn_65 : decode cX9_wrongOn 65 = .ok (.getfield 19, 3) := by decide +kernel
theorem dX9_wrongOn_68 : decode cX9_wrongOn 68 = .ok (.iload_n 3, 1) := by decide +kernel
theorem dX9_wrongOn_69 : decode cX9_wrongOn 69 = .ok (.iaload, 1) := by decide +kernel
theorem dX9_wrongOn_70 : decode cX9_wrongOn 70 = .ok (.ior, 1) := by decide +kernel
theorem dX9_wrongOn_71 : decode cX9_wrongOn 71 = .ok (.ifCond .eq 9, 3) := by decide +kernel
theorem dX9_wrongOn_74 : decode cX9_wrongOn 74 = .ok (.iconst 1, 1) := by decide +kernel
theorem dX9_wrongOn_75 : decode cX9_wrongOn 75 = .ok (.iload_n 3, 1) := by decide +kernel
theorem dX9_wrongOn_76 : decode cX9_wrongOn 76 = .ok (.ishl, 1) := by decide +kernel
theorem dX9_wrongOn_77 : decode cX9_wrongOn 77 = .ok (.goto 4, 3) := by decide +kernel
theorem dX9_wrongOn_80 : decode cX9_wrongOn 80 = .ok (.iconst 0, 1) := by decide +kernel
theorem dX9_wrongOn_81 : decode cX9_wrongOn 81 = .ok (.ior, 1) := by decide +kernel
theorem dX9_wrongOn_82 : decode cX9_wrongOn 82 = .ok (.istore_n 2, 1) := by decide +kernel
theorem dX9_wrongOn_83 : decode cX9_wrongOn 83 = .ok (.iinc 3 1, 3) := by decide +kernel
theorem dX9_wrongOn_86 : decode cX9_wrongOn 86 = .ok (.goto (-82), 3) := by decide +kernel
theorem dX9_wrongOn_89 : decode cX9_wrongOn 89 = .ok (.iload_n 2, 1) := by decide +kernel
theorem dX9_wrongOn_90 : decode cX9_wrongOn 90 = .ok (.ireturn, 1) := by decide +kernel
theorem dX9_wrong_0 : decode cX9_wrong 0 = .ok (.aload_n 0, 1) := by decide +kernel
theorem dX9_wrong_1 : decode cX9_wrong 1 = .ok (.iconst 0, 1) := by decide +kernel
theorem dX9_wrong_2 : decode cX9_wrong 2 = .ok (.invokevirtual 54, 3) := by decide +kernel
theorem dX9_wrong_5 : decode cX9_wrong 5 = .ok (.aload_n 0, 1) := by decide +kernel
theorem dX9_wrong_6 : decode cX9_wrong 6 = .ok (.iconst 0, 1) := by decide +kernel
theorem dX9_wrong_7 : decode cX9_wrong 7 = .ok (.invokevirtual 152, 3) := by decide +kernel
theorem dX9_wrong_10 : decode cX9_wrong 10 = .ok (.ireturn, 1) := by decide +kernel
theorem dX9_keepAct_0 : decode cX9_keepAct 0 = .ok (.iconst 0, 1) := by decide +kernel
theorem dX9_keepAct_1 : decode cX9_keepAct 1 = .ok (.istore_n 1, 1) := by decide +kernel
theorem dX9_keepAct_2 : decode cX9_keepAct 2 = .ok (.iload_n 1, 1) := by decide +kernel
theorem dX9_keepAct_3 : decode cX9_keepAct 3 = .ok (.bipush 48, 2) := by decide +kernel
theorem dX9_keepAct_5 : decode cX9_keepAct 5 = .ok (.if_icmp .ge 29, 3) := by decide +kernel
theorem dX9_keepAct_8 : decode cX9_keepAct 8 = .ok (.aload_n 0, 1) := by decide +kernel
theorem dX9_keepAct_9 : decode cX9_keepAct 9 = .ok (.getfield 22, 3) := by decide +kernel
theorem dX9_keepAct_12 : decode cX9_keepAct 12 = .ok (.bipush 48, 2) := by decide +kernel
theorem dX9_keepAct_14 : decode cX9_keepAct 14 = .ok (.aload_n 0, 1) := by decide +kernel
theorem dX9_keepAct_15 : decode cX9_keepAct 15 = .ok (.getfield 155, 3) := by decide +kernel
theorem dX9_keepAct_18 : decode cX9_keepAct 18 = .ok (.imul, 1) := by decide +kernel
theorem dX9_keepAct_19 : decode cX9_keepAct 19 = .ok (.iload_n 1, 1) := by decide +kernel
theorem dX9_keepAct_20 : decode cX9_keepAct 20 = .ok (.iadd, 1) := by decide +kernel
theorem dX9_keepAct_21 : decode cX9_keepAct 21 = .ok (.aload_n 0, 1) := by decide +kernel
theorem dX9_keepAct_22 : decode cX9_keepAct 22 = .ok (.getfield 7, 3) := by decide +kernel
theorem dX9_keepAct_25 : decode cX9_keepAct 25 = .ok (.iload_n 1, 1) := by decide +kernel
theorem dX9_keepAct_26 : decode cX9_keepAct 26 = .ok (.iaload, 1) := by decide +kernel
theorem dX9_keepAct_27 : decode cX9_keepAct 27 = .ok (.iastore, 1) := by decide +kernel
theorem dX9_keepAct_28 : decode cX9_keepAct 28 = .ok (.iinc 1 1, 3) := by decide +kernel
theorem dX9_keepAct_31 : decode cX9_keepAct 31 = .ok (.goto (-29), 3) := by decide +kernel
theorem dX9_keepAct_34 : decode cX9_keepAct 34 = .ok (.aload_n 0, 1) := by decide +kernel
theorem dX9_keepAct_35 : decode cX9_keepAct 35 = .ok (.aload_n 0, 1) := by decide +kernel
theorem dX9_keepAct_36 : decode cX9_keepAct 36 = .ok (.getfield 155, 3) := by decide +kernel
theorem dX9_keepAct_39 : decode cX9_keepAct 39 = .ok (.iconst 1, 1) := by decide +kernel
theorem dX9_keepAct_40 : decode cX9_keepAct 40 = .ok (.iadd, 1) := by decide +kernel
theorem dX9_keepAct_41 : decode cX9_keepAct 41 = .ok (.bipush 14, 2) := by decide +kernel
theorem dX9_keepAct_43 : decode cX9_keepAct 43 = .ok (.irem, 1) := by decide +kernel
theorem dX9_keepAct_44 : decode cX9_keepAct 44 = .ok (.putfield 155, 3) := by decide +kernel
theorem dX9_keepAct_47 : decode cX9_keepAct 47 = .ok (.aload_n 0, 1) := by decide +kernel
theorem dX9_keepAct_48 : decode cX9_keepAct 48 = .ok (.aload_n 0, 1) := by decide +kernel
theorem dX9_keepAct_49 : decode cX9_keepAct 49 = .ok (.getfield 108, 3) := by decide +kernel
theorem dX9_keepAct_52 : decode cX9_keepAct 52 = .ok (.bipush 14, 2) := by decide +kernel
theorem dX9_keepAct_54 : decode cX9_keepAct 54 = .ok (.if_icmp .ge 12, 3) := by decide +kernel
theorem dX9_keepAct_57 : decode cX9_keepAct 57 = .ok (.aload_n 0, 1) := by decide +kernel
theorem dX9_keepAct_58 : decode cX9_keepAct 58 = .ok (.getfield 108, 3) := by decide +kernel
theorem dX9_keepAct_61 : decode cX9_keepAct 61 = .ok (.iconst 1, 1) := by decide +kernel
theorem dX9_keepAct_62 : decode cX9_keepAct 62 = .ok (.iadd, 1) := by decide +kernel
theorem dX9_keepAct_63 : decode cX9_keepAct 63 = .ok (.goto 5, 3) := by decide +kernel
theorem dX9_keepAct_66 : decode cX9_keepAct 66 = .ok (.bipush 14, 2) := by decide +kernel
theorem dX9_keepAct_68 : decode cX9_keepAct 68 = .ok (.putfield 108, 3) := by decide +kernel
theorem dX9_keepAct_71 : decode cX9_keepAct 71 = .ok (.return_, 1) := by decide +kernel
theorem dX9_isTold_0 : decode cX9_isTold 0 = .ok (.iload_n 2, 1) := by decide +kernel
theorem dX9_isTold_1 : decode cX9_isTold 1 = .ok (.i2l, 1) := by decide +kernel
theorem dX9_isTold_2 : decode cX9_isTold 2 = .ok (.lconst 0, 1) := by decide +kernel
theorem dX9_isTold_3 : decode cX9_isTold 3 = .ok (.ldc2_w 158, 3) := by decide +kernel
theorem dX9_isTold_6 : decode cX9_isTold 6 = .ok (.invokestatic 60, 3) := by decide +kernel
theorem dX9_isTold_9 : decode cX9_isTold 9 = .ok (.ifCond .eq 11, 3) := by decide +kernel
theorem dX9_isTold_12 : decode cX9_isTold 12 = .ok (.aload_n 0, 1) := by decide +kernel
theorem dX9_isTold_13 : decode cX9_isTold 13 = .ok (.iload_n 3, 1) := by decide +kernel
theorem dX9_isTold_14 : decode cX9_isTold 14 = .ok (.invokevirtual 149, 3) := by decide +kernel
theorem dX9_isTold_17 : decode cX9_isTold 17 = .ok (.ifCond .ne 5, 3) := by decide +kernel
theorem dX9_isTold_20 : decode cX9_isTold 20 = .ok (.iconst 0, 1) := by decide +kernel
theorem dX9_isTold_21 : decode cX9_isTold 21 = .ok (.ireturn, 1) := by decide +kernel
theorem dX9_isTold_22 : decode cX9_isTold 22 = .ok (.iload_n 2, 1) := by decide +kernel
theorem dX9_isTold_23 : decode cX9_isTold 23 = .ok (.ifCond .ne 16, 3) := by decide +kernel
theorem dX9_isTold_26 : decode cX9_isTold 26 = .ok (.iload 4, 2) := by decide +kernel
theorem dX9_isTold_28 : decode cX9_isTold 28 = .ok (.i2l, 1) := by decide +kernel
theorem dX9_isTold_29 : decode cX9_isTold 29 = .ok (.lconst 0, 1) := by decide +kernel
theorem dX9_isTold_30 : decode cX9_isTold 30 = .ok (.ldc2_w 160, 3) := by decide +kernel
theorem dX9_isTold_33 : decode cX9_isTold 33 = .ok (.invokestatic 60, 3) := by decide +kernel
theorem dX9_isTold_36 : decode cX9_isTold 36 = .ok (.goto 29, 3) := by decide +kernel
theorem dX9_isTold_39 : decode cX9_isTold 39 = .ok (.iload_n 2, 1) := by decide +kernel
theorem dX9_isTold_40 : decode cX9_isTold 40 = .ok (.invokestatic 91, 3) := by decide +kernel
theorem dX9_isTold_43 : decode cX9_isTold 43 = .ok (.ifCond .eq 12, 3) := by decide +kernel
theorem dX9_isTold_46 : decode cX9_isTold 46 = .ok (.aload_n 0, 1) := by decide +kernel
theorem dX9_isTold_47 : decode cX9_isTold 47 = .ok (.iload 4, 2) := by decide +kernel
theorem dX9_isTold_49 : decode cX9_isTold 49 = .ok (.invokevirtual 149, 3) := by decide +kernel
theorem dX9_isTold_52 : decode cX9_isTold 52 = .ok (.goto 13, 3) := by decide +kernel
theorem dX9_isTold_55 : decode cX9_isTold 55 = .ok (.iload 4, 2) := by decide +kernel
theorem dX9_isTold_57 : decode cX9_isTold 57 = .ok (.ifCond .ne 7, 3) := by decide +kernel
theorem dX9_isTold_60 : decode cX9_isTold 60 = .ok (.iconst 1, 1) := by decide +kernel
theorem dX9_isTold_61 : decode cX9_isTold 61 = .ok (.goto 4, 3) := by decide +kernel
theorem dX9_isTold_64 : decode cX9_isTold 64 = .ok (.iconst 0, 1) := by decide +kernel
theorem dX9_isTold_65 : decode cX9_isTold 65 = .ok (.istore 7, 2) := by decide +kernel
theorem dX9_isTold_67 : decode cX9_isTold 67 = .ok (.iload_n 2, 1) := by decide +kernel
theorem dX9_isTold_68 : decode cX9_isTold 68 = .ok (.invokestatic 91, 3) := by decide +kernel
theorem dX9_isTold_71 : decode cX9_isTold 71 = .ok (.ifCond .eq 12, 3) := by decide +kernel
theorem dX9_isTold_74 : decode cX9_isTold 74 = .ok (.aload_n 0, 1) := by decide +kernel
theorem dX9_isTold_75 : decode cX9_isTold 75 = .ok (.iload 5, 2) := by decide +kernel
theorem dX9_isTold_77 : decode cX9_isTold 77 = .ok (.invokevirtual 149, 3) := by decide +kernel
theorem dX9_isTold_80 : decode cX9_isTold 80 = .ok (.goto 13, 3) := by decide +kernel
theorem dX9_isTold_83 : decode cX9_isTold 83 = .ok (.iload 5, 2) := by decide +kernel
theorem dX9_isTold_85 : decode cX9_isTold 85 = .ok (.ifCond .ne 7, 3) := by decide +kernel
theorem dX9_isTold_88 : decode cX9_isTold 88 = .ok (.iconst 1, 1) := by decide +kernel
theorem dX9_isTold_89 : decode cX9_isTold 89 = .ok (.goto 4, 3) := by decide +kernel
theorem dX9_isTold_92 : decode cX9_isTold 92 = .ok (.iconst 0, 1) := by decide +kernel
theorem dX9_isTold_93 : decode cX9_isTold 93 = .ok (.istore 8, 2) := by decide +kernel
theorem dX9_isTold_95 : decode cX9_isTold 95 = .ok (.iload_n 2, 1) := by decide +kernel
theorem dX9_isTold_96 : decode cX9_isTold 96 = .ok (.invokestatic 87, 3) := by decide +kernel
theorem dX9_isTold_99 : decode cX9_isTold 99 = .ok (.ifCond .eq 35, 3) := by decide +kernel
theorem dX9_isTold_102 : decode cX9_isTold 102 = .ok (.iload 6, 2) := by decide +kernel
theorem dX9_isTold_104 : decode cX9_isTold 104 = .ok (.iconst (-1), 1) := by decide +kernel
theorem dX9_isTold_105 : decode cX9_isTold 105 = .ok (.if_icmp .eq 21, 3) := by decide +kernel
theorem dX9_isTold_108 : decode cX9_isTold 108 = .ok (.iload 6, 2) := by decide +kernel
theorem dX9_isTold_110 : decode cX9_isTold 110 = .ok (.i2l, 1) := by decide +kernel
theorem dX9_isTold_111 : decode cX9_isTold 111 = .ok (.iload_n 1, 1) := by decide +kernel
theorem dX9_isTold_112 : decode cX9_isTold 112 = .ok (.iconst 1, 1) := by decide +kernel
theorem dX9_isTold_113 : decode cX9_isTold 113 = .ok (.iadd, 1) := by decide +kernel
theorem dX9_isTold_114 : decode cX9_isTold 114 = .ok (.i2l, 1) := by decide +kernel
theorem dX9_isTold_115 : decode cX9_isTold 115 = .ok (.aload_n 0, 1) := by decide +kernel
theorem dX9_isTold_116 : decode cX9_isTold 116 = .ok (.getfield 105, 3) := by decide +kernel
theorem dX9_isTold_119 : decode cX9_isTold 119 = .ok (.i2l, 1) := by decide +kernel
theorem dX9_isTold_120 : decode cX9_isTold 120 = .ok (.invokestatic 60, 3) := by decide +kernel
theorem dX9_isTold_123 : decode cX9_isTold 123 = .ok (.ifCond .eq 7, 3) := by decide +kernel
theorem dX9_isTold_126 : decode cX9_isTold 126 = .ok (.iconst 1, 1) := by decide +kernel
theorem dX9_isTold_127 : decode cX9_isTold 127 = .ok (.goto 17, 3) := by decide +kernel
theorem dX9_isTold_130 : decode cX9_isTold 130 = .ok (.iconst 0, 1) := by decide +kernel
theorem dX9_isTold_131 : decode cX9_isTold 131 = .ok (.goto 13, 3) := by decide +kernel
theorem dX9_isTold_134 : decode cX9_isTold 134 = .ok (.iload 6, 2) := by decide +kernel
theorem dX9_isTold_136 : decode cX9_isTold 136 = .ok (.ifCond .ne 7, 3) := by decide +kernel
theorem dX9_isTold_139 : decode cX9_isTold 139 = .ok (.iconst 1, 1) := by decide +kernel
theorem dX9_isTold_140 : decode cX9_isTold 140 = .ok (.goto 4, 3) := by decide +kernel
theorem dX9_isTold_143 : decode cX9_isTold 143 = .ok (.iconst 0, 1) := by decide +kernel
theorem dX9_isTold_144 : decode cX9_isTold 144 = .ok (.istore 9, 2) := by decide +kernel
theorem dX9_isTold_146 : decode cX9_isTold 146 = .ok (.iload 7, 2) := by decide +kernel
theorem dX9_isTold_148 : decode cX9_isTold 148 = .ok (.ifCond .eq 17, 3) := by decide +kernel
theorem dX9_isTold_151 : decode cX9_isTold 151 = .ok (.iload 8, 2) := by decide +kernel
theorem dX9_isTold_153 : decode cX9_isTold 153 = .ok (.ifCond .eq 12, 3) := by decide +kernel
theorem dX9_isTold_156 : decode cX9_isTold 156 = .ok (.iload 9, 2) := by decide +kernel
theorem dX9_isTold_158 : decode cX9_isTold 158 = .ok (.ifCond .eq 7, 3) := by decide +kernel
theorem dX9_isTold_161 : decode cX9_isTold 161 = .ok (.iconst 1, 1) := by decide +kernel
theorem dX9_isTold_162 : decode cX9_isTold 162 = .ok (.goto 4, 3) := by decide +kernel
theorem dX9_isTold_165 : decode cX9_isTold 165 = .ok (.iconst 0, 1) := by decide +kernel
theorem dX9_isTold_166 : decode cX9_isTold 166 = .ok (.ireturn, 1) := by decide +kernel
theorem dX9_tell_0 : decode cX9_tell 0 = .ok (.aload_n 0, 1) := by decide +kernel
theorem dX9_tell_1 : decode cX9_tell 1 = .ok (.iload_n 1, 1) := by decide +kernel
theorem dX9_tell_2 : decode cX9_tell 2 = .ok (.invokevirtual 111, 3) := by decide +kernel
theorem dX9_tell_5 : decode cX9_tell 5 = .ok (.ifCond .ne 5, 3) := by decide +kernel
theorem dX9_tell_8 : decode cX9_tell 8 = .ok (.iconst (-1), 1) := by decide +kernel
theorem dX9_tell_9 : decode cX9_tell 9 = .ok (.ireturn, 1) := by decide +kernel
theorem dX9_tell_10 : decode cX9_tell 10 = .ok (.aload_n 0, 1) := by decide +kernel
theorem dX9_tell_11 : decode cX9_tell 11 = .ok (.iload_n 1, 1) := by decide +kernel
theorem dX9_tell_12 : decode cX9_tell 12 = .ok (.iload_n 2, 1) := by decide +kernel
theorem dX9_tell_13 : decode cX9_tell 13 = .ok (.iload_n 3, 1) := by decide +kernel
theorem dX9_tell_14 : decode cX9_tell 14 = .ok (.iload 4, 2) := by decide +kernel
theorem dX9_tell_16 : decode cX9_tell 16 = .ok (.iload 5, 2) := by decide +kernel
theorem dX9_tell_18 : decode cX9_tell 18 = .ok (.iload 6, 2) := by decide +kernel
theorem dX9_tell_20 : decode cX9_tell 20 = .ok (.invokevirtual 162, 3) := by decide +kernel
theorem dX9_tell_23 : decode cX9_tell 23 = .ok (.ifCond .ne 6, 3) := by decide +kernel
theorem dX9_tell_26 : decode cX9_tell 26 = .ok (.bipush (-2), 2) := by decide +kernel
theorem dX9_tell_28 : decode cX9_tell 28 = .ok (.ireturn, 1) := by decide +kernel
theorem dX9_tell_29 : decode cX9_tell 29 = .ok (.aload_n 0, 1) := by decide +kernel
theorem dX9_tell_30 : decode cX9_tell 30 = .ok (.invokevirtual 166, 3) := by decide +kernel
theorem dX9_tell_33 : decode cX9_tell 33 = .ok (.aload_n 0, 1) := by decide +kernel
theorem dX9_tell_34 : decode cX9_tell 34 = .ok (.getfield 7, 3) := by decide +kernel
theorem dX9_tell_37 : decode cX9_tell 37 = .ok (.iconst 0, 1) := by decide +kernel
theorem dX9_tell_38 : decode cX9_tell 38 = .ok (.iload_n 1, 1) := by decide +kernel
theorem dX9_tell_39 : decode cX9_tell 39 = .ok (.iadd, 1) := by decide +kernel
theorem dX9_tell_40 : decode cX9_tell 40 = .ok (.iaload, 1) := by decide +kernel
theorem dX9_tell_41 : decode cX9_tell 41 = .ok (.istore 7, 2) := by decide +kernel
theorem dX9_tell_43 : decode cX9_tell 43 = .ok (.aload_n 0, 1) := by decide +kernel
theorem dX9_tell_44 : decode cX9_tell 44 = .ok (.getfield 7, 3) := by decide +kernel
theorem dX9_tell_47 : decode cX9_tell 47 = .ok (.iconst 0, 1) := by decide +kernel
theorem dX9_tell_48 : decode cX9_tell 48 = .ok (.iload_n 1, 1) := by decide +kernel
theorem dX9_tell_49 : decode cX9_tell 49 = .ok (.iadd, 1) := by decide +kernel
theorem dX9_tell_50 : decode cX9_tell 50 = .ok (.iload_n 2, 1) := by decide +kernel
theorem dX9_tell_51 : decode cX9_tell 51 = .ok (.iastore, 1) := by decide +kernel
theorem dX9_tell_52 : decode cX9_tell 52 = .ok (.aload_n 0, 1) := by decide +kernel
theorem dX9_tell_53 : decode cX9_tell 53 = .ok (.getfield 7, 3) := by decide +kernel
theorem dX9_tell_56 : decode cX9_tell 56 = .ok (.bipush 9, 2) := by decide +kernel
theorem dX9_tell_58 : decode cX9_tell 58 = .ok (.iload_n 1, 1) := by decide +kernel
theorem dX9_tell_59 : decode cX9_tell 59 = .ok (.iadd, 1) := by decide +kernel
theorem dX9_tell_60 : decode cX9_tell 60 = .ok (.iload_n 3, 1) := by decide +kernel
theorem dX9_tell_61 : decode cX9_tell 61 = .ok (.iastore, 1) := by decide +kernel
theorem dX9_tell_62 : decode cX9_tell 62 = .ok (.aload_n 0, 1) := by decide +kernel
theorem dX9_tell_63 : decode cX9_tell 63 = .ok (.getfield 7, 3) := by decide +kernel
theorem dX9_tell_66 : decode cX9_tell 66 = .ok (.bipush 18, 2) := by decide +kernel
theorem dX9_tell_68 : decode cX9_tell 68 = .ok (.iload_n 1, 1) := by decide +kernel
theorem dX9_tell_69 : decode cX9_tell 69 = .ok (.iadd, 1) := by decide +kernel
theorem dX9_tell_70 : decode cX9_tell 70 = .ok (.iload 4, 2) := by decide +kernel
theorem dX9_tell_72 : decode cX9_tell 72 = .ok (.iastore, 1) := by decide +kernel
theorem dX9_tell_73 : decode cX9_tell 73 = .ok (.aload_n 0, 1) := by decide +kernel
theorem dX9_tell_74 : decode cX9_tell 74 = .ok (.getfield 7, 3) := by decide +kernel
theorem dX9_tell_77 : decode cX9_tell 77 = .ok (.bipush 27, 2) := by decide +kernel
theorem dX9_tell_79 : decode cX9_tell 79 = .ok (.iload_n 1, 1) := by decide +kernel
theorem dX9_tell_80 : decode cX9_tell 80 = .ok (.iadd, 1) := by decide +kernel
theorem dX9_tell_81 : decode cX9_tell 81 = .ok (.iload 5, 2) := by decide +kernel
theorem dX9_tell_83 : decode cX9_tell 83 = .ok (.iastore, 1) := by decide +kernel
theorem dX9_tell_84 : decode cX9_tell 84 = .ok (.aload_n 0, 1) := by decide +kernel
theorem dX9_tell_85 : decode cX9_tell 85 = .ok (.getfield 7, 3) := by decide +kernel
theorem dX9_tell_88 : decode cX9_tell 88 = .ok (.bipush 36, 2) := by decide +kernel
theorem dX9_tell_90 : decode cX9_tell 90 = .ok (.iload_n 1, 1) := by decide +kernel
theorem dX9_tell_91 : decode cX9_tell 91 = .ok (.iadd, 1) := by decide +kernel
theorem dX9_tell_92 : decode cX9_tell 92 = .ok (.iload 6, 2) := by decide +kernel
theorem dX9_tell_94 : decode cX9_tell 94 = .ok (.iastore, 1) := by decide +kernel
theorem dX9_tell_95 : decode cX9_tell 95 = .ok (.iload 7, 2) := by decide +kernel
theorem dX9_tell_97 : decode cX9_tell 97 = .ok (.ireturn, 1) := by decide +kernel
theorem dX9_relabel_0 : decode cX9_relabel 0 = .ok (.iload_n 1, 1) := by decide +kernel
theorem dX9_relabel_1 : decode cX9_relabel 1 = .ok (.i2l, 1) := by decide +kernel
theorem dX9_relabel_2 : decode cX9_relabel 2 = .ok (.lconst 0, 1) := by decide +kernel
theorem dX9_relabel_3 : decode cX9_relabel 3 = .ok (.ldc2_w 68, 3) := by decide +kernel
theorem dX9_relabel_6 : decode cX9_relabel 6 = .ok (.invokestatic 60, 3) := by decide +kernel
theorem dX9_relabel_9 : decode cX9_relabel 9 = .ok (.ifCond .ne 5, 3) := by decide +kernel
theorem dX9_relabel_12 : decode cX9_relabel 12 = .ok (.iconst (-1), 1) := by decide +kernel
theorem dX9_relabel_13 : decode cX9_relabel 13 = .ok (.ireturn, 1) := by decide +kernel
theorem dX9_relabel_14 : decode cX9_relabel 14 = .ok (.iload_n 2, 1) := by decide +kernel
theorem dX9_relabel_15 : decode cX9_relabel 15 = .ok (.i2l, 1) := by decide +kernel
theorem dX9_relabel_16 : decode cX9_relabel 16 = .ok (.lconst 0, 1) := by decide +kernel
theorem dX9_relabel_17 : decode cX9_relabel 17 = .ok (.ldc2_w 169, 3) := by decide +kernel
theorem dX9_relabel_20 : decode cX9_relabel 20 = .ok (.invokestatic 60, 3) := by decide +kernel
theorem dX9_relabel_23 : decode cX9_relabel 23 = .ok (.ifCond .ne 6, 3) := by decide +kernel
theorem dX9_relabel_26 : decode cX9_relabel 26 = .ok (.bipush (-2), 2) := by decide +kernel
theorem dX9_relabel_28 : decode cX9_relabel 28 = .ok (.ireturn, 1) := by decide +kernel
theorem dX9_relabel_29 : decode cX9_relabel 29 = .ok (.aload_n 0, 1) := by decide +kernel
theorem dX9_relabel_30 : decode cX9_relabel 30 = .ok (.invokevirtual 166, 3) := by decide +kernel
theorem dX9_relabel_33 : decode cX9_relabel 33 = .ok (.aload_n 0, 1) := by decide +kernel
theorem dX9_relabel_34 : decode cX9_relabel 34 = .ok (.getfield 7, 3) := by decide +kernel
theorem dX9_relabel_37 : decode cX9_relabel 37 = .ok (.bipush 45, 2) := by decide +kernel
theorem dX9_relabel_39 : decode cX9_relabel 39 = .ok (.iload_n 1, 1) := by decide +kernel
theorem dX9_relabel_40 : decode cX9_relabel 40 = .ok (.iadd, 1) := by decide +kernel
theorem dX9_relabel_41 : decode cX9_relabel 41 = .ok (.iaload, 1) := by decide +kernel
theorem dX9_relabel_42 : decode cX9_relabel 42 = .ok (.istore_n 3, 1) := by decide +kernel
theorem dX9_relabel_43 : decode cX9_relabel 43 = .ok (.aload_n 0, 1) := by decide +kernel
theorem dX9_relabel_44 : decode cX9_relabel 44 = .ok (.getfield 7, 3) := by decide +kernel
theorem dX9_relabel_47 : decode cX9_relabel 47 = .ok (.bipush 45, 2) := by decide +kernel
theorem dX9_relabel_49 : decode cX9_relabel 49 = .ok (.iload_n 1, 1) := by decide +kernel
theorem dX9_relabel_50 : decode cX9_relabel 50 = .ok (.iadd, 1) := by decide +kernel
theorem dX9_relabel_51 : decode cX9_relabel 51 = .ok (.iload_n 2, 1) := by decide +kernel
theorem dX9_relabel_52 : decode cX9_relabel 52 = .ok (.iastore, 1) := by decide +kernel
theorem dX9_relabel_53 : decode cX9_relabel 53 = .ok (.iload_n 3, 1) := by decide +kernel
theorem dX9_relabel_54 : decode cX9_relabel 54 = .ok (.ireturn, 1) := by decide +kernel
theorem dX9_undo_0 : decode cX9_undo 0 = .ok (.aload_n 0, 1) := by decide +kernel
theorem dX9_undo_1 : decode cX9_undo 1 = .ok (.getfield 108, 3) := by decide +kernel
theorem dX9_undo_4 : decode cX9_undo 4 = .ok (.ifCond .ne 6, 3) := by decide +kernel
theorem dX9_undo_7 : decode cX9_undo 7 = .ok (.bipush (-3), 2) := by decide +kernel
theorem dX9_undo_9 : decode cX9_undo 9 = .ok (.ireturn, 1) := by decide +kernel
theorem dX9_undo_10 : decode cX9_undo 10 = .ok (.aload_n 0, 1) := by decide +kernel
theorem dX9_undo_11 : decode cX9_undo 11 = .ok (.dup, 1) := by decide +kernel
theorem dX9_undo_12 : decode cX9_undo 12 = .ok (.getfield 108, 3) := by decide +kernel
theorem dX9_undo_15 : decode cX9_undo 15 = .ok (.iconst 1, 1) := by decide +kernel
theorem dX9_undo_16 : decode cX9_undo 16 = .ok (.isub, 1) := by decide +kernel
theorem dX9_undo_17 : decode cX9_undo 17 = .ok (.putfield 108, 3) := by decide +kernel
theorem dX9_undo_20 : decode cX9_undo 20 = .ok (.aload_n 0, 1) := by decide +kernel
theorem dX9_undo_21 : decode cX9_undo 21 = .ok (.aload_n 0, 1) := by decide +kernel
theorem dX9_undo_22 : decode cX9_undo 22 = .ok (.getfield 155, 3) := by decide +kernel
theorem dX9_undo_25 : decode cX9_undo 25 = .ok (.bipush 13, 2) := by decide +kernel
theorem dX9_undo_27 : decode cX9_undo 27 = .ok (.iadd, 1) := by decide +kernel
theorem dX9_undo_28 : decode cX9_undo 28 = .ok (.bipush 14, 2) := by decide +kernel
theorem dX9_undo_30 : decode cX9_undo 30 = .ok (.irem, 1) := by decide +kernel
theorem dX9_undo_31 : decode cX9_undo 31 = .ok (.putfield 155, 3) := by decide +kernel
theorem dX9_undo_34 : decode cX9_undo 34 = .ok (.iconst 0, 1) := by decide +kernel
theorem dX9_undo_35 : decode cX9_undo 35 = .ok (.istore_n 1, 1) := by decide +kernel
theorem dX9_undo_36 : decode cX9_undo 36 = .ok (.iload_n 1, 1) := by decide +kernel
theorem dX9_undo_37 : decode cX9_undo 37 = .ok (.bipush 48, 2) := by decide +kernel
theorem dX9_undo_39 : decode cX9_undo 39 = .ok (.if_icmp .ge 29, 3) := by decide +kernel
theorem dX9_undo_42 : decode cX9_undo 42 = .ok (.aload_n 0, 1) := by decide +kernel
theorem dX9_undo_43 : decode cX9_undo 43 = .ok (.getfield 7, 3) := by decide +kernel
theorem dX9_undo_46 : decode cX9_undo 46 = .ok (.iload_n 1, 1) := by decide +kernel
theorem dX9_undo_47 : decode cX9_undo 47 = .ok (.aload_n 0, 1) := by decide +kernel
theorem dX9_undo_48 : decode cX9_undo 48 = .ok (.getfield 22, 3) := by decide +kernel
theorem dX9_undo_51 : decode cX9_undo 51 = .ok (.bipush 48, 2) := by decide +kernel
theorem dX9_undo_53 : decode cX9_undo 53 = .ok (.aload_n 0, 1) := by decide +kernel
theorem dX9_undo_54 : decode cX9_undo 54 = .ok (.getfield 155, 3) := by decide +kernel
theorem dX9_undo_57 : decode cX9_undo 57 = .ok (.imul, 1) := by decide +kernel
theorem dX9_undo_58 : decode cX9_undo 58 = .ok (.iload_n 1, 1) := by decide +kernel
theorem dX9_undo_59 : decode cX9_undo 59 = .ok (.iadd, 1) := by decide +kernel
theorem dX9_undo_60 : decode cX9_undo 60 = .ok (.iaload, 1) := by decide +kernel
theorem dX9_undo_61 : decode cX9_undo 61 = .ok (.iastore, 1) := by decide +kernel
theorem dX9_undo_62 : decode cX9_undo 62 = .ok (.iinc 1 1, 3) := by decide +kernel
theorem dX9_undo_65 : decode cX9_undo 65 = .ok (.goto (-29), 3) := by decide +kernel
theorem dX9_undo_68 : decode cX9_undo 68 = .ok (.aload_n 0, 1) := by decide +kernel
theorem dX9_undo_69 : decode cX9_undo 69 = .ok (.getfield 108, 3) := by decide +kernel
theorem dX9_undo_72 : decode cX9_undo 72 = .ok (.ireturn, 1) := by decide +kernel
theorem dX9_runBy_0 : decode cX9_runBy 0 = .ok (.aload_n 0, 1) := by decide +kernel
theorem dX9_runBy_1 : decode cX9_runBy 1 = .ok (.getfield 25, 3) := by decide +kernel
theorem dX9_runBy_4 : decode cX9_runBy 4 = .ok (.iconst 0, 1) := by decide +kernel
theorem dX9_runBy_5 : decode cX9_runBy 5 = .ok (.iload_n 1, 1) := by decide +kernel
theorem dX9_runBy_6 : decode cX9_runBy 6 = .ok (.iastore, 1) := by decide +kernel
theorem dX9_runBy_7 : decode cX9_runBy 7 = .ok (.aload_n 0, 1) := by decide +kernel
theorem dX9_runBy_8 : decode cX9_runBy 8 = .ok (.getfield 25, 3) := by decide +kernel
theorem dX9_runBy_11 : decode cX9_runBy 11 = .ok (.iconst 1, 1) := by decide +kernel
theorem dX9_runBy_12 : decode cX9_runBy 12 = .ok (.iload_n 2, 1) := by decide +kernel
theorem dX9_runBy_13 : decode cX9_runBy 13 = .ok (.iastore, 1) := by decide +kernel
theorem dX9_runBy_14 : decode cX9_runBy 14 = .ok (.aload_n 0, 1) := by decide +kernel
theorem dX9_runBy_15 : decode cX9_runBy 15 = .ok (.getfield 25, 3) := by decide +kernel
theorem dX9_runBy_18 : decode cX9_runBy 18 = .ok (.iconst 2, 1) := by decide +kernel
theorem dX9_runBy_19 : decode cX9_runBy 19 = .ok (.iload_n 3, 1) := by decide +kernel
theorem dX9_runBy_20 : decode cX9_runBy 20 = .ok (.iastore, 1) := by decide +kernel
theorem dX9_runBy_21 : decode cX9_runBy 21 = .ok (.aload_n 0, 1) := by decide +kernel
theorem dX9_runBy_22 : decode cX9_runBy 22 = .ok (.getfield 25, 3) := by decide +kernel
theorem dX9_runBy_25 : decode cX9_runBy 25 = .ok (.iconst 3, 1) := by decide +kernel
theorem dX9_runBy_26 : decode cX9_runBy 26 = .ok (.iconst 0, 1) := by decide +kernel
theorem dX9_runBy_27 : decode cX9_runBy 27 = .ok (.iastore, 1) := by decide +kernel
theorem dX9_runBy_28 : decode cX9_runBy 28 = .ok (.aload_n 0, 1) := by decide +kernel
theorem dX9_runBy_29 : decode cX9_runBy 29 = .ok (.getfield 25, 3) := by decide +kernel
theorem dX9_runBy_32 : decode cX9_runBy 32 = .ok (.iconst 4, 1) := by decide +kernel
theorem dX9_runBy_33 : decode cX9_runBy 33 = .ok (.iconst 0, 1) := by decide +kernel
theorem dX9_runBy_34 : decode cX9_runBy 34 = .ok (.iastore, 1) := by decide +kernel
theorem dX9_runBy_35 : decode cX9_runBy 35 = .ok (.aload_n 0, 1) := by decide +kernel
theorem dX9_runBy_36 : decode cX9_runBy 36 = .ok (.iconst 0, 1) := by decide +kernel
theorem dX9_runBy_37 : decode cX9_runBy 37 = .ok (.putfield 171, 3) := by decide +kernel
theorem dX9_runBy_40 : decode cX9_runBy 40 = .ok (.aload_n 0, 1) := by decide +kernel
theorem dX9_runBy_41 : decode cX9_runBy 41 = .ok (.iconst 0, 1) := by decide +kernel
theorem dX9_runBy_42 : decode cX9_runBy 42 = .ok (.putfield 174, 3) := by decide +kernel
theorem dX9_runBy_45 : decode cX9_runBy 45 = .ok (.iconst 0, 1) := by decide +kernel
theorem dX9_runBy_46 : decode cX9_runBy 46 = .ok (.istore 5, 2) := by decide +kernel
theorem dX9_runBy_48 : decode cX9_runBy 48 = .ok (.iload 5, 2) := by decide +kernel
theorem dX9_runBy_50 : decode cX9_runBy 50 = .ok (.aload_n 0, 1) := by decide +kernel
theorem dX9_runBy_51 : decode cX9_runBy 51 = .ok (.getfield 105, 3) := by decide +kernel
theorem dX9_runBy_54 : decode cX9_runBy 54 = .ok (.if_icmp .ge 16, 3) := by decide +kernel
theorem dX9_runBy_57 : decode cX9_runBy 57 = .ok (.aload_n 0, 1) := by decide +kernel
theorem dX9_runBy_58 : decode cX9_runBy 58 = .ok (.iload 5, 2) := by decide +kernel
theorem dX9_runBy_60 : decode cX9_runBy 60 = .ok (.iload 4, 2) := by decide +kernel
theorem dX9_runBy_62 : decode cX9_runBy 62 = .ok (.invokevirtual 178, 3) := by decide +kernel
theorem dX9_runBy_65 : decode cX9_runBy 65 = .ok (.istore 5, 2) := by decide +kernel
theorem dX9_runBy_67 : decode cX9_runBy 67 = .ok (.goto (-19), 3) := by decide +kernel
theorem dX9_runBy_70 : decode cX9_runBy 70 = .ok (.return_, 1) := by decide +kernel
theorem dX9_stepBy_0 : decode cX9_stepBy 0 = .ok (.aload_n 0, 1) := by decide +kernel
theorem dX9_stepBy_1 : decode cX9_stepBy 1 = .ok (.getfield 7, 3) := by decide +kernel
theorem dX9_stepBy_4 : decode cX9_stepBy 4 = .ok (.iconst 0, 1) := by decide +kernel
theorem dX9_stepBy_5 : decode cX9_stepBy 5 = .ok (.iload_n 1, 1) := by decide +kernel
theorem dX9_stepBy_6 : decode cX9_stepBy 6 = .ok (.iadd, 1) := by decide +kernel
theorem dX9_stepBy_7 : decode cX9_stepBy 7 = .ok (.iaload, 1) := by decide +kernel
theorem dX9_stepBy_8 : decode cX9_stepBy 8 = .ok (.istore_n 3, 1) := by decide +kernel
theorem dX9_stepBy_9 : decode cX9_stepBy 9 = .ok (.aload_n 0, 1) := by decide +kernel
theorem dX9_stepBy_10 : decode cX9_stepBy 10 = .ok (.getfield 7, 3) := by decide +kernel
theorem dX9_stepBy_13 : decode cX9_stepBy 13 = .ok (.bipush 9, 2) := by decide +kernel
theorem dX9_stepBy_15 : decode cX9_stepBy 15 = .ok (.iload_n 1, 1) := by decide +kernel
theorem dX9_stepBy_16 : decode cX9_stepBy 16 = .ok (.iadd, 1) := by decide +kernel
theorem dX9_stepBy_17 : decode cX9_stepBy 17 = .ok (.iaload, 1) := by decide +kernel
theorem dX9_stepBy_18 : decode cX9_stepBy 18 = .ok (.istore 4, 2) := by decide +kernel
theorem dX9_stepBy_20 : decode cX9_stepBy 20 = .ok (.iload_n 3, 1) := by decide +kernel
theorem dX9_stepBy_21 : decode cX9_stepBy 21 = .ok (.iconst 2, 1) := by decide +kernel
theorem dX9_stepBy_22 : decode cX9_stepBy 22 = .ok (.if_icmp .ne 24, 3) := by decide +kernel
theorem dX9_stepBy_25 : decode cX9_stepBy 25 = .ok (.aload_n 0, 1) := by decide +kernel
theorem dX9_stepBy_26 : decode cX9_stepBy 26 = .ok (.getfield 25, 3) := by decide +kernel
theorem dX9_stepBy_29 : decode cX9_stepBy 29 = .ok (.aload_n 0, 1) := by decide +kernel
theorem dX9_stepBy_30 : decode cX9_stepBy 30 = .ok (.getfield 7, 3) := by decide +kernel
theorem dX9_stepBy_33 : decode cX9_stepBy 33 = .ok (.bipush 27, 2) := by decide +kernel
theorem dX9_stepBy_35 : decode cX9_stepBy 35 = .ok (.iload_n 1, 1) := by decide +kernel
theorem dX9_stepBy_36 : decode cX9_stepBy 36 = .ok (.iadd, 1) := by decide +kernel
theorem dX9_stepBy_37 : decode cX9_stepBy 37 = .ok (.iaload, 1) := by decide +kernel
theorem dX9_stepBy_38 : decode cX9_stepBy 38 = .ok (.iaload, 1) := by decide +kernel
theorem dX9_stepBy_39 : decode cX9_stepBy 39 = .ok (.ifCond .ne 7, 3) := by decide +kernel
theorem dX9_stepBy_42 : decode cX9_stepBy 42 = .ok (.iconst 1, 1) := by decide +kernel
theorem dX9_stepBy_43 : decode cX9_stepBy 43 = .ok (.goto 19, 3) := by decide +kernel
theorem dX9_stepBy_46 : decode cX9_stepBy 46 = .ok (.iload_n 3, 1) := by decide +kernel
theorem dX9_stepBy_47 : decode cX9_stepBy 47 = .ok (.iconst 4, 1) := by decide +kernel
theorem dX9_stepBy_48 : decode cX9_stepBy 48 = .ok (.if_icmp .ne 13, 3) := by decide +kernel
theorem dX9_stepBy_51 : decode cX9_stepBy 51 = .ok (.aload_n 0, 1) := by decide +kernel
theorem dX9_stepBy_52 : decode cX9_stepBy 52 = .ok (.getfield 25, 3) := by decide +kernel
theorem dX9_stepBy_55 : decode cX9_stepBy 55 = .ok (.iload 4, 2) := by decide +kernel
theorem dX9_stepBy_57 : decode cX9_stepBy 57 = .ok (.iaload, 1) := by decide +kernel
theorem dX9_stepBy_58 : decode cX9_stepBy 58 = .ok (.goto 4, 3) := by decide +kernel
theorem dX9_stepBy_61 : decode cX9_stepBy 61 = .ok (.iconst 0, 1) := by decide +kernel
theorem dX9_stepBy_62 : decode cX9_stepBy 62 = .ok (.istore 5, 2) := by decide +kernel
theorem dX9_stepBy_64 : decode cX9_stepBy 64 = .ok (.iload 5, 2) := by decide +kernel
theorem dX9_stepBy_66 : decode cX9_stepBy 66 = .ok (.ifCond .le 40, 3) := by decide +kernel
theorem dX9_stepBy_69 : decode cX9_stepBy 69 = .ok (.aload_n 0, 1) := by decide +kernel
theorem dX9_stepBy_70 : decode cX9_stepBy 70 = .ok (.getfield 25, 3) := by decide +kernel
theorem dX9_stepBy_73 : decode cX9_stepBy 73 = .ok (.iconst 4, 1) := by decide +kernel
theorem dX9_stepBy_74 : decode cX9_stepBy 74 = .ok (.iload 5, 2) := by decide +kernel
theorem dX9_stepBy_76 : decode cX9_stepBy 76 = .ok (.iastore, 1) := by decide +kernel
theorem dX9_stepBy_77 : decode cX9_stepBy 77 = .ok (.aload_n 0, 1) := by decide +kernel
theorem dX9_stepBy_78 : decode cX9_stepBy 78 = .ok (.aload_n 0, 1) := by decide +kernel
theorem dX9_stepBy_79 : decode cX9_stepBy 79 = .ok (.getfield 7, 3) := by decide +kernel
theorem dX9_stepBy_82 : decode cX9_stepBy 82 = .ok (.bipush 36, 2) := by decide +kernel
theorem dX9_stepBy_84 : decode cX9_stepBy 84 = .ok (.iload_n 1, 1) := by decide +kernel
theorem dX9_stepBy_85 : decode cX9_stepBy 85 = .ok (.iadd, 1) := by decide +kernel
theorem dX9_stepBy_86 : decode cX9_stepBy 86 = .ok (.iaload, 1) := by decide +kernel
theorem dX9_stepBy_87 : decode cX9_stepBy 87 = .ok (.iconst (-1), 1) := by decide +kernel
theorem dX9_stepBy_88 : decode cX9_stepBy 88 = .ok (.if_icmp .ne 7, 3) := by decide +kernel
theorem dX9_stepBy_91 : decode cX9_stepBy 91 = .ok (.iconst 1, 1) := by decide +kernel
theorem dX9_stepBy_92 : decode cX9_stepBy 92 = .ok (.goto 4, 3) := by decide +kernel
theorem dX9_stepBy_95 : decode cX9_stepBy 95 = .ok (.iconst 0, 1) := by decide +kernel
theorem dX9_stepBy_96 : decode cX9_stepBy 96 = .ok (.putfield 174, 3) := by decide +kernel
theorem dX9_stepBy_99 : decode cX9_stepBy 99 = .ok (.aload_n 0, 1) := by decide +kernel
theorem dX9_stepBy_100 : decode cX9_stepBy 100 = .ok (.iconst 0, 1) := by decide +kernel
theorem dX9_stepBy_101 : decode cX9_stepBy 101 = .ok (.iload_n 1, 1) := by decide +kernel
theorem dX9_stepBy_102 : decode cX9_stepBy 102 = .ok (.invokevirtual 122, 3) := by decide +kernel
theorem dX9_stepBy_105 : decode cX9_stepBy 105 = .ok (.ireturn, 1) := by decide +kernel
theorem dX9_stepBy_106 : decode cX9_stepBy 106 = .ok (.iload_n 3, 1) := by decide +kernel
theorem dX9_stepBy_107 : decode cX9_stepBy 107 = .ok (.ifCond .ne 22, 3) := by decide +kernel
theorem dX9_stepBy_110 : decode cX9_stepBy 110 = .ok (.aload_n 0, 1) := by decide +kernel
theorem dX9_stepBy_111 : decode cX9_stepBy 111 = .ok (.getfield 25, 3) := by decide +kernel
theorem dX9_stepBy_114 : decode cX9_stepBy 114 = .ok (.iload 4, 2) := by decide +kernel
theorem dX9_stepBy_116 : decode cX9_stepBy 116 = .ok (.aload_n 0, 1) := by decide +kernel
theorem dX9_stepBy_117 : decode cX9_stepBy 117 = .ok (.getfield 7, 3) := by decide +kernel
theorem dX9_stepBy_120 : decode cX9_stepBy 120 = .ok (.bipush 18, 2) := by decide +kernel
theorem dX9_stepBy_122 : decode cX9_stepBy 122 = .ok (.iload_n 1, 1) := by decide +kernel
theorem dX9_stepBy_123 : decode cX9_stepBy 123 = .ok (.iadd, 1) := by decide +kernel
theorem dX9_stepBy_124 : decode cX9_stepBy 124 = .ok (.iaload, 1) := by decide +kernel
theorem dX9_stepBy_125 : decode cX9_stepBy 125 = .ok (.iastore, 1) := by decide +kernel
theorem dX9_stepBy_126 : decode cX9_stepBy 126 = .ok (.goto 133, 3) := by decide +kernel
theorem dX9_stepBy_129 : decode cX9_stepBy 129 = .ok (.iload_n 3, 1) := by decide +kernel
theorem dX9_stepBy_130 : decode cX9_stepBy 130 = .ok (.iconst 1, 1) := by decide +kernel
theorem dX9_stepBy_131 : decode cX9_stepBy 131 = .ok (.if_icmp .ne 45, 3) := by decide +kernel
theorem dX9_stepBy_134 : decode cX9_stepBy 134 = .ok (.aload_n 0, 1) := by decide +kernel
theorem dX9_stepBy_135 : decode cX9_stepBy 135 = .ok (.getfield 25, 3) := by decide +kernel
theorem dX9_stepBy_138 : decode cX9_stepBy 138 = .ok (.iload 4, 2) := by decide +kernel
theorem dX9_stepBy_140 : decode cX9_stepBy 140 = .ok (.aload_n 0, 1) := by decide +kernel
theorem dX9_stepBy_141 : decode cX9_stepBy 141 = .ok (.getfield 25, 3) := by decide +kernel
theorem dX9_stepBy_144 : decode cX9_stepBy 144 = .ok (.aload_n 0, 1) := by decide +kernel
theorem dX9_stepBy_145 : decode cX9_stepBy 145 = .ok (.getfield 7, 3) := by decide +kernel
theorem dX9_stepBy_148 : decode cX9_stepBy 148 = .ok (.bipush 18, 2) := by decide +kernel
theorem dX9_stepBy_150 : decode cX9_stepBy 150 = .ok (.iload_n 1, 1) := by decide +kernel
theorem dX9_stepBy_151 : decode cX9_stepBy 151 = .ok (.iadd, 1) := by decide +kernel
theorem dX9_stepBy_152 : decode cX9_stepBy 152 = .ok (.iaload, 1) := by decide +kernel
theorem dX9_stepBy_153 : decode cX9_stepBy 153 = .ok (.iaload, 1) := by decide +kernel
theorem dX9_stepBy_154 : decode cX9_stepBy 154 = .ok (.aload_n 0, 1) := by decide +kernel
theorem dX9_stepBy_155 : decode cX9_stepBy 155 = .ok (.getfield 25, 3) := by decide +kernel
theorem dX9_stepBy_158 : decode cX9_stepBy 158 = .ok (.aload_n 0, 1) := by decide +kernel
theorem dX9_stepBy_159 : decode cX9_stepBy 159 = .ok (.getfield 7, 3) := by decide +kernel
theorem dX9_stepBy_162 : decode cX9_stepBy 162 = .ok (.bipush 27, 2) := by decide +kernel
theorem dX9_stepBy_164 : decode cX9_stepBy 164 = .ok (.iload_n 1, 1) := by decide +kernel
theorem dX9_stepBy_165 : decode cX9_stepBy 165 = .ok (.iadd, 1) := by decide +kernel
theorem dX9_stepBy_166 : decode cX9_stepBy 166 = .ok (.iaload, 1) := by decide +kernel
theorem dX9_stepBy_167 : decode cX9_stepBy 167 = .ok (.iaload, 1) := by decide +kernel
theorem dX9_stepBy_168 : decode cX9_stepBy 168 = .ok (.iadd, 1) := by decide +kernel
theorem dX9_stepBy_169 : decode cX9_stepBy 169 = .ok (.bipush 10, 2) := by decide +kernel
theorem dX9_stepBy_171 : decode cX9_stepBy 171 = .ok (.irem, 1) := by decide +kernel
theorem dX9_stepBy_172 : decode cX9_stepBy 172 = .ok (.iastore, 1) := by decide +kernel
theorem dX9_stepBy_173 : decode cX9_stepBy 173 = .ok (.goto 86, 3) := by decide +kernel
theorem dX9_stepBy_176 : decode cX9_stepBy 176 = .ok (.iload_n 3, 1) := by decide +kernel
theorem dX9_stepBy_177 : decode cX9_stepBy 177 = .ok (.iconst 2, 1) := by decide +kernel
theorem dX9_stepBy_178 : decode cX9_stepBy 178 = .ok (.if_icmp .ne 42, 3) := by decide +kernel
theorem dX9_stepBy_181 : decode cX9_stepBy 181 = .ok (.aload_n 0, 1) := by decide +kernel
theorem dX9_stepBy_182 : decode cX9_stepBy 182 = .ok (.getfield 25, 3) := by decide +kernel
theorem dX9_stepBy_185 : decode cX9_stepBy 185 = .ok (.iload 4, 2) := by decide +kernel
theorem dX9_stepBy_187 : decode cX9_stepBy 187 = .ok (.aload_n 0, 1) := by decide +kernel
theorem dX9_stepBy_188 : decode cX9_stepBy 188 = .ok (.getfield 25, 3) := by decide +kernel
theorem dX9_stepBy_191 : decode cX9_stepBy 191 = .ok (.aload_n 0, 1) := by decide +kernel
theorem dX9_stepBy_192 : decode cX9_stepBy 192 = .ok (.getfield 7, 3) := by decide +kernel
theorem dX9_stepBy_195 : decode cX9_stepBy 195 = .ok (.bipush 18, 2) := by decide +kernel
theorem dX9_stepBy_197 : decode cX9_stepBy 197 = .ok (.iload_n 1, 1) := by decide +kernel
theorem dX9_stepBy_198 : decode cX9_stepBy 198 = .ok (.iadd, 1) := by decide +kernel
theorem dX9_stepBy_199 : decode cX9_stepBy 199 = .ok (.iaload, 1) := by decide +kernel
theorem dX9_stepBy_200 : decode cX9_stepBy 200 = .ok (.iaload, 1) := by decide +kernel
theorem dX9_stepBy_201 : decode cX9_stepBy 201 = .ok (.aload_n 0, 1) := by decide +kernel
theorem dX9_stepBy_202 : decode cX9_stepBy 202 = .ok (.getfield 25, 3) := by decide +kernel
theorem dX9_stepBy_205 : decode cX9_stepBy 205 = .ok (.aload_n 0, 1) := by decide +kernel
theorem dX9_stepBy_206 : decode cX9_stepBy 206 = .ok (.getfield 7, 3) := by decide +kernel
theorem dX9_stepBy_209 : decode cX9_stepBy 209 = .ok (.bipush 27, 2) := by decide +kernel
theorem dX9_stepBy_211 : decode cX9_stepBy 211 = .ok (.iload_n 1, 1) := by decide +kernel
theorem dX9_stepBy_212 : decode cX9_stepBy 212 = .ok (.iadd, 1) := by decide +kernel
theorem dX9_stepBy_213 : decode cX9_stepBy 213 = .ok (.iaload, 1) := by decide +kernel
theorem dX9_stepBy_214 : decode cX9_stepBy 214 = .ok (.iaload, 1) := by decide +kernel
theorem dX9_stepBy_215 : decode cX9_stepBy 215 = .ok (.idiv, 1) := by decide +kernel
theorem dX9_stepBy_216 : decode cX9_stepBy 216 = .ok (.iastore, 1) := by decide +kernel
theorem dX9_stepBy_217 : decode cX9_stepBy 217 = .ok (.goto 42, 3) := by decide +kernel
theorem dX9_stepBy_220 : decode cX9_stepBy 220 = .ok (.iload_n 3, 1) := by decide +kernel
theorem dX9_stepBy_221 : decode cX9_stepBy 221 = .ok (.iconst 5, 1) := by decide +kernel
theorem dX9_stepBy_222 : decode cX9_stepBy 222 = .ok (.if_icmp .ne 37, 3) := by decide +kernel
theorem dX9_stepBy_225 : decode cX9_stepBy 225 = .ok (.iload_n 2, 1) := by decide +kernel
theorem dX9_stepBy_226 : decode cX9_stepBy 226 = .ok (.iload_n 1, 1) := by decide +kernel
theorem dX9_stepBy_227 : decode cX9_stepBy 227 = .ok (.invokestatic 118, 3) := by decide +kernel
theorem dX9_stepBy_230 : decode cX9_stepBy 230 = .ok (.ifCond .eq 29, 3) := by decide +kernel
theorem dX9_stepBy_233 : decode cX9_stepBy 233 = .ok (.aload_n 0, 1) := by decide +kernel
theorem dX9_stepBy_234 : decode cX9_stepBy 234 = .ok (.getfield 28, 3) := by decide +kernel
theorem dX9_stepBy_237 : decode cX9_stepBy 237 = .ok (.aload_n 0, 1) := by decide +kernel
theorem dX9_stepBy_238 : decode cX9_stepBy 238 = .ok (.getfield 171, 3) := by decide +kernel
theorem dX9_stepBy_241 : decode cX9_stepBy 241 = .ok (.aload_n 0, 1) := by decide +kernel
theorem dX9_stepBy_242 : decode cX9_stepBy 242 = .ok (.getfield 25, 3) := by decide +kernel
theorem dX9_stepBy_245 : decode cX9_stepBy 245 = .ok (.iload 4, 2) := by decide +kernel
theorem dX9_stepBy_247 : decode cX9_stepBy 247 = .ok (.iaload, 1) := by decide +kernel
theorem dX9_stepBy_248 : decode cX9_stepBy 248 = .ok (.iastore, 1) := by decide +kernel
theorem dX9_stepBy_249 : decode cX9_stepBy 249 = .ok (.aload_n 0, 1) := by decide +kernel
theorem dX9_stepBy_250 : decode cX9_stepBy 250 = .ok (.dup, 1) := by decide +kernel
theorem dX9_stepBy_251 : decode cX9_stepBy 251 = .ok (.getfield 171, 3) := by decide +kernel
theorem dX9_stepBy_254 : decode cX9_stepBy 254 = .ok (.iconst 1, 1) := by decide +kernel
theorem dX9_stepBy_255 : decode cX9_stepBy 255 = .ok (.iadd, 1) := by decide +kernel
theorem dX9_stepBy_256 : decode cX9_stepBy 256 = .ok (.putfield 171, 3) := by decide +kernel
theorem dX9_stepBy_259 : decode cX9_stepBy 259 = .ok (.iload_n 3, 1) := by decide +kernel
theorem dX9_stepBy_260 : decode cX9_stepBy 260 = .ok (.iconst 3, 1) := by decide +kernel
theorem dX9_stepBy_261 : decode cX9_stepBy 261 = .ok (.if_icmp .ne 22, 3) := by decide +kernel
theorem dX9_stepBy_264 : decode cX9_stepBy 264 = .ok (.aload_n 0, 1) := by decide +kernel
theorem dX9_stepBy_265 : decode cX9_stepBy 265 = .ok (.getfield 25, 3) := by decide +kernel
theorem dX9_stepBy_268 : decode cX9_stepBy 268 = .ok (.iload 4, 2) := by decide +kernel
theorem dX9_stepBy_270 : decode cX9_stepBy 270 = .ok (.iaload, 1) := by decide +kernel
theorem dX9_stepBy_271 : decode cX9_stepBy 271 = .ok (.ifCond .le 12, 3) := by decide +kernel
theorem dX9_stepBy_274 : decode cX9_stepBy 274 = .ok (.aload_n 0, 1) := by decide +kernel
theorem dX9_stepBy_275 : decode cX9_stepBy 275 = .ok (.iconst 0, 1) := by decide +kernel
theorem dX9_stepBy_276 : decode cX9_stepBy 276 = .ok (.iload_n 1, 1) := by decide +kernel
theorem dX9_stepBy_277 : decode cX9_stepBy 277 = .ok (.invokevirtual 122, 3) := by decide +kernel
theorem dX9_stepBy_280 : decode cX9_stepBy 280 = .ok (.goto 6, 3) := by decide +kernel
theorem dX9_stepBy_283 : decode cX9_stepBy 283 = .ok (.iload_n 1, 1) := by decide +kernel
theorem dX9_stepBy_284 : decode cX9_stepBy 284 = .ok (.iconst 1, 1) := by decide +kernel
theorem dX9_stepBy_285 : decode cX9_stepBy 285 = .ok (.iadd, 1) := by decide +kernel
theorem dX9_stepBy_286 : decode cX9_stepBy 286 = .ok (.ireturn, 1) := by decide +kernel
theorem dX9_areValues_0 : decode cX9_areValues 0 = .ok (.iload_n 0, 1) := by decide +kernel
theorem dX9_areValues_1 : decode cX9_areValues 1 = .ok (.i2l, 1) := by decide +kernel
theorem dX9_areValues_2 : decode cX9_areValues 2 = .ok (.lconst 0, 1) := by decide +kernel
theorem dX9_areValues_3 : decode cX9_areValues 3 = .ok (.ldc2_w 160, 3) := by decide +kernel
theorem dX9_areValues_6 : decode cX9_areValues 6 = .ok (.invokestatic 60, 3) := by decide +kernel
theorem dX9_areValues_9 : decode cX9_areValues 9 = .ok (.ifCond .eq 31, 3) := by decide +kernel
theorem dX9_areValues_12 : decode cX9_areValues 12 = .ok (.iload_n 1, 1) := by decide +kernel
theorem dX9_areValues_13 : decode cX9_areValues 13 = .ok (.i2l, 1) := by decide +kernel
theorem dX9_areValues_14 : decode cX9_areValues 14 = .ok (.lconst 0, 1) := by decide +kernel
theorem dX9_areValues_15 : decode cX9_areValues 15 = .ok (.ldc2_w 160, 3) := by decide +kernel
theorem dX9_areValues_18 : decode cX9_areValues 18 = .ok (.invokestatic 60, 3) := by decide +kernel
theorem dX9_areValues_21 : decode cX9_areValues 21 = .ok (.ifCond .eq 19, 3) := by decide +kernel
theorem dX9_areValues_24 : decode cX9_areValues 24 = .ok (.iload_n 2, 1) := by decide +kernel
theorem dX9_areValues_25 : decode cX9_areValues 25 = .ok (.i2l, 1) := by decide +kernel
theorem dX9_areValues_26 : decode cX9_areValues 26 = .ok (.lconst 0, 1) := by decide +kernel
theorem dX9_areValues_27 : decode cX9_areValues 27 = .ok (.ldc2_w 160, 3) := by decide +kernel
theorem dX9_areValues_30 : decode cX9_areValues 30 = .ok (.invokestatic 60, 3) := by decide +kernel
theorem dX9_areValues_33 : decode cX9_areValues 33 = .ok (.ifCond .eq 7, 3) := by decide +kernel
theorem dX9_areValues_36 : decode cX9_areValues 36 = .ok (.iconst 1, 1) := by decide +kernel
theorem dX9_areValues_37 : decode cX9_areValues 37 = .ok (.goto 4, 3) := by decide +kernel
theorem dX9_areValues_40 : decode cX9_areValues 40 = .ok (.iconst 0, 1) := by decide +kernel
theorem dX9_areValues_41 : decode cX9_areValues 41 = .ok (.ireturn, 1) := by decide +kernel
theorem dX9_run_0 : decode cX9_run 0 = .ok (.iload_n 1, 1) := by decide +kernel
theorem dX9_run_1 : decode cX9_run 1 = .ok (.iload_n 2, 1) := by decide +kernel
theorem dX9_run_2 : decode cX9_run 2 = .ok (.iload_n 3, 1) := by decide +kernel
theorem dX9_run_3 : decode cX9_run 3 = .ok (.invokestatic 181, 3) := by decide +kernel
theorem dX9_run_6 : decode cX9_run 6 = .ok (.ifCond .ne 6, 3) := by decide +kernel
theorem dX9_run_9 : decode cX9_run 9 = .ok (.bipush (-2), 2) := by decide +kernel
theorem dX9_run_11 : decode cX9_run 11 = .ok (.ireturn, 1) := by decide +kernel
theorem dX9_run_12 : decode cX9_run 12 = .ok (.aload_n 0, 1) := by decide +kernel
theorem dX9_run_13 : decode cX9_run 13 = .ok (.iload_n 1, 1) := by decide +kernel
theorem dX9_run_14 : decode cX9_run 14 = .ok (.iload_n 2, 1) := by decide +kernel
theorem dX9_run_15 : decode cX9_run 15 = .ok (.iload_n 3, 1) := by decide +kernel
theorem dX9_run_16 : decode cX9_run 16 = .ok (.sipush 511, 3) := by decide +kernel
theorem dX9_run_19 : decode cX9_run 19 = .ok (.invokevirtual 185, 3) := by decide +kernel
theorem dX9_run_22 : decode cX9_run 22 = .ok (.iload 4, 2) := by decide +kernel
theorem dX9_run_24 : decode cX9_run 24 = .ok (.i2l, 1) := by decide +kernel
theorem dX9_run_25 : decode cX9_run 25 = .ok (.lconst 0, 1) := by decide +kernel
theorem dX9_run_26 : decode cX9_run 26 = .ok (.aload_n 0, 1) := by decide +kernel
theorem dX9_run_27 : decode cX9_run 27 = .ok (.getfield 171, 3) := by decide +kernel
theorem dX9_run_30 : decode cX9_run 30 = .ok (.iconst 1, 1) := by decide +kernel
theorem dX9_run_31 : decode cX9_run 31 = .ok (.isub, 1) := by decide +kernel
theorem dX9_run_32 : decode cX9_run 32 = .ok (.i2l, 1) := by decide +kernel
theorem dX9_run_33 : decode cX9_run 33 = .ok (.invokestatic 60, 3) := by decide +kernel
theorem dX9_run_36 : decode cX9_run 36 = .ok (.ifCond .eq 13, 3) := by decide +kernel
theorem dX9_run_39 : decode cX9_run 39 = .ok (.aload_n 0, 1) := by decide +kernel
theorem dX9_run_40 : decode cX9_run 40 = .ok (.getfield 28, 3) := by decide +kernel
theorem dX9_run_43 : decode cX9_run 43 = .ok (.iload 4, 2) := by decide +kernel
theorem dX9_run_45 : decode cX9_run 45 = .ok (.iaload, 1) := by decide +kernel
theorem dX9_run_46 : decode cX9_run 46 = .ok (.goto 5, 3) := by decide +kernel
theorem dX9_run_49 : decode cX9_run 49 = .ok (.bipush (-9), 2) := by decide +kernel
theorem dX9_run_51 : decode cX9_run 51 = .ok (.ireturn, 1) := by decide +kernel
theorem dX9_ends_0 : decode cX9_ends 0 = .ok (.iload_n 1, 1) := by decide +kernel
theorem dX9_ends_1 : decode cX9_ends 1 = .ok (.iload_n 2, 1) := by decide +kernel
theorem dX9_ends_2 : decode cX9_ends 2 = .ok (.iload_n 3, 1) := by decide +kernel
theorem dX9_ends_3 : decode cX9_ends 3 = .ok (.invokestatic 181, 3) := by decide +kernel
theorem dX9_ends_6 : decode cX9_ends 6 = .ok (.ifCond .eq 16, 3) := by decide +kernel
theorem dX9_ends_9 : decode cX9_ends 9 = .ok (.iload 4, 2) := by decide +kernel
theorem dX9_ends_11 : decode cX9_ends 11 = .ok (.i2l, 1) := by decide +kernel
theorem dX9_ends_12 : decode cX9_ends 12 = .ok (.lconst 0, 1) := by decide +kernel
theorem dX9_ends_13 : decode cX9_ends 13 = .ok (.ldc2_w 68, 3) := by decide +kernel
theorem dX9_ends_16 : decode cX9_ends 16 = .ok (.invokestatic 60, 3) := by decide +kernel
theorem dX9_ends_19 : decode cX9_ends 19 = .ok (.ifCond .ne 6, 3) := by decide +kernel
theorem dX9_ends_22 : decode cX9_ends 22 = .ok (.bipush (-2), 2) := by decide +kernel
theorem dX9_ends_24 : decode cX9_ends 24 = .ok (.ireturn, 1) := by decide +kernel
theorem dX9_ends_25 : decode cX9_ends 25 = .ok (.aload_n 0, 1) := by decide +kernel
theorem dX9_ends_26 : decode cX9_ends 26 = .ok (.iload_n 1, 1) := by decide +kernel
theorem dX9_ends_27 : decode cX9_ends 27 = .ok (.iload_n 2, 1) := by decide +kernel
theorem dX9_ends_28 : decode cX9_ends 28 = .ok (.iload_n 3, 1) := by decide +kernel
theorem dX9_ends_29 : decode cX9_ends 29 = .ok (.sipush 511, 3) := by decide +kernel
theorem dX9_ends_32 : decode cX9_ends 32 = .ok (.invokevirtual 185, 3) := by decide +kernel
theorem dX9_ends_35 : decode cX9_ends 35 = .ok (.iload 4, 2) := by decide +kernel
theorem dX9_ends_37 : decode cX9_ends 37 = .ok (.ifCond .ne 10, 3) := by decide +kernel
theorem dX9_ends_40 : decode cX9_ends 40 = .ok (.aload_n 0, 1) := by decide +kernel
theorem dX9_ends_41 : decode cX9_ends 41 = .ok (.getfield 171, 3) := by decide +kernel
theorem dX9_ends_44 : decode cX9_ends 44 = .ok (.goto 30, 3) := by decide +kernel
theorem dX9_ends_47 : decode cX9_ends 47 = .ok (.iload 4, 2) := by decide +kernel
theorem dX9_ends_49 : decode cX9_ends 49 = .ok (.iconst 1, 1) := by decide +kernel
theorem dX9_ends_50 : decode cX9_ends 50 = .ok (.if_icmp .ne 18, 3) := by decide +kernel
theorem dX9_ends_53 : decode cX9_ends 53 = .ok (.aload_n 0, 1) := by decide +kernel
theorem dX9_ends_54 : decode cX9_ends 54 = .ok (.getfield 174, 3) := by decide +kernel
theorem dX9_ends_57 : decode cX9_ends 57 = .ok (.ifCond .eq 7, 3) := by decide +kernel
theorem dX9_ends_60 : decode cX9_ends 60 = .ok (.iconst 1, 1) := by decide +kernel
theorem dX9_ends_61 : decode cX9_ends 61 = .ok (.goto 13, 3) := by decide +kernel
theorem dX9_ends_64 : decode cX9_ends 64 = .ok (.iconst 0, 1) := by decide +kernel
theorem dX9_ends_65 : decode cX9_ends 65 = .ok (.goto 9, 3) := by decide +kernel
theorem dX9_ends_68 : decode cX9_ends 68 = .ok (.aload_n 0, 1) := by decide +kernel
theorem dX9_ends_69 : decode cX9_ends 69 = .ok (.getfield 25, 3) := by decide +kernel
theorem dX9_ends_72 : decode cX9_ends 72 = .ok (.iconst 4, 1) := by decide +kernel
theorem dX9_ends_73 : decode cX9_ends 73 = .ok (.iaload, 1) := by decide +kernel
theorem dX9_ends_74 : decode cX9_ends 74 = .ok (.ireturn, 1) := by decide +kernel
theorem dX9_tellAll_0 : decode cX9_tellAll 0 = .ok (.iconst 0, 1) := by decide +kernel
theorem dX9_tellAll_1 : decode cX9_tellAll 1 = .ok (.istore_n 3, 1) := by decide +kernel
theorem dX9_tellAll_2 : decode cX9_tellAll 2 = .ok (.iload_n 3, 1) := by decide +kernel
theorem dX9_tellAll_3 : decode cX9_tellAll 3 = .ok (.bipush 100, 2) := by decide +kernel
theorem dX9_tellAll_5 : decode cX9_tellAll 5 = .ok (.if_icmp .ge 75, 3) := by decide +kernel
theorem dX9_tellAll_8 : decode cX9_tellAll 8 = .ok (.aload_n 0, 1) := by decide +kernel
theorem dX9_tellAll_9 : decode cX9_tellAll 9 = .ok (.iload_n 1, 1) := by decide +kernel
theorem dX9_tellAll_10 : decode cX9_tellAll 10 = .ok (.iload_n 3, 1) := by decide +kernel
theorem dX9_tellAll_11 : decode cX9_tellAll 11 = .ok (.bipush 10, 2) := by decide +kernel
theorem dX9_tellAll_13 : decode cX9_tellAll 13 = .ok (.idiv, 1) := by decide +kernel
theorem dX9_tellAll_14 : decode cX9_tellAll 14 = .ok (.iload_n 3, 1) := by decide +kernel
theorem dX9_tellAll_15 : decode cX9_tellAll 15 = .ok (.bipush 10, 2) := by decide +kernel
theorem dX9_tellAll_17 : decode cX9_tellAll 17 = .ok (.irem, 1) := by decide +kernel
theorem dX9_tellAll_18 : decode cX9_tellAll 18 = .ok (.iload_n 2, 1) := by decide +kernel
theorem dX9_tellAll_19 : decode cX9_tellAll 19 = .ok (.invokevirtual 185, 3) := by decide +kernel
theorem dX9_tellAll_22 : decode cX9_tellAll 22 = .ok (.aload_n 0, 1) := by decide +kernel
theorem dX9_tellAll_23 : decode cX9_tellAll 23 = .ok (.getfield 31, 3) := by decide +kernel
theorem dX9_tellAll_26 : decode cX9_tellAll 26 = .ok (.iload_n 3, 1) := by decide +kernel
theorem dX9_tellAll_27 : decode cX9_tellAll 27 = .ok (.lconst 0, 1) := by decide +kernel
theorem dX9_tellAll_28 : decode cX9_tellAll 28 = .ok (.lastore, 1) := by decide +kernel
theorem dX9_tellAll_29 : decode cX9_tellAll 29 = .ok (.iconst 0, 1) := by decide +kernel
theorem dX9_tellAll_30 : decode cX9_tellAll 30 = .ok (.istore 4, 2) := by decide +kernel
theorem dX9_tellAll_32 : decode cX9_tellAll 32 = .ok (.iload 4, 2) := by decide +kernel
theorem dX9_tellAll_34 : decode cX9_tellAll 34 = .ok (.aload_n 0, 1) := by decide +kernel
theorem dX9_tellAll_35 : decode cX9_tellAll 35 = .ok (.getfield 171, 3) := by decide +kernel
theorem dX9_tellAll_38 : decode cX9_tellAll 38 = .ok (.if_icmp .ge 36, 3) := by decide +kernel
theorem dX9_tellAll_41 : decode cX9_tellAll 41 = .ok (.aload_n 0, 1) := by decide +kernel
theorem dX9_tellAll_42 : decode cX9_tellAll 42 = .ok (.getfield 31, 3) := by decide +kernel
theorem dX9_tellAll_45 : decode cX9_tellAll 45 = .ok (.iload_n 3, 1) := by decide +kernel
theorem dX9_tellAll_46 : decode cX9_tellAll 46 = .ok (.ldc2_w 189, 3) := by decide +kernel
theorem dX9_tellAll_49 : decode cX9_tellAll 49 = .ok (.aload_n 0, 1) := by decide +kernel
theorem dX9_tellAll_50 : decode cX9_tellAll 50 = .ok (.getfield 31, 3) := by decide +kernel
theorem dX9_tellAll_53 : decode cX9_tellAll 53 = .ok (.iload_n 3, 1) := by decide +kernel
theorem dX9_tellAll_54 : decode cX9_tellAll 54 = .ok (.laload, 1) := by decide +kernel
theorem dX9_tellAll_55 : decode cX9_tellAll 55 = .ok (.lmul, 1) := by decide +kernel
theorem dX9_tellAll_56 : decode cX9_tellAll 56 = .ok (.aload_n 0, 1) := by decide +kernel
theorem dX9_tellAll_57 : decode cX9_tellAll 57 = .ok (.getfield 28, 3) := by decide +kernel
theorem dX9_tellAll_60 : decode cX9_tellAll 60 = .ok (.iload 4, 2) := by decide +kernel
theorem dX9_tellAll_62 : decode cX9_tellAll 62 = .ok (.iaload, 1) := by decide +kernel
theorem dX9_tellAll_63 : decode cX9_tellAll 63 = .ok (.i2l, 1) := by decide +kernel
theorem dX9_tellAll_64 : decode cX9_tellAll 64 = .ok (.ladd, 1) := by decide +kernel
theorem dX9_tellAll_65 : decode cX9_tellAll 65 = .ok (.lconst 1, 1) := by decide +kernel
theorem dX9_tellAll_66 : decode cX9_tellAll 66 = .ok (.ladd, 1) := by decide +kernel
theorem dX9_tellAll_67 : decode cX9_tellAll 67 = .ok (.lastore, 1) := by decide +kernel
theorem dX9_tellAll_68 : decode cX9_tellAll 68 = .ok (.iinc 4 1, 3) := by decide +kernel
theorem dX9_tellAll_71 : decode cX9_tellAll 71 = .ok (.goto (-39), 3) := by decide +kernel
theorem dX9_tellAll_74 : decode cX9_tellAll 74 = .ok (.iinc 3 1, 3) := by decide +kernel
theorem dX9_tellAll_77 : decode cX9_tellAll 77 = .ok (.goto (-75), 3) := by decide +kernel
theorem dX9_tellAll_80 : decode cX9_tellAll 80 = .ok (.return_, 1) := by decide +kernel
theorem dX9_firstUnlike_0 : decode cX9_firstUnlike 0 = .ok (.iconst 0, 1) := by decide +kernel
theorem dX9_firstUnlike_1 : decode cX9_firstUnlike 1 = .ok (.istore 4, 2) := by decide +kernel
theorem dX9_firstUnlike_3 : decode cX9_firstUnlike 3 = .ok (.iload 4, 2) := by decide +kernel
theorem dX9_firstUnlike_5 : decode cX9_firstUnlike 5 = .ok (.bipush 9, 2) := by decide +kernel
theorem dX9_firstUnlike_7 : decode cX9_firstUnlike 7 = .ok (.if_icmp .ge 45, 3) := by decide +kernel
theorem dX9_firstUnlike_10 : decode cX9_firstUnlike 10 = .ok (.aload_n 0, 1) := by decide +kernel
theorem dX9_firstUnlike_11 : decode cX9_firstUnlike 11 = .ok (.iload_n 1, 1) := by decide +kernel
theorem dX9_firstUnlike_12 : decode cX9_firstUnlike 12 = .ok (.iload_n 2, 1) := by decide +kernel
theorem dX9_firstUnlike_13 : decode cX9_firstUnlike 13 = .ok (.bipush 10, 2) := by decide +kernel
theorem dX9_firstUnlike_15 : decode cX9_firstUnlike 15 = .ok (.idiv, 1) := by decide +kernel
theorem dX9_firstUnlike_16 : decode cX9_firstUnlike 16 = .ok (.iload_n 2, 1) := by decide +kernel
theorem dX9_firstUnlike_17 : decode cX9_firstUnlike 17 = .ok (.bipush 10, 2) := by decide +kernel
theorem dX9_firstUnlike_19 : decode cX9_firstUnlike 19 = .ok (.irem, 1) := by decide +kernel
theorem dX9_firstUnlike_20 : decode cX9_firstUnlike 20 = .ok (.iload 4, 2) := by decide +kernel
