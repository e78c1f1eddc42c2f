theorem dX6_init_0 : decode cX6_init 0 = .ok (.aload_n 0, 1) := by decide +kernel
theorem dX6_init_1 : decode cX6_init 1 = .ok (.invokespecial 3, 3) := by decide +kernel
theorem dX6_init_4 : decode cX6_init 4 = .ok (.aload_n 0, 1) := by decide +kernel
theorem dX6_init_5 : decode cX6_init 5 = .ok (.iconst 0, 1) := by decide +kernel
theorem dX6_init_6 : decode cX6_init 6 = .ok (.putfield 9, 3) := by decide +kernel
theorem dX6_init_9 : decode cX6_init 9 = .ok (.aload_n 0, 1) := by decide +kernel
theorem dX6_init_10 : decode cX6_init 10 = .ok (.iconst 0, 1) := by decide +kernel
theorem dX6_init_11 : decode cX6_init 11 = .ok (.putfield 15, 3) := by decide +kernel
theorem dX6_init_14 : decode cX6_init 14 = .ok (.aload_n 0, 1) := by decide +kernel
theorem dX6_init_15 : decode cX6_init 15 = .ok (.iconst 5, 1) := by decide +kernel
theorem dX6_init_16 : decode cX6_init 16 = .ok (.newarray .int, 2) := by decide +kernel
theorem dX6_init_18 : decode cX6_init 18 = .ok (.putfield 19, 3) := by decide +kernel
theorem dX6_init_21 : decode cX6_init 21 = .ok (.aload_n 0, 1) := by decide +kernel
theorem dX6_init_22 : decode cX6_init 22 = .ok (.bipush 9, 2) := by decide +kernel
theorem dX6_init_24 : decode cX6_init 24 = .ok (.newarray .int, 2) := by decide +kernel
theorem dX6_init_26 : decode cX6_init 26 = .ok (.putfield 23, 3) := by decide +kernel
theorem dX6_init_29 : decode cX6_init 29 = .ok (.aload_n 0, 1) := by decide +kernel
theorem dX6_init_30 : decode cX6_init 30 = .ok (.bipush 9, 2) := by decide +kernel
theorem dX6_init_32 : decode cX6_init 32 = .ok (.newarray .int, 2) := by decide +kernel
theorem dX6_init_34 : decode cX6_init 34 = .ok (.putfield 26, 3) := by decide +kernel
theorem dX6_init_37 : decode cX6_init 37 = .ok (.return_, 1) := by decide +kernel
theorem dX6_go_0 : decode cX6_go 0 = .ok (.aload_n 0, 1) := by decide +kernel
theorem dX6_go_1 : decode cX6_go 1 = .ok (.getfield 19, 3) := by decide +kernel
theorem dX6_go_4 : decode cX6_go 4 = .ok (.iconst 0, 1) := by decide +kernel
theorem dX6_go_5 : decode cX6_go 5 = .ok (.iload_n 2, 1) := by decide +kernel
theorem dX6_go_6 : decode cX6_go 6 = .ok (.iastore, 1) := by decide +kernel
theorem dX6_go_7 : decode cX6_go 7 = .ok (.aload_n 0, 1) := by decide +kernel
theorem dX6_go_8 : decode cX6_go 8 = .ok (.getfield 19, 3) := by decide +kernel
theorem dX6_go_11 : decode cX6_go 11 = .ok (.iconst 1, 1) := by decide +kernel
theorem dX6_go_12 : decode cX6_go 12 = .ok (.iload_n 3, 1) := by decide +kernel
theorem dX6_go_13 : decode cX6_go 13 = .ok (.iastore, 1) := by decide +kernel
theorem dX6_go_14 : decode cX6_go 14 = .ok (.aload_n 0, 1) := by decide +kernel
theorem dX6_go_15 : decode cX6_go 15 = .ok (.getfield 19, 3) := by decide +kernel
theorem dX6_go_18 : decode cX6_go 18 = .ok (.iconst 2, 1) := by decide +kernel
theorem dX6_go_19 : decode cX6_go 19 = .ok (.iload 4, 2) := by decide +kernel
theorem dX6_go_21 : decode cX6_go 21 = .ok (.iastore, 1) := by decide +kernel
theorem dX6_go_22 : decode cX6_go 22 = .ok (.aload_n 0, 1) := by decide +kernel
theorem dX6_go_23 : decode cX6_go 23 = .ok (.getfield 19, 3) := by decide +kernel
theorem dX6_go_26 : decode cX6_go 26 = .ok (.iconst 3, 1) := by decide +kernel
theorem dX6_go_27 : decode cX6_go 27 = .ok (.iconst 0, 1) := by decide +kernel
theorem dX6_go_28 : decode cX6_go 28 = .ok (.iastore, 1) := by decide +kernel
theorem dX6_go_29 : decode cX6_go 29 = .ok (.aload_n 0, 1) := by decide +kernel
theorem dX6_go_30 : decode cX6_go 30 = .ok (.getfield 19, 3) := by decide +kernel
theorem dX6_go_33 : decode cX6_go 33 = .ok (.iconst 4, 1) := by decide +kernel
theorem dX6_go_34 : decode cX6_go 34 = .ok (.iconst 0, 1) := by decide +kernel
theorem dX6_go_35 : decode cX6_go 35 = .ok (.iastore, 1) := by decide +kernel
theorem dX6_go_36 : decode cX6_go 36 = .ok (.aload_n 0, 1) := by decide +kernel
theorem dX6_go_37 : decode cX6_go 37 = .ok (.iconst 0, 1) := by decide +kernel
theorem dX6_go_38 : decode cX6_go 38 = .ok (.putfield 9, 3) := by decide +kernel
theorem dX6_go_41 : decode cX6_go 41 = .ok (.aload_n 0, 1) := by decide +kernel
theorem dX6_go_42 : decode cX6_go 42 = .ok (.iconst 0, 1) := by decide +kernel
theorem dX6_go_43 : decode cX6_go 43 = .ok (.putfield 15, 3) := by decide +kernel
theorem dX6_go_46 : decode cX6_go 46 = .ok (.iconst 0, 1) := by decide +kernel
theorem dX6_go_47 : decode cX6_go 47 = .ok (.istore 5, 2) := by decide +kernel
theorem dX6_go_49 : decode cX6_go 49 = .ok (.iconst 0, 1) := by decide +kernel
theorem dX6_go_50 : decode cX6_go 50 = .ok (.istore 6, 2) := by decide +kernel
theorem dX6_go_52 : decode cX6_go 52 = .ok (.iload 6, 2) := by decide +kernel
theorem dX6_go_54 : decode cX6_go 54 = .ok (.bipush 9, 2) := by decide +kernel
theorem dX6_go_56 : decode cX6_go 56 = .ok (.if_icmp .ge 27, 3) := by decide +kernel
theorem dX6_go_59 : decode cX6_go 59 = .ok (.iload 5, 2) := by decide +kernel
theorem dX6_go_61 : decode cX6_go 61 = .ok (.aload_n 1, 1) := by decide +kernel
theorem dX6_go_62 : decode cX6_go 62 = .ok (.getfield 29, 3) := by decide +kernel
theorem dX6_go_65 : decode cX6_go 65 = .ok (.if_icmp .ge 18, 3) := by decide +kernel
theorem dX6_go_68 : decode cX6_go 68 = .ok (.aload_n 0, 1) := by decide +kernel
theorem dX6_go_69 : decode cX6_go 69 = .ok (.aload_n 1, 1) := by decide +kernel
theorem dX6_go_70 : decode cX6_go 70 = .ok (.iload 5, 2) := by decide +kernel
theorem dX6_go_72 : decode cX6_go 72 = .ok (.invokevirtual 34, 3) := by decide +kernel
theorem dX6_go_75 : decode cX6_go 75 = .ok (.istore 5, 2) := by decide +kernel
theorem dX6_go_77 : decode cX6_go 77 = .ok (.iinc 6 1, 3) := by decide +kernel
theorem dX6_go_80 : decode cX6_go 80 = .ok (.goto (-28), 3) := by decide +kernel
theorem dX6_go_83 : decode cX6_go 83 = .ok (.return_, 1) := by decide +kernel
theorem dX6_step_0 : decode cX6_step 0 = .ok (.aload_n 1, 1) := by decide +kernel
theorem dX6_step_1 : decode cX6_step 1 = .ok (.getfield 38, 3) := by decide +kernel
theorem dX6_step_4 : decode cX6_step 4 = .ok (.iload_n 2, 1) := by decide +kernel
theorem dX6_step_5 : decode cX6_step 5 = .ok (.aaload, 1) := by decide +kernel
theorem dX6_step_6 : decode cX6_step 6 = .ok (.astore_n 3, 1) := by decide +kernel
theorem dX6_step_7 : decode cX6_step 7 = .ok (.aload_n 3, 1) := by decide +kernel
theorem dX6_step_8 : decode cX6_step 8 = .ok (.iconst 1, 1) := by decide +kernel
theorem dX6_step_9 : decode cX6_step 9 = .ok (.iaload, 1) := by decide +kernel
theorem dX6_step_10 : decode cX6_step 10 = .ok (.istore 4, 2) := by decide +kernel
theorem dX6_step_12 : decode cX6_step 12 = .ok (.aload_n 3, 1) := by decide +kernel
theorem dX6_step_13 : decode cX6_step 13 = .ok (.iconst 0, 1) := by decide +kernel
theorem dX6_step_14 : decode cX6_step 14 = .ok (.iaload, 1) := by decide +kernel
theorem dX6_step_15 : decode cX6_step 15 = .ok (.tableswitch 205 0 5 #[37, 51, 82, 133, 155, 189], 37) := by decide +kernel
theorem dX6_step_52 : decode cX6_step 52 = .ok (.aload_n 0, 1) := by decide +kernel
theorem dX6_step_53 : decode cX6_step 53 = .ok (.getfield 19, 3) := by decide +kernel
theorem dX6_step_56 : decode cX6_step 56 = .ok (.iload 4, 2) := by decide +kernel
theorem dX6_step_58 : decode cX6_step 58 = .ok (.aload_n 3, 1) := by decide +kernel
theorem dX6_step_59 : decode cX6_step 59 = .ok (.iconst 2, 1) := by decide +kernel
theorem dX6_step_60 : decode cX6_step 60 = .ok (.iaload, 1) := by decide +kernel
theorem dX6_step_61 : decode cX6_step 61 = .ok (.iastore, 1) := by decide +kernel
theorem dX6_step_62 : decode cX6_step 62 = .ok (.iload_n 2, 1) := by decide +kernel
theorem dX6_step_63 : decode cX6_step 63 = .ok (.iconst 1, 1) := by decide +kernel
theorem dX6_step_64 : decode cX6_step 64 = .ok (.iadd, 1) := by decide +kernel
theorem dX6_step_65 : decode cX6_step 65 = .ok (.ireturn, 1) := by decide +kernel
theorem dX6_step_66 : decode cX6_step 66 = .ok (.aload_n 0, 1) := by decide +kernel
theorem dX6_step_67 : decode cX6_step 67 = .ok (.getfield 19, 3) := by decide +kernel
theorem dX6_step_70 : decode cX6_step 70 = .ok (.iload 4, 2) := by decide +kernel
theorem dX6_step_72 : decode cX6_step 72 = .ok (.aload_n 0, 1) := by decide +kernel
theorem dX6_step_73 : decode cX6_step 73 = .ok (.getfield 19, 3) := by decide +kernel
theorem dX6_step_76 : decode cX6_step 76 = .ok (.aload_n 3, 1) := by decide +kernel
theorem dX6_step_77 : decode cX6_step 77 = .ok (.iconst 2, 1) := by decide +kernel
theorem dX6_step_78 : decode cX6_step 78 = .ok (.iaload, 1) := by decide +kernel
theorem dX6_step_79 : decode cX6_step 79 = .ok (.iaload, 1) := by decide +kernel
theorem dX6_step_80 : decode cX6_step 80 = .ok (.aload_n 0, 1) := by decide +kernel
theorem dX6_step_81 : decode cX6_step 81 = .ok (.getfield 19, 3) := by decide +kernel
theorem dX6_step_84 : decode cX6_step 84 = .ok (.aload_n 3, 1) := by decide +kernel
theorem dX6_step_85 : decode cX6_step 85 = .ok (.iconst 3, 1) := by decide +kernel
theorem dX6_step_86 : decode cX6_step 86 = .ok (.iaload, 1) := by decide +kernel
theorem dX6_step_87 : decode cX6_step 87 = .ok (.iaload, 1) := by decide +kernel
theorem dX6_step_88 : decode cX6_step 88 = .ok (.iadd, 1) := by decide +kernel
theorem dX6_step_89 : decode cX6_step 89 = .ok (.bipush 10, 2) := by decide +kernel
theorem dX6_step_91 : decode cX6_step 91 = .ok (.irem, 1) := by decide +kernel
theorem dX6_step_92 : decode cX6_step 92 = .ok (.iastore, 1) := by decide +kernel
theorem dX6_step_93 : decode cX6_step 93 = .ok (.iload_n 2, 1) := by decide +kernel
theorem dX6_step_94 : decode cX6_step 94 = .ok (.iconst 1, 1) := by decide +kernel
theorem dX6_step_95 : decode cX6_step 95 = .ok (.iadd, 1) := by decide +kernel
theorem dX6_step_96 : decode cX6_step 96 = .ok (.ireturn, 1) := by decide +kernel
theorem dX6_step_97 : decode cX6_step 97 = .ok (.aload_n 0, 1) := by decide +kernel
theorem dX6_step_98 : decode cX6_step 98 = .ok (.getfield 19, 3) := by decide +kernel
theorem dX6_step_101 : decode cX6_step 101 = .ok (.aload_n 3, 1) := by decide +kernel
theorem dX6_step_102 : decode cX6_step 102 = .ok (.iconst 3, 1) := by decide +kernel
theorem dX6_step_103 : decode cX6_step 103 = .ok (.iaload, 1) := by decide +kernel
theorem dX6_step_104 : decode cX6_step 104 = .ok (.iaload, 1) := by decide +kernel
theorem dX6_step_105 : decode cX6_step 105 = .ok (.istore 5, 2) := by decide +kernel
theorem dX6_step_107 : decode cX6_step 107 = .ok (.iload 5, 2) := by decide +kernel
theorem dX6_step_109 : decode cX6_step 109 = .ok (.ifCond .ne 17, 3) := by decide +kernel
theorem dX6_step_112 : decode cX6_step 112 = .ok (.aload_n 0, 1) := by decide +kernel
theorem dX6_step_113 : decode cX6_step 113 = .ok (.iconst 1, 1) := by decide +kernel
theorem dX6_step_114 : decode cX6_step 114 = .ok (.aload_n 3, 1) := by decide +kernel
theorem dX6_step_115 : decode cX6_step 115 = .ok (.iconst 4, 1) := by decide +kernel
theorem dX6_step_116 : decode cX6_step 116 = .ok (.iaload, 1) := by decide +kernel
theorem dX6_step_117 : decode cX6_step 117 = .ok (.invokevirtual 42, 3) := by decide +kernel
theorem dX6_step_120 : decode cX6_step 120 = .ok (.aload_n 1, 1) := by decide +kernel
theorem dX6_step_121 : decode cX6_step 121 = .ok (.iload_n 2, 1) := by decide +kernel
theorem dX6_step_122 : decode cX6_step 122 = .ok (.invokevirtual 46, 3) := by decide +kernel
theorem dX6_step_125 : decode cX6_step 125 = .ok (.ireturn, 1) := by decide +kernel
theorem dX6_step_126 : decode cX6_step 126 = .ok (.aload_n 0, 1) := by decide +kernel
theorem dX6_step_127 : decode cX6_step 127 = .ok (.getfield 19, 3) := by decide +kernel
theorem dX6_step_130 : decode cX6_step 130 = .ok (.iload 4, 2) := by decide +kernel
theorem dX6_step_132 : decode cX6_step 132 = .ok (.aload_n 0, 1) := by decide +kernel
theorem dX6_step_133 : decode cX6_step 133 = .ok (.getfield 19, 3) := by decide +kernel
theorem dX6_step_136 : decode cX6_step 136 = .ok (.aload_n 3, 1) := by decide +kernel
theorem dX6_step_137 : decode cX6_step 137 = .ok (.iconst 2, 1) := by decide +kernel
theorem dX6_step_138 : decode cX6_step 138 = .ok (.iaload, 1) := by decide +kernel
theorem dX6_step_139 : decode cX6_step 139 = .ok (.iaload, 1) := by decide +kernel
theorem dX6_step_140 : decode cX6_step 140 = .ok (.iload 5, 2) := by decide +kernel
theorem dX6_step_142 : decode cX6_step 142 = .ok (.idiv, 1) := by decide +kernel
theorem dX6_step_143 : decode cX6_step 143 = .ok (.iastore, 1) := by decide +kernel
theorem dX6_step_144 : decode cX6_step 144 = .ok (.iload_n 2, 1) := by decide +kernel
theorem dX6_step_145 : decode cX6_step 145 = .ok (.iconst 1, 1) := by decide +kernel
theorem dX6_step_146 : decode cX6_step 146 = .ok (.iadd, 1) := by decide +kernel
theorem dX6_step_147 : decode cX6_step 147 = .ok (.ireturn, 1) := by decide +kernel
theorem dX6_step_148 : decode cX6_step 148 = .ok (.aload_n 0, 1) := by decide +kernel
theorem dX6_step_149 : decode cX6_step 149 = .ok (.getfield 19, 3) := by decide +kernel
theorem dX6_step_152 : decode cX6_step 152 = .ok (.iload 4, 2) := by decide +kernel
theorem dX6_step_154 : decode cX6_step 154 = .ok (.iaload, 1) := by decide +kernel
theorem dX6_step_155 : decode cX6_step 155 = .ok (.ifCond .eq 11, 3) := by decide +kernel
theorem dX6_step_158 : decode cX6_step 158 = .ok (.aload_n 1, 1) := by decide +kernel
theorem dX6_step_159 : decode cX6_step 159 = .ok (.iload_n 2, 1) := by decide +kernel
theorem dX6_step_160 : decode cX6_step 160 = .ok (.invokevirtual 46, 3) := by decide +kernel
theorem dX6_step_163 : decode cX6_step 163 = .ok (.goto 6, 3) := by decide +kernel
theorem dX6_step_166 : decode cX6_step 166 = .ok (.iload_n 2, 1) := by decide +kernel
theorem dX6_step_167 : decode cX6_step 167 = .ok (.iconst 1, 1) := by decide +kernel
theorem dX6_step_168 : decode cX6_step 168 = .ok (.iadd, 1) := by decide +kernel
theorem dX6_step_169 : decode cX6_step 169 = .ok (.ireturn, 1) := by decide +kernel
theorem dX6_step_170 : decode cX6_step 170 = .ok (.aload_n 0, 1) := by decide +kernel
theorem dX6_step_171 : decode cX6_step 171 = .ok (.getfield 19, 3) := by decide +kernel
theorem dX6_step_174 : decode cX6_step 174 = .ok (.iload 4, 2) := by decide +kernel
theorem dX6_step_176 : decode cX6_step 176 = .ok (.iaload, 1) := by decide +kernel
theorem dX6_step_177 : decode cX6_step 177 = .ok (.ifCond .ne 7, 3) := by decide +kernel
theorem dX6_step_180 : decode cX6_step 180 = .ok (.iload_n 2, 1) := by decide +kernel
theorem dX6_step_181 : decode cX6_step 181 = .ok (.iconst 1, 1) := by decide +kernel
theorem dX6_step_182 : decode cX6_step 182 = .ok (.iadd, 1) := by decide +kernel
theorem dX6_step_183 : decode cX6_step 183 = .ok (.ireturn, 1) := by decide +kernel
theorem dX6_step_184 : decode cX6_step 184 = .ok (.aload_n 0, 1) := by decide +kernel
theorem dX6_step_185 : decode cX6_step 185 = .ok (.aload_n 0, 1) := by decide +kernel
theorem dX6_step_186 : decode cX6_step 186 = .ok (.getfield 19, 3) := by decide +kernel
theorem dX6_step_189 : decode cX6_step 189 = .ok (.iload 4, 2) := by decide +kernel
theorem dX6_step_191 : decode cX6_step 191 = .ok (.iaload, 1) := by decide +kernel
theorem dX6_step_192 : decode cX6_step 192 = .ok (.aload_n 3, 1) := by decide +kernel
theorem dX6_step_193 : decode cX6_step 193 = .ok (.iconst 4, 1) := by decide +kernel
theorem dX6_step_194 : decode cX6_step 194 = .ok (.iaload, 1) := by decide +kernel
theorem dX6_step_195 : decode cX6_step 195 = .ok (.invokevirtual 42, 3) := by decide +kernel
theorem dX6_step_198 : decode cX6_step 198 = .ok (.aload_n 1, 1) := by decide +kernel
theorem dX6_step_199 : decode cX6_step 199 = .ok (.iload_n 2, 1) := by decide +kernel
theorem dX6_step_200 : decode cX6_step 200 = .ok (.invokevirtual 46, 3) := by decide +kernel
theorem dX6_step_203 : decode cX6_step 203 = .ok (.ireturn, 1) := by decide +kernel
theorem dX6_step_204 : decode cX6_step 204 = .ok (.aload_n 0, 1) := by decide +kernel
theorem dX6_step_205 : decode cX6_step 205 = .ok (.iload_n 2, 1) := by decide +kernel
theorem dX6_step_206 : decode cX6_step 206 = .ok (.aload_n 0, 1) := by decide +kernel
theorem dX6_step_207 : decode cX6_step 207 = .ok (.getfield 19, 3) := by decide +kernel
theorem dX6_step_210 : decode cX6_step 210 = .ok (.iload 4, 2) := by decide +kernel
theorem dX6_step_212 : decode cX6_step 212 = .ok (.iaload, 1) := by decide +kernel
theorem dX6_step_213 : decode cX6_step 213 = .ok (.invokevirtual 50, 3) := by decide +kernel
theorem dX6_step_216 : decode cX6_step 216 = .ok (.iload_n 2, 1) := by decide +kernel
theorem dX6_step_217 : decode cX6_step 217 = .ok (.iconst 1, 1) := by decide +kernel
theorem dX6_step_218 : decode cX6_step 218 = .ok (.iadd, 1) := by decide +kernel
theorem dX6_step_219 : decode cX6_step 219 = .ok (.ireturn, 1) := by decide +kernel
theorem dX6_step_220 : decode cX6_step 220 = .ok (.iload_n 2, 1) := by decide +kernel
theorem dX6_step_221 : decode cX6_step 221 = .ok (.iconst 1, 1) := by decide +kernel
theorem dX6_step_222 : decode cX6_step 222 = .ok (.iadd, 1) := by decide +kernel
theorem dX6_step_223 : decode cX6_step 223 = .ok (.ireturn, 1) := by decide +kernel
theorem dX6_beThrown_0 : decode cX6_beThrown 0 = .ok (.aload_n 0, 1) := by decide +kernel
theorem dX6_beThrown_1 : decode cX6_beThrown 1 = .ok (.getfield 19, 3) := by decide +kernel
theorem dX6_beThrown_4 : decode cX6_beThrown 4 = .ok (.iconst 4, 1) := by decide +kernel
theorem dX6_beThrown_5 : decode cX6_beThrown 5 = .ok (.iload_n 1, 1) := by decide +kernel
theorem dX6_beThrown_6 : decode cX6_beThrown 6 = .ok (.iastore, 1) := by decide +kernel
theorem dX6_beThrown_7 : decode cX6_beThrown 7 = .ok (.aload_n 0, 1) := by decide +kernel
theorem dX6_beThrown_8 : decode cX6_beThrown 8 = .ok (.iload_n 2, 1) := by decide +kernel
theorem dX6_beThrown_9 : decode cX6_beThrown 9 = .ok (.iconst (-1), 1) := by decide +kernel
theorem dX6_beThrown_10 : decode cX6_beThrown 10 = .ok (.if_icmp .ne 7, 3) := by decide +kernel
theorem dX6_beThrown_13 : decode cX6_beThrown 13 = .ok (.iconst 1, 1) := by decide +kernel
theorem dX6_beThrown_14 : decode cX6_beThrown 14 = .ok (.goto 4, 3) := by decide +kernel
theorem dX6_beThrown_17 : decode cX6_beThrown 17 = .ok (.iconst 0, 1) := by decide +kernel
theorem dX6_beThrown_18 : decode cX6_beThrown 18 = .ok (.putfield 15, 3) := by decide +kernel
theorem dX6_beThrown_21 : decode cX6_beThrown 21 = .ok (.return_, 1) := by decide +kernel
theorem dX6_speak_0 : decode cX6_speak 0 = .ok (.aload_n 0, 1) := by decide +kernel
theorem dX6_speak_1 : decode cX6_speak 1 = .ok (.getfield 9, 3) := by decide +kernel
theorem dX6_speak_4 : decode cX6_speak 4 = .ok (.bipush 9, 2) := by decide +kernel
theorem dX6_speak_6 : decode cX6_speak 6 = .ok (.if_icmp .ge 33, 3) := by decide +kernel
theorem dX6_speak_9 : decode cX6_speak 9 = .ok (.aload_n 0, 1) := by decide +kernel
theorem dX6_speak_10 : decode cX6_speak 10 = .ok (.getfield 23, 3) := by decide +kernel
theorem dX6_speak_13 : decode cX6_speak 13 = .ok (.aload_n 0, 1) := by decide +kernel
theorem dX6_speak_14 : decode cX6_speak 14 = .ok (.getfield 9, 3) := by decide +kernel
theorem dX6_speak_17 : decode cX6_speak 17 = .ok (.iload_n 2, 1) := by decide +kernel
theorem dX6_speak_18 : decode cX6_speak 18 = .ok (.iastore, 1) := by decide +kernel
theorem dX6_speak_19 : decode cX6_speak 19 = .ok (.aload_n 0, 1) := by decide +kernel
theorem dX6_speak_20 : decode cX6_speak 20 = .ok (.getfield 26, 3) := by decide +kernel
theorem dX6_speak_23 : decode cX6_speak 23 = .ok (.aload_n 0, 1) := by decide +kernel
theorem dX6_speak_24 : decode cX6_speak 24 = .ok (.getfield 9, 3) := by decide +kernel
theorem dX6_speak_27 : decode cX6_speak 27 = .ok (.iload_n 1, 1) := by decide +kernel
theorem dX6_speak_28 : decode cX6_speak 28 = .ok (.iastore, 1) := by decide +kernel
theorem dX6_speak_29 : decode cX6_speak 29 = .ok (.aload_n 0, 1) := by decide +kernel
theorem dX6_speak_30 : decode cX6_speak 30 = .ok (.dup, 1) := by decide +kernel
theorem dX6_speak_31 : decode cX6_speak 31 = .ok (.getfield 9, 3) := by decide +kernel
theorem dX6_speak_34 : decode cX6_speak 34 = .ok (.iconst 1, 1) := by decide +kernel
theorem dX6_speak_35 : decode cX6_speak 35 = .ok (.iadd, 1) := by decide +kernel
theorem dX6_speak_36 : decode cX6_speak 36 = .ok (.putfield 9, 3) := by decide +kernel
theorem dX6_speak_39 : decode cX6_speak 39 = .ok (.return_, 1) := by decide +kernel
theorem dX6_spoken_0 : decode cX6_spoken 0 = .ok (.iload_n 1, 1) := by decide +kernel
theorem dX6_spoken_1 : decode cX6_spoken 1 = .ok (.aload_n 0, 1) := by decide +kernel
theorem dX6_spoken_2 : decode cX6_spoken 2 = .ok (.getfield 9, 3) := by decide +kernel
theorem dX6_spoken_5 : decode cX6_spoken 5 = .ok (.invokestatic 53, 3) := by decide +kernel
theorem dX6_spoken_8 : decode cX6_spoken 8 = .ok (.ifCond .eq 12, 3) := by decide +kernel
theorem dX6_spoken_11 : decode cX6_spoken 11 = .ok (.aload_n 0, 1) := by decide +kernel
theorem dX6_spoken_12 : decode cX6_spoken 12 = .ok (.getfield 23, 3) := by decide +kernel
theorem dX6_spoken_15 : decode cX6_spoken 15 = .ok (.iload_n 1, 1) := by decide +kernel
theorem dX6_spoken_16 : decode cX6_spoken 16 = .ok (.iaload, 1) := by decide +kernel
theorem dX6_spoken_17 : decode cX6_spoken 17 = .ok (.goto 5, 3) := by decide +kernel
theorem dX6_spoken_20 : decode cX6_spoken 20 = .ok (.bipush (-9), 2) := by decide +kernel
theorem dX6_spoken_22 : decode cX6_spoken 22 = .ok (.ireturn, 1) := by decide +kernel
theorem dX6_sumOfSpoken_0 : decode cX6_sumOfSpoken 0 = .ok (.iconst 0, 1) := by decide +kernel
theorem dX6_sumOfSpoken_1 : decode cX6_sumOfSpoken 1 = .ok (.istore_n 1, 1) := by decide +kernel
theorem dX6_sumOfSpoken_2 : decode cX6_sumOfSpoken 2 = .ok (.iconst 0, 1) := by decide +kernel
theorem dX6_sumOfSpoken_3 : decode cX6_sumOfSpoken 3 = .ok (.istore_n 2, 1) := by decide +kernel
theorem dX6_sumOfSpoken_4 : decode cX6_sumOfSpoken 4 = .ok (.iload_n 2, 1) := by decide +kernel
theorem dX6_sumOfSpoken_5 : decode cX6_sumOfSpoken 5 = .ok (.aload_n 0, 1) := by decide +kernel
theorem dX6_sumOfSpoken_6 : decode cX6_sumOfSpoken 6 = .ok (.getfield 9, 3) := by decide +kernel
theorem dX6_sumOfSpoken_9 : decode cX6_sumOfSpoken 9 = .ok (.if_icmp .ge 18, 3) := by decide +kernel
theorem dX6_sumOfSpoken_12 : decode cX6_sumOfSpoken 12 = .ok (.iload_n 1, 1) := by decide +kernel
theorem dX6_sumOfSpoken_13 : decode cX6_sumOfSpoken 13 = .ok (.aload_n 0, 1) := by decide +kernel
theorem dX6_sumOfSpoken_14 : decode cX6_sumOfSpoken 14 = .ok (.getfield 23, 3) := by decide +kernel
theorem dX6_sumOfSpoken_17 : decode cX6_sumOfSpoken 17 = .ok (.iload_n 2, 1) := by decide +kernel
theorem dX6_sumOfSpoken_18 : decode cX6_sumOfSpoken 18 = .ok (.iaload, 1) := by decide +kernel
theorem dX6_sumOfSpoken_19 : decode cX6_sumOfSpoken 19 = .ok (.iadd, 1) := by decide +kernel
theorem dX6_sumOfSpoken_20 : decode cX6_sumOfSpoken 20 = .ok (.istore_n 1, 1) := by decide +kernel
theorem dX6_sumOfSpoken_21 : decode cX6_sumOfSpoken 21 = .ok (.iinc 2 1, 3) := by decide +kernel
theorem dX6_sumOfSpoken_24 : decode cX6_sumOfSpoken 24 = .ok (.goto (-20), 3) := by decide +kernel
theorem dX6_sumOfSpoken_27 : decode cX6_sumOfSpoken 27 = .ok (.iload_n 1, 1) := by decide +kernel
theorem dX6_sumOfSpoken_28 : decode cX6_sumOfSpoken 28 = .ok (.ireturn, 1) := by decide +kernel
theorem dX6_firstUnlike_0 : decode cX6_firstUnlike 0 = .ok (.aload_n 0, 1) := by decide +kernel
theorem dX6_firstUnlike_1 : decode cX6_firstUnlike 1 = .ok (.getfield 9, 3) := by decide +kernel
theorem dX6_firstUnlike_4 : decode cX6_firstUnlike 4 = .ok (.aload_n 1, 1) := by decide +kernel
theorem dX6_firstUnlike_5 : decode cX6_firstUnlike 5 = .ok (.getfield 9, 3) := by decide +kernel
theorem dX6_firstUnlike_8 : decode cX6_firstUnlike 8 = .ok (.invokestatic 57, 3) := by decide +kernel
theorem dX6_firstUnlike_11 : decode cX6_firstUnlike 11 = .ok (.istore_n 2, 1) := by decide +kernel
theorem dX6_firstUnlike_12 : decode cX6_firstUnlike 12 = .ok (.iconst 0, 1) := by decide +kernel
theorem dX6_firstUnlike_13 : decode cX6_firstUnlike 13 = .ok (.istore_n 3, 1) := by decide +kernel
theorem dX6_firstUnlike_14 : decode cX6_firstUnlike 14 = .ok (.iload_n 3, 1) := by decide +kernel
theorem dX6_firstUnlike_15 : decode cX6_firstUnlike 15 = .ok (.iload_n 2, 1) := by decide +kernel
theorem dX6_firstUnlike_16 : decode cX6_firstUnlike 16 = .ok (.if_icmp .ge 24, 3) := by decide +kernel
theorem dX6_firstUnlike_19 : decode cX6_firstUnlike 19 = .ok (.aload_n 0, 1) := by decide +kernel
theorem dX6_firstUnlike_20 : decode cX6_firstUnlike 20 = .ok (.iload_n 3, 1) := by decide +kernel
theorem dX6_firstUnlike_21 : decode cX6_firstUnlike 21 = .ok (.invokevirtual 63, 3) := by decide +kernel
theorem dX6_firstUnlike_24 : decode cX6_firstUnlike 24 = .ok (.aload_n 1, 1) := by decide +kernel
theorem dX6_firstUnlike_25 : decode cX6_firstUnlike 25 = .ok (.iload_n 3, 1) := by decide +kernel
theorem dX6_firstUnlike_26 : decode cX6_firstUnlike 26 = .ok (.invokevirtual 63, 3) := by decide +kernel
theorem dX6_firstUnlike_29 : decode cX6_firstUnlike 29 = .ok (.if_icmp .eq 5, 3) := by decide +kernel
theorem dX6_firstUnlike_32 : decode cX6_firstUnlike 32 = .ok (.iload_n 3, 1) := by decide +kernel
theorem dX6_firstUnlike_33 : decode cX6_firstUnlike 33 = .ok (.ireturn, 1) := by decide +kernel
theorem dX6_firstUnlike_34 : decode cX6_firstUnlike 34 = .ok (.iinc 3 1, 3) := by decide +kernel
theorem dX6_firstUnlike_37 : decode cX6_firstUnlike 37 = .ok (.goto (-23), 3) := by decide +kernel
theorem dX6_firstUnlike_40 : decode cX6_firstUnlike 40 = .ok (.bipush (-9), 2) := by decide +kernel
theorem dX6_firstUnlike_42 : decode cX6_firstUnlike 42 = .ok (.ireturn, 1) := by decide +kernel
