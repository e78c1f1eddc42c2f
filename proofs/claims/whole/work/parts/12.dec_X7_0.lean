theorem dX7_init_0 : decode cX7_init 0 = .ok (.aload_n 0, 1) := by decide +kernel
theorem dX7_init_1 : decode cX7_init 1 = .ok (.invokespecial 3, 3) := by decide +kernel
theorem dX7_init_4 : decode cX7_init 4 = .ok (.aload_n 0, 1) := by decide +kernel
theorem dX7_init_5 : decode cX7_init 5 = .ok (.iconst 0, 1) := by decide +kernel
theorem dX7_init_6 : decode cX7_init 6 = .ok (.putfield 9, 3) := by decide +kernel
theorem dX7_init_9 : decode cX7_init 9 = .ok (.aload_n 0, 1) := by decide +kernel
theorem dX7_init_10 : decode cX7_init 10 = .ok (.bipush 48, 2) := by decide +kernel
theorem dX7_init_12 : decode cX7_init 12 = .ok (.newarray .int, 2) := by decide +kernel
theorem dX7_init_14 : decode cX7_init 14 = .ok (.putfield 15, 3) := by decide +kernel
theorem dX7_init_17 : decode cX7_init 17 = .ok (.return_, 1) := by decide +kernel
theorem dX7_add_0 : decode cX7_add 0 = .ok (.aload_n 0, 1) := by decide +kernel
theorem dX7_add_1 : decode cX7_add 1 = .ok (.getfield 9, 3) := by decide +kernel
theorem dX7_add_4 : decode cX7_add 4 = .ok (.bipush 48, 2) := by decide +kernel
theorem dX7_add_6 : decode cX7_add 6 = .ok (.if_icmp .lt 5, 3) := by decide +kernel
theorem dX7_add_9 : decode cX7_add 9 = .ok (.iconst 0, 1) := by decide +kernel
theorem dX7_add_10 : decode cX7_add 10 = .ok (.ireturn, 1) := by decide +kernel
theorem dX7_add_11 : decode cX7_add 11 = .ok (.aload_n 0, 1) := by decide +kernel
theorem dX7_add_12 : decode cX7_add 12 = .ok (.getfield 15, 3) := by decide +kernel
theorem dX7_add_15 : decode cX7_add 15 = .ok (.aload_n 0, 1) := by decide +kernel
theorem dX7_add_16 : decode cX7_add 16 = .ok (.getfield 9, 3) := by decide +kernel
theorem dX7_add_19 : decode cX7_add 19 = .ok (.iload_n 1, 1) := by decide +kernel
theorem dX7_add_20 : decode cX7_add 20 = .ok (.iastore, 1) := by decide +kernel
theorem dX7_add_21 : decode cX7_add 21 = .ok (.aload_n 0, 1) := by decide +kernel
theorem dX7_add_22 : decode cX7_add 22 = .ok (.dup, 1) := by decide +kernel
theorem dX7_add_23 : decode cX7_add 23 = .ok (.getfield 9, 3) := by decide +kernel
theorem dX7_add_26 : decode cX7_add 26 = .ok (.iconst 1, 1) := by decide +kernel
theorem dX7_add_27 : decode cX7_add 27 = .ok (.iadd, 1) := by decide +kernel
theorem dX7_add_28 : decode cX7_add 28 = .ok (.putfield 9, 3) := by decide +kernel
theorem dX7_add_31 : decode cX7_add 31 = .ok (.iconst 1, 1) := by decide +kernel
theorem dX7_add_32 : decode cX7_add 32 = .ok (.ireturn, 1) := by decide +kernel
theorem dX7_readInto_0 : decode cX7_readInto 0 = .ok (.aload_n 1, 1) := by decide +kernel
theorem dX7_readInto_1 : decode cX7_readInto 1 = .ok (.invokevirtual 19, 3) := by decide +kernel
theorem dX7_readInto_4 : decode cX7_readInto 4 = .ok (.aload_n 0, 1) := by decide +kernel
theorem dX7_readInto_5 : decode cX7_readInto 5 = .ok (.getfield 9, 3) := by decide +kernel
theorem dX7_readInto_8 : decode cX7_readInto 8 = .ok (.ifCond .eq 14, 3) := by decide +kernel
theorem dX7_readInto_11 : decode cX7_readInto 11 = .ok (.aload_n 0, 1) := by decide +kernel
theorem dX7_readInto_12 : decode cX7_readInto 12 = .ok (.getfield 15, 3) := by decide +kernel
theorem dX7_readInto_15 : decode cX7_readInto 15 = .ok (.iconst 0, 1) := by decide +kernel
theorem dX7_readInto_16 : decode cX7_readInto 16 = .ok (.iaload, 1) := by decide +kernel
theorem dX7_readInto_17 : decode cX7_readInto 17 = .ok (.bipush 81, 2) := by decide +kernel
theorem dX7_readInto_19 : decode cX7_readInto 19 = .ok (.if_icmp .eq 5, 3) := by decide +kernel
theorem dX7_readInto_22 : decode cX7_readInto 22 = .ok (.iconst 0, 1) := by decide +kernel
theorem dX7_readInto_23 : decode cX7_readInto 23 = .ok (.ireturn, 1) := by decide +kernel
theorem dX7_readInto_24 : decode cX7_readInto 24 = .ok (.iconst 0, 1) := by decide +kernel
theorem dX7_readInto_25 : decode cX7_readInto 25 = .ok (.istore_n 2, 1) := by decide +kernel
theorem dX7_readInto_26 : decode cX7_readInto 26 = .ok (.iconst 0, 1) := by decide +kernel
theorem dX7_readInto_27 : decode cX7_readInto 27 = .ok (.istore_n 3, 1) := by decide +kernel
theorem dX7_readInto_28 : decode cX7_readInto 28 = .ok (.iconst 1, 1) := by decide +kernel
theorem dX7_readInto_29 : decode cX7_readInto 29 = .ok (.istore 4, 2) := by decide +kernel
theorem dX7_readInto_31 : decode cX7_readInto 31 = .ok (.iload 4, 2) := by decide +kernel
theorem dX7_readInto_33 : decode cX7_readInto 33 = .ok (.aload_n 0, 1) := by decide +kernel
theorem dX7_readInto_34 : decode cX7_readInto 34 = .ok (.getfield 9, 3) := by decide +kernel
theorem dX7_readInto_37 : decode cX7_readInto 37 = .ok (.if_icmp .ge 134, 3) := by decide +kernel
theorem dX7_readInto_40 : decode cX7_readInto 40 = .ok (.iload_n 2, 1) := by decide +kernel
theorem dX7_readInto_41 : decode cX7_readInto 41 = .ok (.ifCond .ne 25, 3) := by decide +kernel
theorem dX7_readInto_44 : decode cX7_readInto 44 = .ok (.aload_n 1, 1) := by decide +kernel
theorem dX7_readInto_45 : decode cX7_readInto 45 = .ok (.aload_n 0, 1) := by decide +kernel
theorem dX7_readInto_46 : decode cX7_readInto 46 = .ok (.getfield 15, 3) := by decide +kernel
theorem dX7_readInto_49 : decode cX7_readInto 49 = .ok (.iload 4, 2) := by decide +kernel
theorem dX7_readInto_51 : decode cX7_readInto 51 = .ok (.iaload, 1) := by decide +kernel
theorem dX7_readInto_52 : decode cX7_readInto 52 = .ok (.invokestatic 24, 3) := by decide +kernel
theorem dX7_readInto_55 : decode cX7_readInto 55 = .ok (.ifCond .ne 6, 3) := by decide +kernel
theorem dX7_readInto_58 : decode cX7_readInto 58 = .ok (.iload 4, 2) := by decide +kernel
theorem dX7_readInto_60 : decode cX7_readInto 60 = .ok (.ireturn, 1) := by decide +kernel
theorem dX7_readInto_61 : decode cX7_readInto 61 = .ok (.iconst 1, 1) := by decide +kernel
theorem dX7_readInto_62 : decode cX7_readInto 62 = .ok (.istore_n 2, 1) := by decide +kernel
theorem dX7_readInto_63 : decode cX7_readInto 63 = .ok (.goto 102, 3) := by decide +kernel
theorem dX7_readInto_66 : decode cX7_readInto 66 = .ok (.aload_n 1, 1) := by decide +kernel
theorem dX7_readInto_67 : decode cX7_readInto 67 = .ok (.getfield 28, 3) := by decide +kernel
theorem dX7_readInto_70 : decode cX7_readInto 70 = .ok (.aload_n 1, 1) := by decide +kernel
theorem dX7_readInto_71 : decode cX7_readInto 71 = .ok (.getfield 32, 3) := by decide +kernel
theorem dX7_readInto_74 : decode cX7_readInto 74 = .ok (.aaload, 1) := by decide +kernel
theorem dX7_readInto_75 : decode cX7_readInto 75 = .ok (.astore 5, 2) := by decide +kernel
theorem dX7_readInto_77 : decode cX7_readInto 77 = .ok (.aload 5, 2) := by decide +kernel
theorem dX7_readInto_79 : decode cX7_readInto 79 = .ok (.iconst 0, 1) := by decide +kernel
theorem dX7_readInto_80 : decode cX7_readInto 80 = .ok (.iaload, 1) := by decide +kernel
theorem dX7_readInto_81 : decode cX7_readInto 81 = .ok (.iload_n 2, 1) := by decide +kernel
theorem dX7_readInto_82 : decode cX7_readInto 82 = .ok (.aload_n 0, 1) := by decide +kernel
theorem dX7_readInto_83 : decode cX7_readInto 83 = .ok (.getfield 15, 3) := by decide +kernel
theorem dX7_readInto_86 : decode cX7_readInto 86 = .ok (.iload 4, 2) := by decide +kernel
theorem dX7_readInto_88 : decode cX7_readInto 88 = .ok (.iaload, 1) := by decide +kernel
theorem dX7_readInto_89 : decode cX7_readInto 89 = .ok (.invokestatic 33, 3) := by decide +kernel
theorem dX7_readInto_92 : decode cX7_readInto 92 = .ok (.istore 6, 2) := by decide +kernel
theorem dX7_readInto_94 : decode cX7_readInto 94 = .ok (.aload 5, 2) := by decide +kernel
theorem dX7_readInto_96 : decode cX7_readInto 96 = .ok (.iconst 0, 1) := by decide +kernel
theorem dX7_readInto_97 : decode cX7_readInto 97 = .ok (.iaload, 1) := by decide +kernel
theorem dX7_readInto_98 : decode cX7_readInto 98 = .ok (.iload_n 2, 1) := by decide +kernel
theorem dX7_readInto_99 : decode cX7_readInto 99 = .ok (.iload 6, 2) := by decide +kernel
theorem dX7_readInto_101 : decode cX7_readInto 101 = .ok (.aload_n 1, 1) := by decide +kernel
theorem dX7_readInto_102 : decode cX7_readInto 102 = .ok (.getfield 32, 3) := by decide +kernel
theorem dX7_readInto_105 : decode cX7_readInto 105 = .ok (.bipush 9, 2) := by decide +kernel
theorem dX7_readInto_107 : decode cX7_readInto 107 = .ok (.invokestatic 37, 3) := by decide +kernel
theorem dX7_readInto_110 : decode cX7_readInto 110 = .ok (.ifCond .ne 6, 3) := by decide +kernel
theorem dX7_readInto_113 : decode cX7_readInto 113 = .ok (.iload 4, 2) := by decide +kernel
theorem dX7_readInto_115 : decode cX7_readInto 115 = .ok (.ireturn, 1) := by decide +kernel
theorem dX7_readInto_116 : decode cX7_readInto 116 = .ok (.aload 5, 2) := by decide +kernel
theorem dX7_readInto_118 : decode cX7_readInto 118 = .ok (.iload_n 2, 1) := by decide +kernel
theorem dX7_readInto_119 : decode cX7_readInto 119 = .ok (.iload 6, 2) := by decide +kernel
theorem dX7_readInto_121 : decode cX7_readInto 121 = .ok (.iastore, 1) := by decide +kernel
theorem dX7_readInto_122 : decode cX7_readInto 122 = .ok (.iload_n 2, 1) := by decide +kernel
theorem dX7_readInto_123 : decode cX7_readInto 123 = .ok (.iconst 4, 1) := by decide +kernel
theorem dX7_readInto_124 : decode cX7_readInto 124 = .ok (.if_icmp .ne 12, 3) := by decide +kernel
theorem dX7_readInto_127 : decode cX7_readInto 127 = .ok (.iload_n 3, 1) := by decide +kernel
theorem dX7_readInto_128 : decode cX7_readInto 128 = .ok (.iload 6, 2) := by decide +kernel
theorem dX7_readInto_130 : decode cX7_readInto 130 = .ok (.invokestatic 41, 3) := by decide +kernel
theorem dX7_readInto_133 : decode cX7_readInto 133 = .ok (.goto 4, 3) := by decide +kernel
theorem dX7_readInto_136 : decode cX7_readInto 136 = .ok (.iload_n 3, 1) := by decide +kernel
theorem dX7_readInto_137 : decode cX7_readInto 137 = .ok (.istore_n 3, 1) := by decide +kernel
theorem dX7_readInto_138 : decode cX7_readInto 138 = .ok (.aload 5, 2) := by decide +kernel
theorem dX7_readInto_140 : decode cX7_readInto 140 = .ok (.iconst 0, 1) := by decide +kernel
theorem dX7_readInto_141 : decode cX7_readInto 141 = .ok (.iaload, 1) := by decide +kernel
theorem dX7_readInto_142 : decode cX7_readInto 142 = .ok (.iload_n 2, 1) := by decide +kernel
theorem dX7_readInto_143 : decode cX7_readInto 143 = .ok (.invokestatic 47, 3) := by decide +kernel
theorem dX7_readInto_146 : decode cX7_readInto 146 = .ok (.istore_n 2, 1) := by decide +kernel
theorem dX7_readInto_147 : decode cX7_readInto 147 = .ok (.aload_n 1, 1) := by decide +kernel
theorem dX7_readInto_148 : decode cX7_readInto 148 = .ok (.dup, 1) := by decide +kernel
theorem dX7_readInto_149 : decode cX7_readInto 149 = .ok (.getfield 32, 3) := by decide +kernel
theorem dX7_readInto_152 : decode cX7_readInto 152 = .ok (.iload_n 2, 1) := by decide +kernel
theorem dX7_readInto_153 : decode cX7_readInto 153 = .ok (.ifCond .ne 7, 3) := by decide +kernel
theorem dX7_readInto_156 : decode cX7_readInto 156 = .ok (.iconst 1, 1) := by decide +kernel
theorem dX7_readInto_157 : decode cX7_readInto 157 = .ok (.goto 4, 3) := by decide +kernel
theorem dX7_readInto_160 : decode cX7_readInto 160 = .ok (.iconst 0, 1) := by decide +kernel
theorem dX7_readInto_161 : decode cX7_readInto 161 = .ok (.iadd, 1) := by decide +kernel
theorem dX7_readInto_162 : decode cX7_readInto 162 = .ok (.putfield 32, 3) := by decide +kernel
theorem dX7_readInto_165 : decode cX7_readInto 165 = .ok (.iinc 4 1, 3) := by decide +kernel
theorem dX7_readInto_168 : decode cX7_readInto 168 = .ok (.goto (-137), 3) := by decide +kernel
theorem dX7_readInto_171 : decode cX7_readInto 171 = .ok (.iload_n 2, 1) := by decide +kernel
theorem dX7_readInto_172 : decode cX7_readInto 172 = .ok (.ifCond .ne 16, 3) := by decide +kernel
theorem dX7_readInto_175 : decode cX7_readInto 175 = .ok (.iload_n 3, 1) := by decide +kernel
theorem dX7_readInto_176 : decode cX7_readInto 176 = .ok (.aload_n 1, 1) := by decide +kernel
theorem dX7_readInto_177 : decode cX7_readInto 177 = .ok (.getfield 32, 3) := by decide +kernel
theorem dX7_readInto_180 : decode cX7_readInto 180 = .ok (.if_icmp .gt 8, 3) := by decide +kernel
theorem dX7_readInto_183 : decode cX7_readInto 183 = .ok (.bipush (-9), 2) := by decide +kernel
theorem dX7_readInto_185 : decode cX7_readInto 185 = .ok (.goto 7, 3) := by decide +kernel
theorem dX7_readInto_188 : decode cX7_readInto 188 = .ok (.aload_n 0, 1) := by decide +kernel
theorem dX7_readInto_189 : decode cX7_readInto 189 = .ok (.getfield 9, 3) := by decide +kernel
theorem dX7_readInto_192 : decode cX7_readInto 192 = .ok (.ireturn, 1) := by decide +kernel
theorem dX7_begin_0 : decode cX7_begin 0 = .ok (.ldc 50, 2) := by decide +kernel
theorem dX7_begin_2 : decode cX7_begin 2 = .ok (.iload_n 1, 1) := by decide +kernel
theorem dX7_begin_3 : decode cX7_begin 3 = .ok (.i2c, 1) := by decide +kernel
theorem dX7_begin_4 : decode cX7_begin 4 = .ok (.invokevirtual 52, 3) := by decide +kernel
theorem dX7_begin_7 : decode cX7_begin 7 = .ok (.istore_n 2, 1) := by decide +kernel
theorem dX7_begin_8 : decode cX7_begin 8 = .ok (.iload_n 2, 1) := by decide +kernel
theorem dX7_begin_9 : decode cX7_begin 9 = .ok (.ifCond .lt 12, 3) := by decide +kernel
theorem dX7_begin_12 : decode cX7_begin 12 = .ok (.aload_n 0, 1) := by decide +kernel
theorem dX7_begin_13 : decode cX7_begin 13 = .ok (.getfield 32, 3) := by decide +kernel
theorem dX7_begin_16 : decode cX7_begin 16 = .ok (.bipush 9, 2) := by decide +kernel
theorem dX7_begin_18 : decode cX7_begin 18 = .ok (.if_icmp .lt 5, 3) := by decide +kernel
theorem dX7_begin_21 : decode cX7_begin 21 = .ok (.iconst 0, 1) := by decide +kernel
theorem dX7_begin_22 : decode cX7_begin 22 = .ok (.ireturn, 1) := by decide +kernel
theorem dX7_begin_23 : decode cX7_begin 23 = .ok (.aload_n 0, 1) := by decide +kernel
theorem dX7_begin_24 : decode cX7_begin 24 = .ok (.getfield 28, 3) := by decide +kernel
theorem dX7_begin_27 : decode cX7_begin 27 = .ok (.aload_n 0, 1) := by decide +kernel
theorem dX7_begin_28 : decode cX7_begin 28 = .ok (.getfield 32, 3) := by decide +kernel
theorem dX7_begin_31 : decode cX7_begin 31 = .ok (.aaload, 1) := by decide +kernel
theorem dX7_begin_32 : decode cX7_begin 32 = .ok (.bipush (-9), 2) := by decide +kernel
theorem dX7_begin_34 : decode cX7_begin 34 = .ok (.invokestatic 58, 3) := by decide +kernel
theorem dX7_begin_37 : decode cX7_begin 37 = .ok (.aload_n 0, 1) := by decide +kernel
theorem dX7_begin_38 : decode cX7_begin 38 = .ok (.getfield 28, 3) := by decide +kernel
theorem dX7_begin_41 : decode cX7_begin 41 = .ok (.aload_n 0, 1) := by decide +kernel
theorem dX7_begin_42 : decode cX7_begin 42 = .ok (.getfield 32, 3) := by decide +kernel
theorem dX7_begin_45 : decode cX7_begin 45 = .ok (.aaload, 1) := by decide +kernel
theorem dX7_begin_46 : decode cX7_begin 46 = .ok (.iconst 0, 1) := by decide +kernel
theorem dX7_begin_47 : decode cX7_begin 47 = .ok (.iload_n 2, 1) := by decide +kernel
theorem dX7_begin_48 : decode cX7_begin 48 = .ok (.iastore, 1) := by decide +kernel
theorem dX7_begin_49 : decode cX7_begin 49 = .ok (.iconst 1, 1) := by decide +kernel
theorem dX7_begin_50 : decode cX7_begin 50 = .ok (.ireturn, 1) := by decide +kernel
theorem dX7_valueOf_0 : decode cX7_valueOf 0 = .ok (.iload_n 1, 1) := by decide +kernel
theorem dX7_valueOf_1 : decode cX7_valueOf 1 = .ok (.iconst 4, 1) := by decide +kernel
theorem dX7_valueOf_2 : decode cX7_valueOf 2 = .ok (.if_icmp .ne 11, 3) := by decide +kernel
theorem dX7_valueOf_5 : decode cX7_valueOf 5 = .ok (.iload_n 2, 1) := by decide +kernel
theorem dX7_valueOf_6 : decode cX7_valueOf 6 = .ok (.bipush 46, 2) := by decide +kernel
theorem dX7_valueOf_8 : decode cX7_valueOf 8 = .ok (.if_icmp .ne 5, 3) := by decide +kernel
theorem dX7_valueOf_11 : decode cX7_valueOf 11 = .ok (.iconst (-1), 1) := by decide +kernel
theorem dX7_valueOf_12 : decode cX7_valueOf 12 = .ok (.ireturn, 1) := by decide +kernel
theorem dX7_valueOf_13 : decode cX7_valueOf 13 = .ok (.iload_n 1, 1) := by decide +kernel
theorem dX7_valueOf_14 : decode cX7_valueOf 14 = .ok (.iconst 4, 1) := by decide +kernel
theorem dX7_valueOf_15 : decode cX7_valueOf 15 = .ok (.if_icmp .eq 12, 3) := by decide +kernel
theorem dX7_valueOf_18 : decode cX7_valueOf 18 = .ok (.iload_n 1, 1) := by decide +kernel
theorem dX7_valueOf_19 : decode cX7_valueOf 19 = .ok (.iconst 2, 1) := by decide +kernel
theorem dX7_valueOf_20 : decode cX7_valueOf 20 = .ok (.if_icmp .ne 11, 3) := by decide +kernel
theorem dX7_valueOf_23 : decode cX7_valueOf 23 = .ok (.iload_n 0, 1) := by decide +kernel
theorem dX7_valueOf_24 : decode cX7_valueOf 24 = .ok (.ifCond .ne 7, 3) := by decide +kernel
theorem dX7_valueOf_27 : decode cX7_valueOf 27 = .ok (.iconst 1, 1) := by decide +kernel
theorem dX7_valueOf_28 : decode cX7_valueOf 28 = .ok (.goto 4, 3) := by decide +kernel
theorem dX7_valueOf_31 : decode cX7_valueOf 31 = .ok (.iconst 0, 1) := by decide +kernel
theorem dX7_valueOf_32 : decode cX7_valueOf 32 = .ok (.istore_n 3, 1) := by decide +kernel
theorem dX7_valueOf_33 : decode cX7_valueOf 33 = .ok (.iload_n 2, 1) := by decide +kernel
theorem dX7_valueOf_34 : decode cX7_valueOf 34 = .ok (.iload_n 3, 1) := by decide +kernel
theorem dX7_valueOf_35 : decode cX7_valueOf 35 = .ok (.ifCond .eq 8, 3) := by decide +kernel
theorem dX7_valueOf_38 : decode cX7_valueOf 38 = .ok (.bipush 48, 2) := by decide +kernel
theorem dX7_valueOf_40 : decode cX7_valueOf 40 = .ok (.goto 5, 3) := by decide +kernel
theorem dX7_valueOf_43 : decode cX7_valueOf 43 = .ok (.bipush 97, 2) := by decide +kernel
theorem dX7_valueOf_45 : decode cX7_valueOf 45 = .ok (.isub, 1) := by decide +kernel
theorem dX7_valueOf_46 : decode cX7_valueOf 46 = .ok (.istore 4, 2) := by decide +kernel
theorem dX7_valueOf_48 : decode cX7_valueOf 48 = .ok (.iload 4, 2) := by decide +kernel
theorem dX7_valueOf_50 : decode cX7_valueOf 50 = .ok (.bipush 10, 2) := by decide +kernel
theorem dX7_valueOf_52 : decode cX7_valueOf 52 = .ok (.invokestatic 64, 3) := by decide +kernel
theorem dX7_valueOf_55 : decode cX7_valueOf 55 = .ok (.ifCond .eq 8, 3) := by decide +kernel
theorem dX7_valueOf_58 : decode cX7_valueOf 58 = .ok (.iload 4, 2) := by decide +kernel
theorem dX7_valueOf_60 : decode cX7_valueOf 60 = .ok (.goto 5, 3) := by decide +kernel
theorem dX7_valueOf_63 : decode cX7_valueOf 63 = .ok (.bipush (-2), 2) := by decide +kernel
theorem dX7_valueOf_65 : decode cX7_valueOf 65 = .ok (.ireturn, 1) := by decide +kernel
theorem dX7_partBehind_0 : decode cX7_partBehind 0 = .ok (.iload_n 1, 1) := by decide +kernel
theorem dX7_partBehind_1 : decode cX7_partBehind 1 = .ok (.iconst 1, 1) := by decide +kernel
theorem dX7_partBehind_2 : decode cX7_partBehind 2 = .ok (.iadd, 1) := by decide +kernel
theorem dX7_partBehind_3 : decode cX7_partBehind 3 = .ok (.istore_n 2, 1) := by decide +kernel
theorem dX7_partBehind_4 : decode cX7_partBehind 4 = .ok (.iload_n 2, 1) := by decide +kernel
theorem dX7_partBehind_5 : decode cX7_partBehind 5 = .ok (.iconst 5, 1) := by decide +kernel
theorem dX7_partBehind_6 : decode cX7_partBehind 6 = .ok (.if_icmp .ge 19, 3) := by decide +kernel
theorem dX7_partBehind_9 : decode cX7_partBehind 9 = .ok (.iload_n 0, 1) := by decide +kernel
theorem dX7_partBehind_10 : decode cX7_partBehind 10 = .ok (.iload_n 2, 1) := by decide +kernel
theorem dX7_partBehind_11 : decode cX7_partBehind 11 = .ok (.invokestatic 68, 3) := by decide +kernel
theorem dX7_partBehind_14 : decode cX7_partBehind 14 = .ok (.ifCond .eq 5, 3) := by decide +kernel
theorem dX7_partBehind_17 : decode cX7_partBehind 17 = .ok (.iload_n 2, 1) := by decide +kernel
theorem dX7_partBehind_18 : decode cX7_partBehind 18 = .ok (.ireturn, 1) := by decide +kernel
theorem dX7_partBehind_19 : decode cX7_partBehind 19 = .ok (.iinc 2 1, 3) := by decide +kernel
theorem dX7_partBehind_22 : decode cX7_partBehind 22 = .ok (.goto (-18), 3) := by decide +kernel
theorem dX7_partBehind_25 : decode cX7_partBehind 25 = .ok (.iconst 0, 1) := by decide +kernel
theorem dX7_partBehind_26 : decode cX7_partBehind 26 = .ok (.ireturn, 1) := by decide +kernel
