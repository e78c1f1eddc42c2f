theorem dX9_init_0 : decode cX9_init 0 = .ok (.aload_n 0, 1) := by decide +kernel
theorem dX9_init_1 : decode cX9_init 1 = .ok (.invokespecial 1, 3) := by decide +kernel
theorem dX9_init_4 : decode cX9_init 4 = .ok (.aload_n 0, 1) := by decide +kernel
theorem dX9_init_5 : decode cX9_init 5 = .ok (.bipush 96, 2) := by decide +kernel
theorem dX9_init_7 : decode cX9_init 7 = .ok (.newarray .int, 2) := by decide +kernel
theorem dX9_init_9 : decode cX9_init 9 = .ok (.putfield 7, 3) := by decide +kernel
theorem dX9_init_12 : decode cX9_init 12 = .ok (.aload_n 0, 1) := by decide +kernel
theorem dX9_init_13 : decode cX9_init 13 = .ok (.bipush 48, 2) := by decide +kernel
theorem dX9_init_15 : decode cX9_init 15 = .ok (.newarray .int, 2) := by decide +kernel
theorem dX9_init_17 : decode cX9_init 17 = .ok (.putfield 13, 3) := by decide +kernel
theorem dX9_init_20 : decode cX9_init 20 = .ok (.aload_n 0, 1) := by decide +kernel
theorem dX9_init_21 : decode cX9_init 21 = .ok (.bipush 50, 2) := by decide +kernel
theorem dX9_init_23 : decode cX9_init 23 = .ok (.newarray .int, 2) := by decide +kernel
theorem dX9_init_25 : decode cX9_init 25 = .ok (.putfield 16, 3) := by decide +kernel
theorem dX9_init_28 : decode cX9_init 28 = .ok (.aload_n 0, 1) := by decide +kernel
theorem dX9_init_29 : decode cX9_init 29 = .ok (.bipush 10, 2) := by decide +kernel
theorem dX9_init_31 : decode cX9_init 31 = .ok (.newarray .int, 2) := by decide +kernel
theorem dX9_init_33 : decode cX9_init 33 = .ok (.putfield 19, 3) := by decide +kernel
theorem dX9_init_36 : decode cX9_init 36 = .ok (.aload_n 0, 1) := by decide +kernel
theorem dX9_init_37 : decode cX9_init 37 = .ok (.sipush 672, 3) := by decide +kernel
theorem dX9_init_40 : decode cX9_init 40 = .ok (.newarray .int, 2) := by decide +kernel
theorem dX9_init_42 : decode cX9_init 42 = .ok (.putfield 22, 3) := by decide +kernel
theorem dX9_init_45 : decode cX9_init 45 = .ok (.aload_n 0, 1) := by decide +kernel
theorem dX9_init_46 : decode cX9_init 46 = .ok (.iconst 5, 1) := by decide +kernel
theorem dX9_init_47 : decode cX9_init 47 = .ok (.newarray .int, 2) := by decide +kernel
theorem dX9_init_49 : decode cX9_init 49 = .ok (.putfield 25, 3) := by decide +kernel
theorem dX9_init_52 : decode cX9_init 52 = .ok (.aload_n 0, 1) := by decide +kernel
theorem dX9_init_53 : decode cX9_init 53 = .ok (.bipush 9, 2) := by decide +kernel
theorem dX9_init_55 : decode cX9_init 55 = .ok (.newarray .int, 2) := by decide +kernel
theorem dX9_init_57 : decode cX9_init 57 = .ok (.putfield 28, 3) := by decide +kernel
theorem dX9_init_60 : decode cX9_init 60 = .ok (.aload_n 0, 1) := by decide +kernel
theorem dX9_init_61 : decode cX9_init 61 = .ok (.bipush 100, 2) := by decide +kernel
theorem dX9_init_63 : decode cX9_init 63 = .ok (.newarray .long, 2) := by decide +kernel
theorem dX9_init_65 : decode cX9_init 65 = .ok (.putfield 31, 3) := by decide +kernel
theorem dX9_init_68 : decode cX9_init 68 = .ok (.aload_n 0, 1) := by decide +kernel
theorem dX9_init_69 : decode cX9_init 69 = .ok (.bipush 6, 2) := by decide +kernel
theorem dX9_init_71 : decode cX9_init 71 = .ok (.newarray .int, 2) := by decide +kernel
theorem dX9_init_73 : decode cX9_init 73 = .ok (.putfield 35, 3) := by decide +kernel
theorem dX9_init_76 : decode cX9_init 76 = .ok (.aload_n 0, 1) := by decide +kernel
theorem dX9_init_77 : decode cX9_init 77 = .ok (.bipush 6, 2) := by decide +kernel
theorem dX9_init_79 : decode cX9_init 79 = .ok (.newarray .int, 2) := by decide +kernel
theorem dX9_init_81 : decode cX9_init 81 = .ok (.putfield 38, 3) := by decide +kernel
theorem dX9_init_84 : decode cX9_init 84 = .ok (.aload_n 0, 1) := by decide +kernel
theorem dX9_init_85 : decode cX9_init 85 = .ok (.bipush 6, 2) := by decide +kernel
theorem dX9_init_87 : decode cX9_init 87 = .ok (.newarray .int, 2) := by decide +kernel
theorem dX9_init_89 : decode cX9_init 89 = .ok (.putfield 41, 3) := by decide +kernel
theorem dX9_init_92 : decode cX9_init 92 = .ok (.aload_n 0, 1) := by decide +kernel
theorem dX9_init_93 : decode cX9_init 93 = .ok (.bipush 6, 2) := by decide +kernel
theorem dX9_init_95 : decode cX9_init 95 = .ok (.newarray .int, 2) := by decide +kernel
theorem dX9_init_97 : decode cX9_init 97 = .ok (.putfield 44, 3) := by decide +kernel
theorem dX9_init_100 : decode cX9_init 100 = .ok (.aload_n 0, 1) := by decide +kernel
theorem dX9_init_101 : decode cX9_init 101 = .ok (.iconst 2, 1) := by decide +kernel
theorem dX9_init_102 : decode cX9_init 102 = .ok (.newarray .boolean, 2) := by decide +kernel
theorem dX9_init_104 : decode cX9_init 104 = .ok (.putfield 47, 3) := by decide +kernel
theorem dX9_init_107 : decode cX9_init 107 = .ok (.aload_n 0, 1) := by decide +kernel
theorem dX9_init_108 : decode cX9_init 108 = .ok (.bipush 96, 2) := by decide +kernel
theorem dX9_init_110 : decode cX9_init 110 = .ok (.newarray .int, 2) := by decide +kernel
theorem dX9_init_112 : decode cX9_init 112 = .ok (.putfield 51, 3) := by decide +kernel
theorem dX9_init_115 : decode cX9_init 115 = .ok (.aload_n 0, 1) := by decide +kernel
theorem dX9_init_116 : decode cX9_init 116 = .ok (.getfield 7, 3) := by decide +kernel
theorem dX9_init_119 : decode cX9_init 119 = .ok (.bipush 46, 2) := by decide +kernel
theorem dX9_init_121 : decode cX9_init 121 = .ok (.iconst 1, 1) := by decide +kernel
theorem dX9_init_122 : decode cX9_init 122 = .ok (.iastore, 1) := by decide +kernel
theorem dX9_init_123 : decode cX9_init 123 = .ok (.aload_n 0, 1) := by decide +kernel
theorem dX9_init_124 : decode cX9_init 124 = .ok (.getfield 7, 3) := by decide +kernel
theorem dX9_init_127 : decode cX9_init 127 = .ok (.bipush 47, 2) := by decide +kernel
theorem dX9_init_129 : decode cX9_init 129 = .ok (.iconst 2, 1) := by decide +kernel
theorem dX9_init_130 : decode cX9_init 130 = .ok (.iastore, 1) := by decide +kernel
theorem dX9_init_131 : decode cX9_init 131 = .ok (.aload_n 0, 1) := by decide +kernel
theorem dX9_init_132 : decode cX9_init 132 = .ok (.iconst 0, 1) := by decide +kernel
theorem dX9_init_133 : decode cX9_init 133 = .ok (.invokevirtual 54, 3) := by decide +kernel
theorem dX9_init_136 : decode cX9_init 136 = .ok (.return_, 1) := by decide +kernel
theorem dX9_in_0 : decode cX9_in 0 = .ok (.lload_n 0, 1) := by decide +kernel
theorem dX9_in_1 : decode cX9_in 1 = .ok (.lload_n 2, 1) := by decide +kernel
theorem dX9_in_2 : decode cX9_in 2 = .ok (.lcmp, 1) := by decide +kernel
theorem dX9_in_3 : decode cX9_in 3 = .ok (.ifCond .lt 14, 3) := by decide +kernel
theorem dX9_in_6 : decode cX9_in 6 = .ok (.lload_n 0, 1) := by decide +kernel
theorem dX9_in_7 : decode cX9_in 7 = .ok (.lload 4, 2) := by decide +kernel
theorem dX9_in_9 : decode cX9_in 9 = .ok (.lcmp, 1) := by decide +kernel
theorem dX9_in_10 : decode cX9_in 10 = .ok (.ifCond .gt 7, 3) := by decide +kernel
theorem dX9_in_13 : decode cX9_in 13 = .ok (.iconst 1, 1) := by decide +kernel
theorem dX9_in_14 : decode cX9_in 14 = .ok (.goto 4, 3) := by decide +kernel
theorem dX9_in_17 : decode cX9_in 17 = .ok (.iconst 0, 1) := by decide +kernel
theorem dX9_in_18 : decode cX9_in 18 = .ok (.ireturn, 1) := by decide +kernel
theorem dX9_has_0 : decode cX9_has 0 = .ok (.iload_n 0, 1) := by decide +kernel
theorem dX9_has_1 : decode cX9_has 1 = .ok (.iload_n 1, 1) := by decide +kernel
theorem dX9_has_2 : decode cX9_has 2 = .ok (.ishr, 1) := by decide +kernel
theorem dX9_has_3 : decode cX9_has 3 = .ok (.iconst 1, 1) := by decide +kernel
theorem dX9_has_4 : decode cX9_has 4 = .ok (.iand, 1) := by decide +kernel
theorem dX9_has_5 : decode cX9_has 5 = .ok (.iconst 1, 1) := by decide +kernel
theorem dX9_has_6 : decode cX9_has 6 = .ok (.if_icmp .ne 7, 3) := by decide +kernel
theorem dX9_has_9 : decode cX9_has 9 = .ok (.iconst 1, 1) := by decide +kernel
theorem dX9_has_10 : decode cX9_has 10 = .ok (.goto 4, 3) := by decide +kernel
theorem dX9_has_13 : decode cX9_has 13 = .ok (.iconst 0, 1) := by decide +kernel
theorem dX9_has_14 : decode cX9_has 14 = .ok (.ireturn, 1) := by decide +kernel
theorem dX9_ones_0 : decode cX9_ones 0 = .ok (.iconst 0, 1) := by decide +kernel
theorem dX9_ones_1 : decode cX9_ones 1 = .ok (.istore_n 1, 1) := by decide +kernel
theorem dX9_ones_2 : decode cX9_ones 2 = .ok (.iconst 0, 1) := by decide +kernel
theorem dX9_ones_3 : decode cX9_ones 3 = .ok (.istore_n 2, 1) := by decide +kernel
theorem dX9_ones_4 : decode cX9_ones 4 = .ok (.iload_n 2, 1) := by decide +kernel
theorem dX9_ones_5 : decode cX9_ones 5 = .ok (.bipush 9, 2) := by decide +kernel
theorem dX9_ones_7 : decode cX9_ones 7 = .ok (.if_icmp .ge 17, 3) := by decide +kernel
theorem dX9_ones_10 : decode cX9_ones 10 = .ok (.iload_n 1, 1) := by decide +kernel
theorem dX9_ones_11 : decode cX9_ones 11 = .ok (.iload_n 0, 1) := by decide +kernel
theorem dX9_ones_12 : decode cX9_ones 12 = .ok (.iload_n 2, 1) := by decide +kernel
theorem dX9_ones_13 : decode cX9_ones 13 = .ok (.ishr, 1) := by decide +kernel
theorem dX9_ones_14 : decode cX9_ones 14 = .ok (.iconst 1, 1) := by decide +kernel
theorem dX9_ones_15 : decode cX9_ones 15 = .ok (.iand, 1) := by decide +kernel
theorem dX9_ones_16 : decode cX9_ones 16 = .ok (.iadd, 1) := by decide +kernel
theorem dX9_ones_17 : decode cX9_ones 17 = .ok (.istore_n 1, 1) := by decide +kernel
theorem dX9_ones_18 : decode cX9_ones 18 = .ok (.iinc 2 1, 3) := by decide +kernel
theorem dX9_ones_21 : decode cX9_ones 21 = .ok (.goto (-17), 3) := by decide +kernel
theorem dX9_ones_24 : decode cX9_ones 24 = .ok (.iload_n 1, 1) := by decide +kernel
theorem dX9_ones_25 : decode cX9_ones 25 = .ok (.ireturn, 1) := by decide +kernel
theorem dX9_write_0 : decode cX9_write 0 = .ok (.iload_n 1, 1) := by decide +kernel
theorem dX9_write_1 : decode cX9_write 1 = .ok (.i2l, 1) := by decide +kernel
theorem dX9_write_2 : decode cX9_write 2 = .ok (.lconst 0, 1) := by decide +kernel
theorem dX9_write_3 : decode cX9_write 3 = .ok (.ldc2_w 58, 3) := by decide +kernel
theorem dX9_write_6 : decode cX9_write 6 = .ok (.invokestatic 60, 3) := by decide +kernel
theorem dX9_write_9 : decode cX9_write 9 = .ok (.ifCond .ne 6, 3) := by decide +kernel
theorem dX9_write_12 : decode cX9_write 12 = .ok (.bipush (-2), 2) := by decide +kernel
theorem dX9_write_14 : decode cX9_write 14 = .ok (.ireturn, 1) := by decide +kernel
theorem dX9_write_15 : decode cX9_write 15 = .ok (.aload_n 0, 1) := by decide +kernel
theorem dX9_write_16 : decode cX9_write 16 = .ok (.getfield 64, 3) := by decide +kernel
theorem dX9_write_19 : decode cX9_write 19 = .ok (.bipush 48, 2) := by decide +kernel
theorem dX9_write_21 : decode cX9_write 21 = .ok (.if_icmp .ne 6, 3) := by decide +kernel
theorem dX9_write_24 : decode cX9_write 24 = .ok (.bipush (-4), 2) := by decide +kernel
theorem dX9_write_26 : decode cX9_write 26 = .ok (.ireturn, 1) := by decide +kernel
theorem dX9_write_27 : decode cX9_write 27 = .ok (.aload_n 0, 1) := by decide +kernel
theorem dX9_write_28 : decode cX9_write 28 = .ok (.getfield 13, 3) := by decide +kernel
theorem dX9_write_31 : decode cX9_write 31 = .ok (.aload_n 0, 1) := by decide +kernel
theorem dX9_write_32 : decode cX9_write 32 = .ok (.getfield 64, 3) := by decide +kernel
theorem dX9_write_35 : decode cX9_write 35 = .ok (.iload_n 1, 1) := by decide +kernel
theorem dX9_write_36 : decode cX9_write 36 = .ok (.iastore, 1) := by decide +kernel
theorem dX9_write_37 : decode cX9_write 37 = .ok (.aload_n 0, 1) := by decide +kernel
theorem dX9_write_38 : decode cX9_write 38 = .ok (.dup, 1) := by decide +kernel
theorem dX9_write_39 : decode cX9_write 39 = .ok (.getfield 64, 3) := by decide +kernel
theorem dX9_write_42 : decode cX9_write 42 = .ok (.iconst 1, 1) := by decide +kernel
theorem dX9_write_43 : decode cX9_write 43 = .ok (.iadd, 1) := by decide +kernel
theorem dX9_write_44 : decode cX9_write 44 = .ok (.putfield 64, 3) := by decide +kernel
theorem dX9_write_47 : decode cX9_write 47 = .ok (.aload_n 0, 1) := by decide +kernel
theorem dX9_write_48 : decode cX9_write 48 = .ok (.getfield 64, 3) := by decide +kernel
theorem dX9_write_51 : decode cX9_write 51 = .ok (.ireturn, 1) := by decide +kernel
theorem dX9_wipe_0 : decode cX9_wipe 0 = .ok (.aload_n 0, 1) := by decide +kernel
theorem dX9_wipe_1 : decode cX9_wipe 1 = .ok (.getfield 64, 3) := by decide +kernel
theorem dX9_wipe_4 : decode cX9_wipe 4 = .ok (.istore_n 1, 1) := by decide +kernel
theorem dX9_wipe_5 : decode cX9_wipe 5 = .ok (.aload_n 0, 1) := by decide +kernel
theorem dX9_wipe_6 : decode cX9_wipe 6 = .ok (.iconst 0, 1) := by decide +kernel
theorem dX9_wipe_7 : decode cX9_wipe 7 = .ok (.putfield 64, 3) := by decide +kernel
theorem dX9_wipe_10 : decode cX9_wipe 10 = .ok (.iload_n 1, 1) := by decide +kernel
theorem dX9_wipe_11 : decode cX9_wipe 11 = .ok (.ireturn, 1) := by decide +kernel
theorem dX9_kindOf_0 : decode cX9_kindOf 0 = .ok (.iload_n 0, 1) := by decide +kernel
theorem dX9_kindOf_1 : decode cX9_kindOf 1 = .ok (.tableswitch 114 66 86 #[105, 114, 111, 114, 114, 114, 114, 114, 114, 99, 114, 114, 114, 109, 114, 114, 114, 101, 107, 114, 103], 99) := by decide +kernel
theorem dX9_kindOf_100 : decode cX9_kindOf 100 = .ok (.iconst 0, 1) := by decide +kernel
theorem dX9_kindOf_101 : decode cX9_kindOf 101 = .ok (.ireturn, 1) := by decide +kernel
theorem dX9_kindOf_102 : decode cX9_kindOf 102 = .ok (.iconst 1, 1) := by decide +kernel
theorem dX9_kindOf_103 : decode cX9_kindOf 103 = .ok (.ireturn, 1) := by decide +kernel
theorem dX9_kindOf_104 : decode cX9_kindOf 104 = .ok (.iconst 2, 1) := by decide +kernel
theorem dX9_kindOf_105 : decode cX9_kindOf 105 = .ok (.ireturn, 1) := by decide +kernel
theorem dX9_kindOf_106 : decode cX9_kindOf 106 = .ok (.iconst 3, 1) := by decide +kernel
theorem dX9_kindOf_107 : decode cX9_kindOf 107 = .ok (.ireturn, 1) := by decide +kernel
theorem dX9_kindOf_108 : decode cX9_kindOf 108 = .ok (.iconst 4, 1) := by decide +kernel
theorem dX9_kindOf_109 : decode cX9_kindOf 109 = .ok (.ireturn, 1) := by decide +kernel
theorem dX9_kindOf_110 : decode cX9_kindOf 110 = .ok (.iconst 5, 1) := by decide +kernel
theorem dX9_kindOf_111 : decode cX9_kindOf 111 = .ok (.ireturn, 1) := by decide +kernel
theorem dX9_kindOf_112 : decode cX9_kindOf 112 = .ok (.bipush 6, 2) := by decide +kernel
theorem dX9_kindOf_114 : decode cX9_kindOf 114 = .ok (.ireturn, 1) := by decide +kernel
theorem dX9_kindOf_115 : decode cX9_kindOf 115 = .ok (.bipush (-9), 2) := by decide +kernel
theorem dX9_kindOf_117 : decode cX9_kindOf 117 = .ok (.ireturn, 1) := by decide +kernel
theorem dX9_hasThree_0 : decode cX9_hasThree 0 = .ok (.iload_n 0, 1) := by decide +kernel
theorem dX9_hasThree_1 : decode cX9_hasThree 1 = .ok (.iconst 1, 1) := by decide +kernel
theorem dX9_hasThree_2 : decode cX9_hasThree 2 = .ok (.if_icmp .eq 8, 3) := by decide +kernel
theorem dX9_hasThree_5 : decode cX9_hasThree 5 = .ok (.iload_n 0, 1) := by decide +kernel
theorem dX9_hasThree_6 : decode cX9_hasThree 6 = .ok (.iconst 2, 1) := by decide +kernel
theorem dX9_hasThree_7 : decode cX9_hasThree 7 = .ok (.if_icmp .ne 7, 3) := by decide +kernel
theorem dX9_hasThree_10 : decode cX9_hasThree 10 = .ok (.iconst 1, 1) := by decide +kernel
theorem dX9_hasThree_11 : decode cX9_hasThree 11 = .ok (.goto 4, 3) := by decide +kernel
theorem dX9_hasThree_14 : decode cX9_hasThree 14 = .ok (.iconst 0, 1) := by decide +kernel
theorem dX9_hasThree_15 : decode cX9_hasThree 15 = .ok (.ireturn, 1) := by decide +kernel
theorem dX9_hasWay_0 : decode cX9_hasWay 0 = .ok (.iload_n 0, 1) := by decide +kernel
theorem dX9_hasWay_1 : decode cX9_hasWay 1 = .ok (.i2l, 1) := by decide +kernel
theorem dX9_hasWay_2 : decode cX9_hasWay 2 = .ok (.ldc2_w 68, 3) := by decide +kernel
theorem dX9_hasWay_5 : decode cX9_hasWay 5 = .ok (.ldc2_w 70, 3) := by decide +kernel
theorem dX9_hasWay_8 : decode cX9_hasWay 8 = .ok (.invokestatic 60, 3) := by decide +kernel
theorem dX9_hasWay_11 : decode cX9_hasWay 11 = .ok (.ireturn, 1) := by decide +kernel
theorem dX9_at_0 : decode cX9_at 0 = .ok (.aload_n 0, 1) := by decide +kernel
theorem dX9_at_1 : decode cX9_at 1 = .ok (.getfield 7, 3) := by decide +kernel
theorem dX9_at_4 : decode cX9_at 4 = .ok (.bipush 48, 2) := by decide +kernel
theorem dX9_at_6 : decode cX9_at 6 = .ok (.iload_n 1, 1) := by decide +kernel
theorem dX9_at_7 : decode cX9_at 7 = .ok (.imul, 1) := by decide +kernel
theorem dX9_at_8 : decode cX9_at 8 = .ok (.iload_n 2, 1) := by decide +kernel
theorem dX9_at_9 : decode cX9_at 9 = .ok (.iadd, 1) := by decide +kernel
theorem dX9_at_10 : decode cX9_at 10 = .ok (.iload_n 3, 1) := by decide +kernel
theorem dX9_at_11 : decode cX9_at 11 = .ok (.iadd, 1) := by decide +kernel
theorem dX9_at_12 : decode cX9_at 12 = .ok (.iaload, 1) := by decide +kernel
theorem dX9_at_13 : decode cX9_at 13 = .ok (.ireturn, 1) := by decide +kernel
theorem dX9_variableAt_0 : decode cX9_variableAt 0 = .ok (.iload_n 1, 1) := by decide +kernel
theorem dX9_variableAt_1 : decode cX9_variableAt 1 = .ok (.aload_n 0, 1) := by decide +kernel
theorem dX9_variableAt_2 : decode cX9_variableAt 2 = .ok (.getfield 64, 3) := by decide +kernel
theorem dX9_variableAt_5 : decode cX9_variableAt 5 = .ok (.if_icmp .ge 34, 3) := by decide +kernel
theorem dX9_variableAt_8 : decode cX9_variableAt 8 = .ok (.aload_n 0, 1) := by decide +kernel
theorem dX9_variableAt_9 : decode cX9_variableAt 9 = .ok (.getfield 13, 3) := by decide +kernel
theorem dX9_variableAt_12 : decode cX9_variableAt 12 = .ok (.iload_n 1, 1) := by decide +kernel
theorem dX9_variableAt_13 : decode cX9_variableAt 13 = .ok (.iaload, 1) := by decide +kernel
theorem dX9_variableAt_14 : decode cX9_variableAt 14 = .ok (.i2l, 1) := by decide +kernel
theorem dX9_variableAt_15 : decode cX9_variableAt 15 = .ok (.ldc2_w 72, 3) := by decide +kernel
theorem dX9_variableAt_18 : decode cX9_variableAt 18 = .ok (.ldc2_w 74, 3) := by decide +kernel
theorem dX9_variableAt_21 : decode cX9_variableAt 21 = .ok (.invokestatic 60, 3) := by decide +kernel
theorem dX9_variableAt_24 : decode cX9_variableAt 24 = .ok (.ifCond .eq 15, 3) := by decide +kernel
theorem dX9_variableAt_27 : decode cX9_variableAt 27 = .ok (.aload_n 0, 1) := by decide +kernel
theorem dX9_variableAt_28 : decode cX9_variableAt 28 = .ok (.getfield 13, 3) := by decide +kernel
theorem dX9_variableAt_31 : decode cX9_variableAt 31 = .ok (.iload_n 1, 1) := by decide +kernel
theorem dX9_variableAt_32 : decode cX9_variableAt 32 = .ok (.iaload, 1) := by decide +kernel
theorem dX9_variableAt_33 : decode cX9_variableAt 33 = .ok (.bipush 97, 2) := by decide +kernel
theorem dX9_variableAt_35 : decode cX9_variableAt 35 = .ok (.isub, 1) := by decide +kernel
theorem dX9_variableAt_36 : decode cX9_variableAt 36 = .ok (.goto 5, 3) := by decide +kernel
theorem dX9_variableAt_39 : decode cX9_variableAt 39 = .ok (.bipush (-9), 2) := by decide +kernel
theorem dX9_variableAt_41 : decode cX9_variableAt 41 = .ok (.ireturn, 1) := by decide +kernel
theorem dX9_readText_0 : decode cX9_readText 0 = .ok (.aload_n 0, 1) := by decide +kernel
theorem dX9_readText_1 : decode cX9_readText 1 = .ok (.iconst 0, 1) := by decide +kernel
theorem dX9_readText_2 : decode cX9_readText 2 = .ok (.putfield 76, 3) := by decide +kernel
theorem dX9_readText_5 : decode cX9_readText 5 = .ok (.iconst 0, 1) := by decide +kernel
theorem dX9_readText_6 : decode cX9_readText 6 = .ok (.istore_n 1, 1) := by decide +kernel
theorem dX9_readText_7 : decode cX9_readText 7 = .ok (.iload_n 1, 1) := by decide +kernel
theorem dX9_readText_8 : decode cX9_readText 8 = .ok (.bipush 45, 2) := by decide +kernel
theorem dX9_readText_10 : decode cX9_readText 10 = .ok (.if_icmp .ge 19, 3) := by decide +kernel
theorem dX9_readText_13 : decode cX9_readText 13 = .ok (.aload_n 0, 1) := by decide +kernel
theorem dX9_readText_14 : decode cX9_readText 14 = .ok (.getfield 7, 3) := by decide +kernel
theorem dX9_readText_17 : decode cX9_readText 17 = .ok (.bipush 48, 2) := by decide +kernel
theorem dX9_readText_19 : decode cX9_readText 19 = .ok (.iload_n 1, 1) := by decide +kernel
theorem dX9_readText_20 : decode cX9_readText 20 = .ok (.iadd, 1) := by decide +kernel
theorem dX9_readText_21 : decode cX9_readText 21 = .ok (.iconst 0, 1) := by decide +kernel
theorem dX9_readText_22 : decode cX9_readText 22 = .ok (.iastore, 1) := by decide +kernel
theorem dX9_readText_23 : decode cX9_readText 23 = .ok (.iinc 1 1, 3) := by decide +kernel
theorem dX9_readText_26 : decode cX9_readText 26 = .ok (.goto (-19), 3) := by decide +kernel
theorem dX9_readText_29 : decode cX9_readText 29 = .ok (.aload_n 0, 1) := by decide +kernel
theorem dX9_readText_30 : decode cX9_readText 30 = .ok (.getfield 64, 3) := by decide +kernel
theorem dX9_readText_33 : decode cX9_readText 33 = .ok (.ifCond .eq 14, 3) := by decide +kernel
theorem dX9_readText_36 : decode cX9_readText 36 = .ok (.aload_n 0, 1) := by decide +kernel
theorem dX9_readText_37 : decode cX9_readText 37 = .ok (.getfield 13, 3) := by decide +kernel
theorem dX9_readText_40 : decode cX9_readText 40 = .ok (.iconst 0, 1) := by decide +kernel
theorem dX9_readText_41 : decode cX9_readText 41 = .ok (.iaload, 1) := by decide +kernel
theorem dX9_readText_42 : decode cX9_readText 42 = .ok (.bipush 81, 2) := by decide +kernel
theorem dX9_readText_44 : decode cX9_readText 44 = .ok (.if_icmp .eq 5, 3) := by decide +kernel
theorem dX9_readText_47 : decode cX9_readText 47 = .ok (.iconst 0, 1) := by decide +kernel
theorem dX9_readText_48 : decode cX9_readText 48 = .ok (.ireturn, 1) := by decide +kernel
theorem dX9_readText_49 : decode cX9_readText 49 = .ok (.iconst 1, 1) := by decide +kernel
theorem dX9_readText_50 : decode cX9_readText 50 = .ok (.istore_n 1, 1) := by decide +kernel
theorem dX9_readText_51 : decode cX9_readText 51 = .ok (.iconst 0, 1) := by decide +kernel
theorem dX9_readText_52 : decode cX9_readText 52 = .ok (.istore_n 2, 1) := by decide +kernel
theorem dX9_readText_53 : decode cX9_readText 53 = .ok (.iload_n 1, 1) := by decide +kernel
theorem dX9_readText_54 : decode cX9_readText 54 = .ok (.aload_n 0, 1) := by decide +kernel
theorem dX9_readText_55 : decode cX9_readText 55 = .ok (.getfield 64, 3) := by decide +kernel
theorem dX9_readText_58 : decode cX9_readText 58 = .ok (.if_icmp .ge 99, 3) := by decide +kernel
theorem dX9_readText_61 : decode cX9_readText 61 = .ok (.aload_n 0, 1) := by decide +kernel
theorem dX9_readText_62 : decode cX9_readText 62 = .ok (.getfield 13, 3) := by decide +kernel
theorem dX9_readText_65 : decode cX9_readText 65 = .ok (.iload_n 1, 1) := by decide +kernel
theorem dX9_readText_66 : decode cX9_readText 66 = .ok (.iaload, 1) := by decide +kernel
theorem dX9_readText_67 : decode cX9_readText 67 = .ok (.invokestatic 79, 3) := by decide +kernel
theorem dX9_readText_70 : decode cX9_readText 70 = .ok (.istore_n 3, 1) := by decide +kernel
theorem dX9_readText_71 : decode cX9_readText 71 = .ok (.iload_n 3, 1) := by decide +kernel
theorem dX9_readText_72 : decode cX9_readText 72 = .ok (.bipush (-9), 2) := by decide +kernel
theorem dX9_readText_74 : decode cX9_readText 74 = .ok (.if_icmp .eq 12, 3) := by decide +kernel
theorem dX9_readText_77 : decode cX9_readText 77 = .ok (.aload_n 0, 1) := by decide +kernel
theorem dX9_readText_78 : decode cX9_readText 78 = .ok (.getfield 76, 3) := by decide +kernel
theorem dX9_readText_81 : decode cX9_readText 81 = .ok (.bipush 9, 2) := by decide +kernel
theorem dX9_readText_83 : decode cX9_readText 83 = .ok (.if_icmp .ne 5, 3) := by decide +kernel
theorem dX9_readText_86 : decode cX9_readText 86 = .ok (.iload_n 1, 1) := by decide +kernel
theorem dX9_readText_87 : decode cX9_readText 87 = .ok (.ireturn, 1) := by decide +kernel
theorem dX9_readText_88 : decode cX9_readText 88 = .ok (.aload_n 0, 1) := by decide +kernel
theorem dX9_readText_89 : decode cX9_readText 89 = .ok (.iload_n 3, 1) := by decide +kernel
theorem dX9_readText_90 : decode cX9_readText 90 = .ok (.iload_n 1, 1) := by decide +kernel
theorem dX9_readText_91 : decode cX9_readText 91 = .ok (.iconst 1, 1) := by decide +kernel
theorem dX9_readText_92 : decode cX9_readText 92 = .ok (.iadd, 1) := by decide +kernel
theorem dX9_readText_93 : decode cX9_readText 93 = .ok (.invokevirtual 83, 3) := by decide +kernel
theorem dX9_readText_96 : decode cX9_readText 96 = .ok (.istore 4, 2) := by decide +kernel
theorem dX9_readText_98 : decode cX9_readText 98 = .ok (.iload 4, 2) := by decide +kernel
theorem dX9_readText_100 : decode cX9_readText 100 = .ok (.ifCond .ge 7, 3) := by decide +kernel
theorem dX9_readText_103 : decode cX9_readText 103 = .ok (.iload 4, 2) := by decide +kernel
theorem dX9_readText_105 : decode cX9_readText 105 = .ok (.ineg, 1) := by decide +kernel
theorem dX9_readText_106 : decode cX9_readText 106 = .ok (.ireturn, 1) := by decide +kernel
theorem dX9_readText_107 : decode cX9_readText 107 = .ok (.aload_n 0, 1) := by decide +kernel
theorem dX9_readText_108 : decode cX9_readText 108 = .ok (.getfield 7, 3) := by decide +kernel
theorem dX9_readText_111 : decode cX9_readText 111 = .ok (.bipush 84, 2) := by decide +kernel
theorem dX9_readText_113 : decode cX9_readText 113 = .ok (.aload_n 0, 1) := by decide +kernel
theorem dX9_readText_114 : decode cX9_readText 114 = .ok (.getfield 76, 3) := by decide +kernel
theorem dX9_readText_117 : decode cX9_readText 117 = .ok (.iadd, 1) := by decide +kernel
theorem dX9_readText_118 : decode cX9_readText 118 = .ok (.iaload, 1) := by decide +kernel
theorem dX9_readText_119 : decode cX9_readText 119 = .ok (.istore 5, 2) := by decide +kernel
theorem dX9_readText_121 : decode cX9_readText 121 = .ok (.iload_n 3, 1) := by decide +kernel
theorem dX9_readText_122 : decode cX9_readText 122 = .ok (.invokestatic 87, 3) := by decide +kernel
theorem dX9_readText_125 : decode cX9_readText 125 = .ok (.ifCond .eq 14, 3) := by decide +kernel
theorem dX9_readText_128 : decode cX9_readText 128 = .ok (.iload 5, 2) := by decide +kernel
theorem dX9_readText_130 : decode cX9_readText 130 = .ok (.iload_n 2, 1) := by decide +kernel
theorem dX9_readText_131 : decode cX9_readText 131 = .ok (.if_icmp .le 8, 3) := by decide +kernel
theorem dX9_readText_134 : decode cX9_readText 134 = .ok (.iload 5, 2) := by decide +kernel
theorem dX9_readText_136 : decode cX9_readText 136 = .ok (.goto 4, 3) := by decide +kernel
theorem dX9_readText_139 : decode cX9_readText 139 = .ok (.iload_n 2, 1) := by decide +kernel
theorem dX9_readText_140 : decode cX9_readText 140 = .ok (.istore_n 2, 1) := by decide +kernel
theorem dX9_readText_141 : decode cX9_readText 141 = .ok (.aload_n 0, 1) := by decide +kernel
theorem dX9_readText_142 : decode cX9_readText 142 = .ok (.dup, 1) := by decide +kernel
theorem dX9_readText_143 : decode cX9_readText 143 = .ok (.getfield 76, 3) := by decide +kernel
theorem dX9_readText_146 : decode cX9_readText 146 = .ok (.iconst 1, 1) := by decide +kernel
theorem dX9_readText_147 : decode cX9_readText 147 = .ok (.iadd, 1) := by decide +kernel
theorem dX9_readText_148 : decode cX9_readText 148 = .ok (.putfield 76, 3) := by decide +kernel
theorem dX9_readText_151 : decode cX9_readText 151 = .ok (.iload 4, 2) := by decide +kernel
theorem dX9_readText_153 : decode cX9_readText 153 = .ok (.istore_n 1, 1) := by decide +kernel
theorem dX9_readText_154 : decode cX9_readText 154 = .ok (.goto (-101), 3) := by decide +kernel
theorem dX9_readText_157 : decode cX9_readText 157 = .ok (.iload_n 2, 1) := by decide +kernel
theorem dX9_readText_158 : decode cX9_readText 158 = .ok (.aload_n 0, 1) := by decide +kernel
theorem dX9_readText_159 : decode cX9_readText 159 = .ok (.getfield 76, 3) := by decide +kernel
theorem dX9_readText_162 : decode cX9_readText 162 = .ok (.if_icmp .le 10, 3) := by decide +kernel
theorem dX9_readText_165 : decode cX9_readText 165 = .ok (.aload_n 0, 1) := by decide +kernel
theorem dX9_readText_166 : decode cX9_readText 166 = .ok (.getfield 64, 3) := by decide +kernel
theorem dX9_readText_169 : decode cX9_readText 169 = .ok (.goto 5, 3) := by decide +kernel
theorem dX9_readText_172 : decode cX9_readText 172 = .ok (.bipush (-9), 2) := by decide +kernel
theorem dX9_readText_174 : decode cX9_readText 174 = .ok (.ireturn, 1) := by decide +kernel
theorem dX9_readLine_0 : decode cX9_readLine 0 = .ok (.bipush 48, 2) := by decide +kernel
theorem dX9_readLine_2 : decode cX9_readLine 2 = .ok (.aload_n 0, 1) := by decide +kernel
theorem dX9_readLine_3 : decode cX9_readLine 3 = .ok (.getfield 76, 3) := by decide +kernel
theorem dX9_readLine_6 : decode cX9_readLine 6 = .ok (.iadd, 1) := by decide +kernel
theorem dX9_readLine_7 : decode cX9_readLine 7 = .ok (.istore_n 3, 1) := by decide +kernel
theorem dX9_readLine_8 : decode cX9_readLine 8 = .ok (.iload_n 2, 1) := by decide +kernel
theorem dX9_readLine_9 : decode cX9_readLine 9 = .ok (.istore 4, 2) := by decide +kernel
theorem dX9_readLine_11 : decode cX9_readLine 11 = .ok (.aload_n 0, 1) := by decide +kernel
theorem dX9_readLine_12 : decode cX9_readLine 12 = .ok (.getfield 7, 3) := by decide +kernel
theorem dX9_readLine_15 : decode cX9_readLine 15 = .ok (.iload_n 3, 1) := by decide +kernel
theorem dX9_readLine_16 : decode cX9_readLine 16 = .ok (.iconst 0, 1) := by decide +kernel
theorem dX9_readLine_17 : decode cX9_readLine 17 = .ok (.iadd, 1) := by decide +kernel
theorem dX9_readLine_18 : decode cX9_readLine 18 = .ok (.iload_n 1, 1) := by decide +kernel
theorem dX9_readLine_19 : decode cX9_readLine 19 = .ok (.iastore, 1) := by decide +kernel
theorem dX9_readLine_20 : decode cX9_readLine 20 = .ok (.iload_n 1, 1) := by decide +kernel
theorem dX9_readLine_21 : decode cX9_readLine 21 = .ok (.invokestatic 91, 3) := by decide +kernel
theorem dX9_readLine_24 : decode cX9_readLine 24 = .ok (.ifCond .eq 7, 3) := by decide +kernel
theorem dX9_readLine_27 : decode cX9_readLine 27 = .ok (.iconst 3, 1) := by decide +kernel
theorem dX9_readLine_28 : decode cX9_readLine 28 = .ok (.goto 4, 3) := by decide +kernel
theorem dX9_readLine_31 : decode cX9_readLine 31 = .ok (.iconst 1, 1) := by decide +kernel
theorem dX9_readLine_32 : decode cX9_readLine 32 = .ok (.istore 5, 2) := by decide +kernel
theorem dX9_readLine_34 : decode cX9_readLine 34 = .ok (.iconst 0, 1) := by decide +kernel
theorem dX9_readLine_35 : decode cX9_readLine 35 = .ok (.istore 6, 2) := by decide +kernel
theorem dX9_readLine_37 : decode cX9_readLine 37 = .ok (.iload 6, 2) := by decide +kernel
theorem dX9_readLine_39 : decode cX9_readLine 39 = .ok (.iload 5, 2) := by decide +kernel
theorem dX9_readLine_41 : decode cX9_readLine 41 = .ok (.if_icmp .ge 48, 3) := by decide +kernel
theorem dX9_readLine_44 : decode cX9_readLine 44 = .ok (.aload_n 0, 1) := by decide +kernel
theorem dX9_readLine_45 : decode cX9_readLine 45 = .ok (.iload 4, 2) := by decide +kernel
theorem dX9_readLine_47 : decode cX9_readLine 47 = .ok (.invokevirtual 94, 3) := by decide +kernel
theorem dX9_readLine_50 : decode cX9_readLine 50 = .ok (.istore 7, 2) := by decide +kernel
theorem dX9_readLine_52 : decode cX9_readLine 52 = .ok (.iload 7, 2) := by decide +kernel
theorem dX9_readLine_54 : decode cX9_readLine 54 = .ok (.bipush (-9), 2) := by decide +kernel
theorem dX9_readLine_56 : decode cX9_readLine 56 = .ok (.if_icmp .ne 7, 3) := by decide +kernel
theorem dX9_readLine_59 : decode cX9_readLine 59 = .ok (.iload 4, 2) := by decide +kernel
theorem dX9_readLine_61 : decode cX9_readLine 61 = .ok (.ineg, 1) := by decide +kernel
theorem dX9_readLine_62 : decode cX9_readLine 62 = .ok (.ireturn, 1) := by decide +kernel
theorem dX9_readLine_63 : decode cX9_readLine 63 = .ok (.aload_n 0, 1) := by decide +kernel
theorem dX9_readLine_64 : decode cX9_readLine 64 = .ok (.getfield 7, 3) := by decide +kernel
theorem dX9_readLine_67 : decode cX9_readLine 67 = .ok (.iload_n 3, 1) := by decide +kernel
theorem dX9_readLine_68 : decode cX9_readLine 68 = .ok (.bipush 9, 2) := by decide +kernel
theorem dX9_readLine_70 : decode cX9_readLine 70 = .ok (.iadd, 1) := by decide +kernel
theorem dX9_readLine_71 : decode cX9_readLine 71 = .ok (.bipush 9, 2) := by decide +kernel
theorem dX9_readLine_73 : decode cX9_readLine 73 = .ok (.iload 6, 2) := by decide +kernel
theorem dX9_readLine_75 : decode cX9_readLine 75 = .ok (.imul, 1) := by decide +kernel
theorem dX9_readLine_76 : decode cX9_readLine 76 = .ok (.iadd, 1) := by decide +kernel
theorem dX9_readLine_77 : decode cX9_readLine 77 = .ok (.iload 7, 2) := by decide +kernel
theorem dX9_readLine_79 : decode cX9_readLine 79 = .ok (.iastore, 1) := by decide +kernel
theorem dX9_readLine_80 : decode cX9_readLine 80 = .ok (.iinc 4 1, 3) := by decide +kernel
theorem dX9_readLine_83 : decode cX9_readLine 83 = .ok (.iinc 6 1, 3) := by decide +kernel
theorem dX9_readLine_86 : decode cX9_readLine 86 = .ok (.goto (-49), 3) := by decide +kernel
theorem dX9_readLine_89 : decode cX9_readLine 89 = .ok (.iload_n 1, 1) := by decide +kernel
theorem dX9_readLine_90 : decode cX9_readLine 90 = .ok (.ifCond .ne 58, 3) := by decide +kernel
theorem dX9_readLine_93 : decode cX9_readLine 93 = .ok (.iload 4, 2) := by decide +kernel
theorem dX9_readLine_95 : decode cX9_readLine 95 = .ok (.aload_n 0, 1) := by decide +kernel
theorem dX9_readLine_96 : decode cX9_readLine 96 = .ok (.getfield 64, 3) := by decide +kernel
theorem dX9_readLine_99 : decode cX9_readLine 99 = .ok (.if_icmp .ge 23, 3) := by decide +kernel
theorem dX9_readLine_102 : decode cX9_readLine 102 = .ok (.aload_n 0, 1) := by decide +kernel
theorem dX9_readLine_103 : decode cX9_readLine 103 = .ok (.getfield 13, 3) := by decide +kernel
theorem dX9_readLine_106 : decode cX9_readLine 106 = .ok (.iload 4, 2) := by decide +kernel
theorem dX9_readLine_108 : decode cX9_readLine 108 = .ok (.iaload, 1) := by decide +kernel
theorem dX9_readLine_109 : decode cX9_readLine 109 = .ok (.i2l, 1) := by decide +kernel
theorem dX9_readLine_110 : decode cX9_readLine 110 = .ok (.ldc2_w 97, 3) := by decide +kernel
theorem dX9_readLine_113 : decode cX9_readLine 113 = .ok (.ldc2_w 99, 3) := by decide +kernel
theorem dX9_readLine_116 : decode cX9_readLine 116 = .ok (.invokestatic 60, 3) := by decide +kernel
theorem dX9_readLine_119 : decode cX9_readLine 119 = .ok (.ifCond .ne 7, 3) := by decide +kernel
theorem dX9_readLine_122 : decode cX9_readLine 122 = .ok (.iload 4, 2) := by decide +kernel
theorem dX9_readLine_124 : decode cX9_readLine 124 = .ok (.ineg, 1) := by decide +kernel
theorem dX9_readLine_125 : decode cX9_readLine 125 = .ok (.ireturn, 1) := by decide +kernel
theorem dX9_readLine_126 : decode cX9_readLine 126 = .ok (.aload_n 0, 1) := by decide +kernel
theorem dX9_readLine_127 : decode cX9_readLine 127 = .ok (.getfield 7, 3) := by decide +kernel
theorem dX9_readLine_130 : decode cX9_readLine 130 = .ok (.iload_n 3, 1) := by decide +kernel
theorem dX9_readLine_131 : decode cX9_readLine 131 = .ok (.bipush 18, 2) := by decide +kernel
theorem dX9_readLine_133 : decode cX9_readLine 133 = .ok (.iadd, 1) := by decide +kernel
theorem dX9_readLine_134 : decode cX9_readLine 134 = .ok (.aload_n 0, 1) := by decide +kernel
theorem dX9_readLine_135 : decode cX9_readLine 135 = .ok (.getfield 13, 3) := by decide +kernel
theorem dX9_readLine_138 : decode cX9_readLine 138 = .ok (.iload 4, 2) := by decide +kernel
theorem dX9_readLine_140 : decode cX9_readLine 140 = .ok (.iaload, 1) := by decide +kernel
theorem dX9_readLine_141 : decode cX9_readLine 141 = .ok (.bipush 48, 2) := by decide +kernel
theorem dX9_readLine_143 : decode cX9_readLine 143 = .ok (.isub, 1) := by decide +kernel
theorem dX9_readLine_144 : decode cX9_readLine 144 = .ok (.iastore, 1) := by decide +kernel
theorem dX9_readLine_145 : decode cX9_readLine 145 = .ok (.iinc 4 1, 3) := by decide +kernel
theorem dX9_readLine_148 : decode cX9_readLine 148 = .ok (.iload_n 1, 1) := by decide +kernel
theorem dX9_readLine_149 : decode cX9_readLine 149 = .ok (.invokestatic 87, 3) := by decide +kernel
theorem dX9_readLine_152 : decode cX9_readLine 152 = .ok (.ifCond .eq 117, 3) := by decide +kernel
theorem dX9_readLine_155 : decode cX9_readLine 155 = .ok (.iload 4, 2) := by decide +kernel
theorem dX9_readLine_157 : decode cX9_readLine 157 = .ok (.aload_n 0, 1) := by decide +kernel
theorem dX9_readLine_158 : decode cX9_readLine 158 = .ok (.getfield 64, 3) := by decide +kernel
theorem dX9_readLine_161 : decode cX9_readLine 161 = .ok (.if_icmp .ge 19, 3) := by decide +kernel
theorem dX9_readLine_164 : decode cX9_readLine 164 = .ok (.aload_n 0, 1) := by decide +kernel
theorem dX9_readLine_165 : decode cX9_readLine 165 = .ok (.getfield 13, 3) := by decide +kernel
theorem dX9_readLine_168 : decode cX9_readLine 168 = .ok (.iload 4, 2) := by decide +kernel
theorem dX9_readLine_170 : decode cX9_readLine 170 = .ok (.iaload, 1) := by decide +kernel
theorem dX9_readLine_171 : decode cX9_readLine 171 = .ok (.bipush 46, 2) := by decide +kernel
theorem dX9_readLine_173 : decode cX9_readLine 173 = .ok (.if_icmp .ne 7, 3) := by decide +kernel
theorem dX9_readLine_176 : decode cX9_readLine 176 = .ok (.iconst 1, 1) := by decide +kernel
theorem dX9_readLine_177 : decode cX9_readLine 177 = .ok (.goto 4, 3) := by decide +kernel
theorem dX9_readLine_180 : decode cX9_readLine 180 = .ok (.iconst 0, 1) := by decide +kernel
theorem dX9_readLine_181 : decode cX9_readLine 181 = .ok (.istore 6, 2) := by decide +kernel
theorem dX9_readLine_183 : decode cX9_readLine 183 = .ok (.iload 4, 2) := by decide +kernel
theorem dX9_readLine_185 : decode cX9_readLine 185 = .ok (.aload_n 0, 1) := by decide +kernel
theorem dX9_readLine_186 : decode cX9_readLine 186 = .ok (.getfield 64, 3) := by decide +kernel
theorem dX9_readLine_189 : decode cX9_readLine 189 = .ok (.if_icmp .ge 32, 3) := by decide +kernel
theorem dX9_readLine_192 : decode cX9_readLine 192 = .ok (.aload_n 0, 1) := by decide +kernel
theorem dX9_readLine_193 : decode cX9_readLine 193 = .ok (.getfield 13, 3) := by decide +kernel
theorem dX9_readLine_196 : decode cX9_readLine 196 = .ok (.iload 4, 2) := by decide +kernel
theorem dX9_readLine_198 : decode cX9_readLine 198 = .ok (.iaload, 1) := by decide +kernel
theorem dX9_readLine_199 : decode cX9_readLine 199 = .ok (.i2l, 1) := by decide +kernel
theorem dX9_readLine_200 : decode cX9_readLine 200 = .ok (.bipush 49, 2) := by decide +kernel
theorem dX9_readLine_202 : decode cX9_readLine 202 = .ok (.aload_n 0, 1) := by decide +kernel
theorem dX9_readLine_203 : decode cX9_readLine 203 = .ok (.getfield 76, 3) := by decide +kernel
theorem dX9_readLine_206 : decode cX9_readLine 206 = .ok (.iadd, 1) := by decide +kernel
theorem dX9_readLine_207 : decode cX9_readLine 207 = .ok (.i2l, 1) := by decide +kernel
theorem dX9_readLine_208 : decode cX9_readLine 208 = .ok (.ldc2_w 99, 3) := by decide +kernel
theorem dX9_readLine_211 : decode cX9_readLine 211 = .ok (.invokestatic 60, 3) := by decide +kernel
theorem dX9_readLine_214 : decode cX9_readLine 214 = .ok (.ifCond .eq 7, 3) := by decide +kernel
theorem dX9_readLine_217 : decode cX9_readLine 217 = .ok (.iconst 1, 1) := by decide +kernel
theorem dX9_readLine_218 : decode cX9_readLine 218 = .ok (.goto 4, 3) := by decide +kernel
theorem dX9_readLine_221 : decode cX9_readLine 221 = .ok (.iconst 0, 1) := by decide +kernel
theorem dX9_readLine_222 : decode cX9_readLine 222 = .ok (.istore 7, 2) := by decide +kernel
theorem dX9_readLine_224 : decode cX9_readLine 224 = .ok (.iload 6, 2) := by decide +kernel
theorem dX9_readLine_226 : decode cX9_readLine 226 = .ok (.ifCond .ne 12, 3) := by decide +kernel
theorem dX9_readLine_229 : decode cX9_readLine 229 = .ok (.iload 7, 2) := by decide +kernel
theorem dX9_readLine_231 : decode cX9_readLine 231 = .ok (.ifCond .ne 7, 3) := by decide +kernel
theorem dX9_readLine_234 : decode cX9_readLine 234 = .ok (.iload 4, 2) := by decide +kernel
theorem dX9_readLine_236 : decode cX9_readLine 236 = .ok (.ineg, 1) := by decide +kernel
theorem dX9_readLine_237 : decode cX9_readLine 237 = .ok (.ireturn, 1) := by decide +kernel
theorem dX9_readLine_238 : decode cX9_readLine 238 = .ok (.aload_n 0, 1) := by decide +kernel
theorem dX9_readLine_239 : decode cX9_readLine 239 = .ok (.getfield 7, 3) := by decide +kernel
theorem dX9_readLine_242 : decode cX9_readLine 242 = .ok (.iload_n 3, 1) := by decide +kernel
theorem dX9_readLine_243 : decode cX9_readLine 243 = .ok (.bipush 36, 2) := by decide +kernel
theorem dX9_readLine_245 : decode cX9_readLine 245 = .ok (.iadd, 1) := by decide +kernel
theorem dX9_readLine_246 : decode cX9_readLine 246 = .ok (.iload 6, 2) := by decide +kernel
theorem dX9_readLine_248 : decode cX9_readLine 248 = .ok (.ifCond .eq 7, 3) := by decide +kernel
theorem dX9_readLine_251 : decode cX9_readLine 251 = .ok (.iconst (-1), 1) := by decide +kernel
theorem dX9_readLine_252 : decode cX9_readLine 252 = .ok (.goto 13, 3) := by decide +kernel
theorem dX9_readLine_255 : decode cX9_readLine 255 = .ok (.aload_n 0, 1) := by decide +kernel
theorem dX9_readLine_256 : decode cX9_readLine 256 = .ok (.getfield 13, 3) := by decide +kernel
theorem dX9_readLine_259 : decode cX9_readLine 259 = .ok (.iload 4, 2) := by decide +kernel
theorem dX9_readLine_261 : decode cX9_readLine 261 = .ok (.iaload, 1) := by decide +kernel
theorem dX9_readLine_262 : decode cX9_readLine 262 = .ok (.bipush 48, 2) := by decide +kernel
theorem dX9_readLine_264 : decode cX9_readLine 264 = .ok (.isub, 1) := by decide +kernel
theorem dX9_readLine_265 : decode cX9_readLine 265 = .ok (.iastore, 1) := by decide +kernel
theorem dX9_readLine_266 : decode cX9_readLine 266 = .ok (.iinc 4 1, 3) := by decide +kernel
theorem dX9_readLine_269 : decode cX9_readLine 269 = .ok (.iload 4, 2) := by decide +kernel
theorem dX9_readLine_271 : decode cX9_readLine 271 = .ok (.ireturn, 1) := by decide +kernel
theorem dX9_fault_0 : decode cX9_fault 0 = .ok (.aload_n 0, 1) := by decide +kernel
theorem dX9_fault_1 : decode cX9_fault 1 = .ok (.invokevirtual 101, 3) := by decide +kernel
theorem dX9_fault_4 : decode cX9_fault 4 = .ok (.ireturn, 1) := by decide +kernel
theorem dX9_program_0 : decode cX9_program 0 = .ok (.aload_n 0, 1) := by decide +kernel
theorem dX9_program_1 : decode cX9_program 1 = .ok (.invokevirtual 101, 3) := by decide +kernel
theorem dX9_program_4 : decode cX9_program 4 = .ok (.bipush (-9), 2) := by decide +kernel
theorem dX9_program_6 : decode cX9_program 6 = .ok (.if_icmp .eq 6, 3) := by decide +kernel
theorem dX9_program_9 : decode cX9_program 9 = .ok (.bipush (-3), 2) := by decide +kernel
theorem dX9_program_11 : decode cX9_program 11 = .ok (.ireturn, 1) := by decide +kernel
theorem dX9_program_12 : decode cX9_program 12 = .ok (.aload_n 0, 1) := by decide +kernel
theorem dX9_program_13 : decode cX9_program 13 = .ok (.aload_n 0, 1) := by decide +kernel
theorem dX9_program_14 : decode cX9_program 14 = .ok (.getfield 76, 3) := by decide +kernel
theorem dX9_program_17 : decode cX9_program 17 = .ok (.putfield 105, 3) := by decide +kernel
theorem dX9_program_20 : decode cX9_program 20 = .ok (.iconst 0, 1) := by decide +kernel
theorem dX9_program_21 : decode cX9_program 21 = .ok (.istore_n 1, 1) := by decide +kernel
theorem dX9_program_22 : decode cX9_program 22 = .ok (.iload_n 1, 1) := by decide +kernel
theorem dX9_program_23 : decode cX9_program 23 = .ok (.bipush 45, 2) := by decide +kernel
theorem dX9_program_25 : decode cX9_program 25 = .ok (.if_icmp .ge 24, 3) := by decide +kernel
theorem dX9_program_28 : decode cX9_program 28 = .ok (.aload_n 0, 1) := by decide +kernel
theorem dX9_program_29 : decode cX9_program 29 = .ok (.getfield 7, 3) := by decide +kernel
theorem dX9_program_32 : decode cX9_program 32 = .ok (.iload_n 1, 1) := by decide +kernel
theorem dX9_program_33 : decode cX9_program 33 = .ok (.aload_n 0, 1) := by decide +kernel
theorem dX9_program_34 : decode cX9_program 34 = .ok (.getfield 7, 3) := by decide +kernel
theorem dX9_program_37 : decode cX9_program 37 = .ok (.bipush 48, 2) := by decide +kernel
theorem dX9_program_39 : decode cX9_program 39 = .ok (.iload_n 1, 1) := by decide +kernel
theorem dX9_program_40 : decode cX9_program 40 = .ok (.iadd, 1) := by decide +kernel
theorem dX9_program_41 : decode cX9_program 41 = .ok (.iaload, 1) := by decide +kernel
theorem dX9_program_42 : decode cX9_program 42 = .ok (.iastore, 1) := by decide +kernel
theorem dX9_program_43 : decode cX9_program 43 = .ok (.iinc 1 1, 3) := by decide +kernel
theorem dX9_program_46 : decode cX9_program 46 = .ok (.goto (-24), 3) := by decide +kernel
theorem dX9_program_49 : decode cX9_program 49 = .ok (.iconst 0, 1) := by decide +kernel
theorem dX9_program_50 : decode cX9_program 50 = .ok (.istore_n 1, 1) := by decide +kernel
theorem dX9_program_51 : decode cX9_program 51 = .ok (.iload_n 1, 1) := by decide +kernel
theorem dX9_program_52 : decode cX9_program 52 = .ok (.iconst 3, 1) := by decide +kernel
theorem dX9_program_53 : decode cX9_program 53 = .ok (.if_icmp .ge 19, 3) := by decide +kernel
theorem dX9_program_56 : decode cX9_program 56 = .ok (.aload_n 0, 1) := by decide +kernel
theorem dX9_program_57 : decode cX9_program 57 = .ok (.getfield 7, 3) := by decide +kernel
theorem dX9_program_60 : decode cX9_program 60 = .ok (.bipush 45, 2) := by decide +kernel
theorem dX9_program_62 : decode cX9_program 62 = .ok (.iload_n 1, 1) := by decide +kernel
theorem dX9_program_63 : decode cX9_program 63 = .ok (.iadd, 1) := by decide +kernel
theorem dX9_program_64 : decode cX9_program 64 = .ok (.iload_n 1, 1) := by decide +kernel
theorem dX9_program_65 : decode cX9_program 65 = .ok (.iastore, 1) := by decide +kernel
theorem dX9_program_66 : decode cX9_program 66 = .ok (.iinc 1 1, 3) := by decide +kernel
theorem dX9_program_69 : decode cX9_program 69 = .ok (.goto (-18), 3) := by decide +kernel
theorem dX9_program_72 : decode cX9_program 72 = .ok (.aload_n 0, 1) := by decide +kernel
theorem dX9_program_73 : decode cX9_program 73 = .ok (.iconst 0, 1) := by decide +kernel
theorem dX9_program_74 : decode cX9_program 74 = .ok (.putfield 108, 3) := by decide +kernel
theorem dX9_program_77 : decode cX9_program 77 = .ok (.aload_n 0, 1) := by decide +kernel
theorem dX9_program_78 : decode cX9_program 78 = .ok (.getfield 47, 3) := by decide +kernel
theorem dX9_program_81 : decode cX9_program 81 = .ok (.iconst 0, 1) := by decide +kernel
theorem dX9_program_82 : decode cX9_program 82 = .ok (.iconst 0, 1) := by decide +kernel
theorem dX9_program_83 : decode cX9_program 83 = .ok (.bastore, 1) := by decide +kernel
theorem dX9_program_84 : decode cX9_program 84 = .ok (.aload_n 0, 1) := by decide +kernel
theorem dX9_program_85 : decode cX9_program 85 = .ok (.getfield 47, 3) := by decide +kernel
theorem dX9_program_88 : decode cX9_program 88 = .ok (.iconst 1, 1) := by decide +kernel
theorem dX9_program_89 : decode cX9_program 89 = .ok (.iconst 0, 1) := by decide +kernel
theorem dX9_program_90 : decode cX9_program 90 = .ok (.bastore, 1) := by decide +kernel
theorem dX9_program_91 : decode cX9_program 91 = .ok (.aload_n 0, 1) := by decide +kernel
theorem dX9_program_92 : decode cX9_program 92 = .ok (.iconst 0, 1) := by decide +kernel
theorem dX9_program_93 : decode cX9_program 93 = .ok (.invokevirtual 54, 3) := by decide +kernel
theorem dX9_program_96 : decode cX9_program 96 = .ok (.aload_n 0, 1) := by decide +kernel
theorem dX9_program_97 : decode cX9_program 97 = .ok (.getfield 105, 3) := by decide +kernel
theorem dX9_program_100 : decode cX9_program 100 = .ok (.ireturn, 1) := by decide +kernel
theorem dX9_isLine_0 : decode cX9_isLine 0 = .ok (.iload_n 1, 1) := by decide +kernel
theorem dX9_isLine_1 : decode cX9_isLine 1 = .ok (.i2l, 1) := by decide +kernel
theorem dX9_isLine_2 : decode cX9_isLine 2 = .ok (.lconst 0, 1) := by decide +kernel
theorem dX9_isLine_3 : decode cX9_isLine 3 = .ok (.aload_n 0, 1) := by decide +kernel
theorem dX9_isLine_4 : decode cX9_isLine 4 = .ok (.getfield 105, 3) := by decide +kernel
theorem dX9_isLine_7 : decode cX9_isLine 7 = .ok (.iconst 1, 1) := by decide +kernel
theorem dX9_isLine_8 : decode cX9_isLine 8 = .ok (.isub, 1) := by decide +kernel
theorem dX9_isLine_9 : decode cX9_isLine 9 = .ok (.i2l, 1) := by decide +kernel
theorem dX9_isLine_10 : decode cX9_isLine 10 = .ok (.invokestatic 60, 3) := by decide +kernel
theorem dX9_isLine_13 : decode cX9_isLine 13 = .ok (.ireturn, 1) := by decide +kernel
theorem dX9_line_0 : decode cX9_line 0 = .ok (.aload_n 0, 1) := by decide +kernel
theorem dX9_line_1 : decode cX9_line 1 = .ok (.iload_n 1, 1) := by decide +kernel
theorem dX9_line_2 : decode cX9_line 2 = .ok (.invokevirtual 111, 3) := by decide +kernel
theorem dX9_line_5 : decode cX9_line 5 = .ok (.ifCond .ne 5, 3) := by decide +kernel
theorem dX9_line_8 : decode cX9_line 8 = .ok (.iconst (-1), 1) := by decide +kernel
theorem dX9_line_9 : decode cX9_line 9 = .ok (.ireturn, 1) := by decide +kernel
theorem dX9_line_10 : decode cX9_line 10 = .ok (.aload_n 0, 1) := by decide +kernel
theorem dX9_line_11 : decode cX9_line 11 = .ok (.getfield 7, 3) := by decide +kernel
theorem dX9_line_14 : decode cX9_line 14 = .ok (.iconst 0, 1) := by decide +kernel
theorem dX9_line_15 : decode cX9_line 15 = .ok (.iload_n 1, 1) := by decide +kernel
theorem dX9_line_16 : decode cX9_line 16 = .ok (.iadd, 1) := by decide +kernel
theorem dX9_line_17 : decode cX9_line 17 = .ok (.iaload, 1) := by decide +kernel
theorem dX9_line_18 : decode cX9_line 18 = .ok (.istore_n 3, 1) := by decide +kernel
theorem dX9_line_19 : decode cX9_line 19 = .ok (.iload_n 2, 1) := by decide +kernel
theorem dX9_line_20 : decode cX9_line 20 = .ok (.tableswitch 118 0 4 #[36, 38, 48, 74, 96], 36) := by decide +kernel
theorem dX9_line_56 : decode cX9_line 56 = .ok (.iload_n 3, 1) := by decide +kernel
theorem dX9_line_57 : decode cX9_line 57 = .ok (.ireturn, 1) := by decide +kernel
theorem dX9_line_58 : decode cX9_line 58 = .ok (.aload_n 0, 1) := by decide +kernel
theorem dX9_line_59 : decode cX9_line 59 = .ok (.getfield 7, 3) := by decide +kernel
theorem dX9_line_62 : decode cX9_line 62 = .ok (.bipush 9, 2) := by decide +kernel
theorem dX9_line_64 : decode cX9_line 64 = .ok (.iload_n 1, 1) := by decide +kernel
theorem dX9_line_65 : decode cX9_line 65 = .ok (.iadd, 1) := by decide +kernel
theorem dX9_line_66 : decode cX9_line 66 = .ok (.iaload, 1) := by decide +kernel
theorem dX9_line_67 : decode cX9_line 67 = .ok (.ireturn, 1) := by decide +kernel
theorem dX9_line_68 : decode cX9_line 68 = .ok (.iload_n 3, 1) := by decide +kernel
theorem dX9_line_69 : decode cX9_line 69 = .ok (.ifCond .eq 10, 3) := by decide +kernel
theorem dX9_line_72 : decode cX9_line 72 = .ok (.iload_n 3, 1) := by decide +kernel
theorem dX9_line_73 : decode cX9_line 73 = .ok (.invokestatic 91, 3) := by decide +kernel
theorem dX9_line_76 : decode cX9_line 76 = .ok (.ifCond .eq 15, 3) := by decide +kernel
theorem dX9_line_79 : decode cX9_line 79 = .ok (.aload_n 0, 1) := by decide +kernel
theorem dX9_line_80 : decode cX9_line 80 = .ok (.getfield 7, 3) := by decide +kernel
theorem dX9_line_83 : decode cX9_line 83 = .ok (.bipush 18, 2) := by decide +kernel
theorem dX9_line_85 : decode cX9_line 85 = .ok (.iload_n 1, 1) := by decide +kernel
theorem dX9_line_86 : decode cX9_line 86 = .ok (.iadd, 1) := by decide +kernel
theorem dX9_line_87 : decode cX9_line 87 = .ok (.iaload, 1) := by decide +kernel
theorem dX9_line_88 : decode cX9_line 88 = .ok (.goto 5, 3) := by decide +kernel
theorem dX9_line_91 : decode cX9_line 91 = .ok (.bipush (-9), 2) := by decide +kernel
theorem dX9_line_93 : decode cX9_line 93 = .ok (.ireturn, 1) := by decide +kernel
theorem dX9_line_94 : decode cX9_line 94 = .ok (.iload_n 3, 1) := by decide +kernel
theorem dX9_line_95 : decode cX9_line 95 = .ok (.invokestatic 91, 3) := by decide +kernel
theorem dX9_line_98 : decode cX9_line 98 = .ok (.ifCond .eq 15, 3) := by decide +kernel
theorem dX9_line_101 : decode cX9_line 101 = .ok (.aload_n 0, 1) := by decide +kernel
theorem dX9_line_102 : decode cX9_line 102 = .ok (.getfield 7, 3) := by decide +kernel
theorem dX9_line_105 : decode cX9_line 105 = .ok (.bipush 27, 2) := by decide +kernel
theorem dX9_line_107 : decode cX9_line 107 = .ok (.iload_n 1, 1) := by decide +kernel
theorem dX9_line_108 : decode cX9_line 108 = .ok (.iadd, 1) := by decide +kernel
theorem dX9_line_109 : decode cX9_line 109 = .ok (.iaload, 1) := by decide +kernel
theorem dX9_line_110 : decode cX9_line 110 = .ok (.goto 5, 3) := by decide +kernel
theorem dX9_line_113 : decode cX9_line 113 = .ok (.bipush (-9), 2) := by decide +kernel
theorem dX9_line_115 : decode cX9_line 115 = .ok (.ireturn, 1) := by decide +kernel
theorem dX9_line_116 : decode cX9_line 116 = .ok (.iload_n 3, 1) := by decide +kernel
theorem dX9_line_117 : decode cX9_line 117 = .ok (.invokestatic 87, 3) := by decide +kernel
theorem dX9_line_120 : decode cX9_line 120 = .ok (.ifCond .eq 15, 3) := by decide +kernel
theorem dX9_line_123 : decode cX9_line 123 = .ok (.aload_n 0, 1) := by decide +kernel
theorem dX9_line_124 : decode cX9_line 124 = .ok (.getfield 7, 3) := by decide +kernel
theorem dX9_line_127 : decode cX9_line 127 = .ok (.bipush 36, 2) := by decide +kernel
theorem dX9_line_129 : decode cX9_line 129 = .ok (.iload_n 1, 1) := by decide +kernel
theorem dX9_line_130 : decode cX9_line 130 = .ok (.iadd, 1) := by decide +kernel
theorem dX9_line_131 : decode cX9_line 131 = .ok (.iaload, 1) := by decide +kernel
theorem dX9_line_132 : decode cX9_line 132 = .ok (.goto 5, 3) := by decide +kernel
theorem dX9_line_135 : decode cX9_line 135 = .ok (.bipush (-9), 2) := by decide +kernel
theorem dX9_line_137 : decode cX9_line 137 = .ok (.ireturn, 1) := by decide +kernel
theorem dX9_line_138 : decode cX9_line 138 = .ok (.bipush (-2), 2) := by decide +kernel
theorem dX9_line_140 : decode cX9_line 140 = .ok (.ireturn, 1) := by decide +kernel
theorem dX9_wayOf_0 : decode cX9_wayOf 0 = .ok (.aload_n 0, 1) := by decide +kernel
theorem dX9_wayOf_1 : decode cX9_wayOf 1 = .ok (.iload_n 1, 1) := by decide +kernel
theorem dX9_wayOf_2 : decode cX9_wayOf 2 = .ok (.bipush 36, 2) := by decide +kernel
theorem dX9_wayOf_4 : decode cX9_wayOf 4 = .ok (.iload_n 2, 1) := by decide +kernel
theorem dX9_wayOf_5 : decode cX9_wayOf 5 = .ok (.invokevirtual 114, 3) := by decide +kernel
theorem dX9_wayOf_8 : decode cX9_wayOf 8 = .ok (.istore_n 3, 1) := by decide +kernel
theorem dX9_wayOf_9 : decode cX9_wayOf 9 = .ok (.aload_n 0, 1) := by decide +kernel
theorem dX9_wayOf_10 : decode cX9_wayOf 10 = .ok (.iload_n 1, 1) := by decide +kernel
theorem dX9_wayOf_11 : decode cX9_wayOf 11 = .ok (.iconst 0, 1) := by decide +kernel
theorem dX9_wayOf_12 : decode cX9_wayOf 12 = .ok (.iload_n 2, 1) := by decide +kernel
theorem dX9_wayOf_13 : decode cX9_wayOf 13 = .ok (.invokevirtual 114, 3) := by decide +kernel
theorem dX9_wayOf_16 : decode cX9_wayOf 16 = .ok (.invokestatic 87, 3) := by decide +kernel
theorem dX9_wayOf_19 : decode cX9_wayOf 19 = .ok (.ifCond .ne 9, 3) := by decide +kernel
theorem dX9_wayOf_22 : decode cX9_wayOf 22 = .ok (.iload_n 2, 1) := by decide +kernel
theorem dX9_wayOf_23 : decode cX9_wayOf 23 = .ok (.iconst 1, 1) := by decide +kernel
theorem dX9_wayOf_24 : decode cX9_wayOf 24 = .ok (.iadd, 1) := by decide +kernel
theorem dX9_wayOf_25 : decode cX9_wayOf 25 = .ok (.goto 16, 3) := by decide +kernel
theorem dX9_wayOf_28 : decode cX9_wayOf 28 = .ok (.iload_n 3, 1) := by decide +kernel
theorem dX9_wayOf_29 : decode cX9_wayOf 29 = .ok (.iconst (-1), 1) := by decide +kernel
theorem dX9_wayOf_30 : decode cX9_wayOf 30 = .ok (.if_icmp .ne 10, 3) := by decide +kernel
theorem dX9_wayOf_33 : decode cX9_wayOf 33 = .ok (.aload_n 0, 1) := by decide +kernel
theorem dX9_wayOf_34 : decode cX9_wayOf 34 = .ok (.getfield 105, 3) := by decide +kernel
theorem dX9_wayOf_37 : decode cX9_wayOf 37 = .ok (.goto 4, 3) := by decide +kernel
theorem dX9_wayOf_40 : decode cX9_wayOf 40 = .ok (.iload_n 3, 1) := by decide +kernel
theorem dX9_wayOf_41 : decode cX9_wayOf 41 = .ok (.ireturn, 1) := by decide +kernel
theorem dX9_comes_0 : decode cX9_comes 0 = .ok (.iconst 1, 1) := by decide +kernel
theorem dX9_comes_1 : decode cX9_comes 1 = .ok (.iload_n 2, 1) := by decide +kernel
theorem dX9_comes_2 : decode cX9_comes 2 = .ok (.ishl, 1) := by decide +kernel
theorem dX9_comes_3 : decode cX9_comes 3 = .ok (.istore 5, 2) := by decide +kernel
theorem dX9_comes_5 : decode cX9_comes 5 = .ok (.iload_n 2, 1) := by decide +kernel
theorem dX9_comes_6 : decode cX9_comes 6 = .ok (.istore 6, 2) := by decide +kernel
theorem dX9_comes_8 : decode cX9_comes 8 = .ok (.iload 6, 2) := by decide +kernel
theorem dX9_comes_10 : decode cX9_comes 10 = .ok (.aload_n 0, 1) := by decide +kernel
theorem dX9_comes_11 : decode cX9_comes 11 = .ok (.getfield 105, 3) := by decide +kernel
theorem dX9_comes_14 : decode cX9_comes 14 = .ok (.if_icmp .ge 69, 3) := by decide +kernel
theorem dX9_comes_17 : decode cX9_comes 17 = .ok (.iload 5, 2) := by decide +kernel
theorem dX9_comes_19 : decode cX9_comes 19 = .ok (.iload 6, 2) := by decide +kernel
theorem dX9_comes_21 : decode cX9_comes 21 = .ok (.invokestatic 118, 3) := by decide +kernel
theorem dX9_comes_24 : decode cX9_comes 24 = .ok (.ifCond .eq 20, 3) := by decide +kernel
theorem dX9_comes_27 : decode cX9_comes 27 = .ok (.iload 6, 2) := by decide +kernel
theorem dX9_comes_29 : decode cX9_comes 29 = .ok (.iload 4, 2) := by decide +kernel
theorem dX9_comes_31 : decode cX9_comes 31 = .ok (.if_icmp .ne 9, 3) := by decide +kernel
theorem dX9_comes_34 : decode cX9_comes 34 = .ok (.iload 6, 2) := by decide +kernel
theorem dX9_comes_36 : decode cX9_comes 36 = .ok (.iload_n 2, 1) := by decide +kernel
theorem dX9_comes_37 : decode cX9_comes 37 = .ok (.if_icmp .ne 7, 3) := by decide +kernel
theorem dX9_comes_40 : decode cX9_comes 40 = .ok (.iconst 1, 1) := by decide +kernel
theorem dX9_comes_41 : decode cX9_comes 41 = .ok (.goto 4, 3) := by decide +kernel
theorem dX9_comes_44 : decode cX9_comes 44 = .ok (.iconst 0, 1) := by decide +kernel
theorem dX9_comes_45 : decode cX9_comes 45 = .ok (.istore 7, 2) := by decide +kernel
theorem dX9_comes_47 : decode cX9_comes 47 = .ok (.iload 5, 2) := by decide +kernel
theorem dX9_comes_49 : decode cX9_comes 49 = .ok (.iload 7, 2) := by decide +kernel
theorem dX9_comes_51 : decode cX9_comes 51 = .ok (.ifCond .eq 22, 3) := by decide +kernel
theorem dX9_comes_54 : decode cX9_comes 54 = .ok (.iconst 1, 1) := by decide +kernel
theorem dX9_comes_55 : decode cX9_comes 55 = .ok (.iload 6, 2) := by decide +kernel
theorem dX9_comes_57 : decode cX9_comes 57 = .ok (.iconst 1, 1) := by decide +kernel
theorem dX9_comes_58 : decode cX9_comes 58 = .ok (.iadd, 1) := by decide +kernel
theorem dX9_comes_59 : decode cX9_comes 59 = .ok (.ishl, 1) := by decide +kernel
theorem dX9_comes_60 : decode cX9_comes 60 = .ok (.iconst 1, 1) := by decide +kernel
theorem dX9_comes_61 : decode cX9_comes 61 = .ok (.aload_n 0, 1) := by decide +kernel
theorem dX9_comes_62 : decode cX9_comes 62 = .ok (.iload_n 1, 1) := by decide +kernel
theorem dX9_comes_63 : decode cX9_comes 63 = .ok (.iload 6, 2) := by decide +kernel
theorem dX9_comes_65 : decode cX9_comes 65 = .ok (.invokevirtual 122, 3) := by decide +kernel
theorem dX9_comes_68 : decode cX9_comes 68 = .ok (.ishl, 1) := by decide +kernel
theorem dX9_comes_69 : decode cX9_comes 69 = .ok (.ior, 1) := by decide +kernel
theorem dX9_comes_70 : decode cX9_comes 70 = .ok (.goto 4, 3) := by decide +kernel
theorem dX9_comes_73 : decode cX9_comes 73 = .ok (.iconst 0, 1) := by decide +kernel
theorem dX9_comes_74 : decode cX9_comes 74 = .ok (.ior, 1) := by decide +kernel
theorem dX9_comes_75 : decode cX9_comes 75 = .ok (.istore 5, 2) := by decide +kernel
theorem dX9_comes_77 : decode cX9_comes 77 = .ok (.iinc 6 1, 3) := by decide +kernel
theorem dX9_comes_80 : decode cX9_comes 80 = .ok (.goto (-72), 3) := by decide +kernel
theorem dX9_comes_83 : decode cX9_comes 83 = .ok (.iload 5, 2) := by decide +kernel
theorem dX9_comes_85 : decode cX9_comes 85 = .ok (.iload_n 3, 1) := by decide +kernel
theorem dX9_comes_86 : decode cX9_comes 86 = .ok (.invokestatic 118, 3) := by decide +kernel
theorem dX9_comes_89 : decode cX9_comes 89 = .ok (.ireturn, 1) := by decide +kernel
theorem dX9_meetingOf_0 : decode cX9_meetingOf 0 = .ok (.iload_n 2, 1) := by decide +kernel
theorem dX9_meetingOf_1 : decode cX9_meetingOf 1 = .ok (.iconst 1, 1) := by decide +kernel
theorem dX9_meetingOf_2 : decode cX9_meetingOf 2 = .ok (.iadd, 1) := by decide +kernel
theorem dX9_meetingOf_3 : decode cX9_meetingOf 3 = .ok (.istore_n 3, 1) := by decide +kernel
theorem dX9_meetingOf_4 : decode cX9_meetingOf 4 = .ok (.iload_n 3, 1) := by decide +kernel
theorem dX9_meetingOf_5 : decode cX9_meetingOf 5 = .ok (.aload_n 0, 1) := by decide +kernel
theorem dX9_meetingOf_6 : decode cX9_meetingOf 6 = .ok (.getfield 105, 3) := by decide +kernel
theorem dX9_meetingOf_9 : decode cX9_meetingOf 9 = .ok (.if_icmp .ge 37, 3) := by decide +kernel
theorem dX9_meetingOf_12 : decode cX9_meetingOf 12 = .ok (.aload_n 0, 1) := by decide +kernel
theorem dX9_meetingOf_13 : decode cX9_meetingOf 13 = .ok (.iload_n 1, 1) := by decide +kernel
theorem dX9_meetingOf_14 : decode cX9_meetingOf 14 = .ok (.iload_n 2, 1) := by decide +kernel
theorem dX9_meetingOf_15 : decode cX9_meetingOf 15 = .ok (.iload_n 3, 1) := by decide +kernel
theorem dX9_meetingOf_16 : decode cX9_meetingOf 16 = .ok (.bipush (-9), 2) := by decide +kernel
theorem dX9_meetingOf_18 : decode cX9_meetingOf 18 = .ok (.invokevirtual 125, 3) := by decide +kernel
theorem dX9_meetingOf_21 : decode cX9_meetingOf 21 = .ok (.ifCond .eq 19, 3) := by decide +kernel
theorem dX9_meetingOf_24 : decode cX9_meetingOf 24 = .ok (.aload_n 0, 1) := by decide +kernel
theorem dX9_meetingOf_25 : decode cX9_meetingOf 25 = .ok (.iload_n 1, 1) := by decide +kernel
theorem dX9_meetingOf_26 : decode cX9_meetingOf 26 = .ok (.iload_n 2, 1) := by decide +kernel
theorem dX9_meetingOf_27 : decode cX9_meetingOf 27 = .ok (.aload_n 0, 1) := by decide +kernel
theorem dX9_meetingOf_28 : decode cX9_meetingOf 28 = .ok (.getfield 105, 3) := by decide +kernel
theorem dX9_meetingOf_31 : decode cX9_meetingOf 31 = .ok (.iload_n 3, 1) := by decide +kernel
theorem dX9_meetingOf_32 : decode cX9_meetingOf 32 = .ok (.invokevirtual 125, 3) := by decide +kernel
theorem dX9_meetingOf_35 : decode cX9_meetingOf 35 = .ok (.ifCond .ne 5, 3) := by decide +kernel
theorem dX9_meetingOf_38 : decode cX9_meetingOf 38 = .ok (.iload_n 3, 1) := by decide +kernel
theorem dX9_meetingOf_39 : decode cX9_meetingOf 39 = .ok (.ireturn, 1) := by decide +kernel
theorem dX9_meetingOf_40 : decode cX9_meetingOf 40 = .ok (.iinc 3 1, 3) := by decide +kernel
theorem dX9_meetingOf_43 : decode cX9_meetingOf 43 = .ok (.goto (-39), 3) := by decide +kernel
theorem dX9_meetingOf_46 : decode cX9_meetingOf 46 = .ok (.aload_n 0, 1) := by decide +kernel
theorem dX9_meetingOf_47 : decode cX9_meetingOf 47 = .ok (.getfield 105, 3) := by decide +kernel
theorem dX9_meetingOf_50 : decode cX9_meetingOf 50 = .ok (.ireturn, 1) := by decide +kernel
theorem dX9_join_0 : decode cX9_join 0 = .ok (.iload_n 1, 1) := by decide +kernel
theorem dX9_join_1 : decode cX9_join 1 = .ok (.aload_n 0, 1) := by decide +kernel
theorem dX9_join_2 : decode cX9_join 2 = .ok (.getfield 105, 3) := by decide +kernel
theorem dX9_join_5 : decode cX9_join 5 = .ok (.if_icmp .ge 17, 3) := by decide +kernel
theorem dX9_join_8 : decode cX9_join 8 = .ok (.aload_n 0, 1) := by decide +kernel
theorem dX9_join_9 : decode cX9_join 9 = .ok (.getfield 16, 3) := by decide +kernel
theorem dX9_join_12 : decode cX9_join 12 = .ok (.iconst 5, 1) := by decide +kernel
theorem dX9_join_13 : decode cX9_join 13 = .ok (.iload_n 1, 1) := by decide +kernel
theorem dX9_join_14 : decode cX9_join 14 = .ok (.imul, 1) := by decide +kernel
theorem dX9_join_15 : decode cX9_join 15 = .ok (.iload_n 2, 1) := by decide +kernel
theorem dX9_join_16 : decode cX9_join 16 = .ok (.iadd, 1) := by decide +kernel
theorem dX9_join_17 : decode cX9_join 17 = .ok (.dup2, 1) := by decide +kernel
theorem dX9_join_18 : decode cX9_join 18 = .ok (.iaload, 1) := by decide +kernel
theorem dX9_join_19 : decode cX9_join 19 = .ok (.iload_n 3, 1) := by decide +kernel
theorem dX9_join_20 : decode cX9_join 20 = .ok (.ior, 1) := by decide +kernel
theorem dX9_join_21 : decode cX9_join 21 = .ok (.iastore, 1) := by decide +kernel
theorem dX9_join_22 : decode cX9_join 22 = .ok (.return_, 1) := by decide +kernel
theorem dX9_looksAt_0 : decode cX9_looksAt 0 = .ok (.aload_n 0, 1) := by decide +kernel
theorem dX9_looksAt_1 : decode cX9_looksAt 1 = .ok (.iload_n 1, 1) := by decide +kernel
theorem dX9_looksAt_2 : decode cX9_looksAt 2 = .ok (.iconst 0, 1) := by decide +kernel
theorem dX9_looksAt_3 : decode cX9_looksAt 3 = .ok (.iload_n 2, 1) := by decide +kernel
theorem dX9_looksAt_4 : decode cX9_looksAt 4 = .ok (.invokevirtual 114, 3) := by decide +kernel
theorem dX9_looksAt_7 : decode cX9_looksAt 7 = .ok (.istore_n 3, 1) := by decide +kernel
theorem dX9_looksAt_8 : decode cX9_looksAt 8 = .ok (.iload_n 3, 1) := by decide +kernel
theorem dX9_looksAt_9 : decode cX9_looksAt 9 = .ok (.iconst 2, 1) := by decide +kernel
theorem dX9_looksAt_10 : decode cX9_looksAt 10 = .ok (.if_icmp .ne 14, 3) := by decide +kernel
theorem dX9_looksAt_13 : decode cX9_looksAt 13 = .ok (.aload_n 0, 1) := by decide +kernel
theorem dX9_looksAt_14 : decode cX9_looksAt 14 = .ok (.iload_n 1, 1) := by decide +kernel
theorem dX9_looksAt_15 : decode cX9_looksAt 15 = .ok (.bipush 27, 2) := by decide +kernel
theorem dX9_looksAt_17 : decode cX9_looksAt 17 = .ok (.iload_n 2, 1) := by decide +kernel
theorem dX9_looksAt_18 : decode cX9_looksAt 18 = .ok (.invokevirtual 114, 3) := by decide +kernel
theorem dX9_looksAt_21 : decode cX9_looksAt 21 = .ok (.goto 11, 3) := by decide +kernel
theorem dX9_looksAt_24 : decode cX9_looksAt 24 = .ok (.aload_n 0, 1) := by decide +kernel
theorem dX9_looksAt_25 : decode cX9_looksAt 25 = .ok (.iload_n 1, 1) := by decide +kernel
theorem dX9_looksAt_26 : decode cX9_looksAt 26 = .ok (.bipush 9, 2) := by decide +kernel
theorem dX9_looksAt_28 : decode cX9_looksAt 28 = .ok (.iload_n 2, 1) := by decide +kernel
theorem dX9_looksAt_29 : decode cX9_looksAt 29 = .ok (.invokevirtual 114, 3) := by decide +kernel
theorem dX9_looksAt_32 : decode cX9_looksAt 32 = .ok (.ireturn, 1) := by decide +kernel
theorem dX9_findContext_0 : decode cX9_findContext 0 = .ok (.aload_n 0, 1) := by decide +kernel
theorem dX9_findContext_1 : decode cX9_findContext 1 = .ok (.getfield 19, 3) := by decide +kernel
theorem dX9_findContext_4 : decode cX9_findContext 4 = .ok (.iload_n 2, 1) := by decide +kernel
theorem dX9_findContext_5 : decode cX9_findContext 5 = .ok (.iconst 0, 1) := by decide +kernel
theorem dX9_findContext_6 : decode cX9_findContext 6 = .ok (.iastore, 1) := by decide +kernel
theorem dX9_findContext_7 : decode cX9_findContext 7 = .ok (.iconst 0, 1) := by decide +kernel
theorem dX9_findContext_8 : decode cX9_findContext 8 = .ok (.istore_n 3, 1) := by decide +kernel
theorem dX9_findContext_9 : decode cX9_findContext 9 = .ok (.iload_n 3, 1) := by decide +kernel
theorem dX9_findContext_10 : decode cX9_findContext 10 = .ok (.iload_n 2, 1) := by decide +kernel
theorem dX9_findContext_11 : decode cX9_findContext 11 = .ok (.if_icmp .ge 99, 3) := by decide +kernel
theorem dX9_findContext_14 : decode cX9_findContext 14 = .ok (.aload_n 0, 1) := by decide +kernel
theorem dX9_findContext_15 : decode cX9_findContext 15 = .ok (.iload_n 1, 1) := by decide +kernel
theorem dX9_findContext_16 : decode cX9_findContext 16 = .ok (.iload_n 3, 1) := by decide +kernel
theorem dX9_findContext_17 : decode cX9_findContext 17 = .ok (.invokevirtual 129, 3) := by decide +kernel
theorem dX9_findContext_20 : decode cX9_findContext 20 = .ok (.istore 4, 2) := by decide +kernel
theorem dX9_findContext_22 : decode cX9_findContext 22 = .ok (.aload_n 0, 1) := by decide +kernel
theorem dX9_findContext_23 : decode cX9_findContext 23 = .ok (.getfield 132, 3) := by decide +kernel
theorem dX9_findContext_26 : decode cX9_findContext 26 = .ok (.iload_n 3, 1) := by decide +kernel
theorem dX9_findContext_27 : decode cX9_findContext 27 = .ok (.invokestatic 118, 3) := by decide +kernel
theorem dX9_findContext_30 : decode cX9_findContext 30 = .ok (.ifCond .eq 38, 3) := by decide +kernel
theorem dX9_findContext_33 : decode cX9_findContext 33 = .ok (.aload_n 0, 1) := by decide +kernel
theorem dX9_findContext_34 : decode cX9_findContext 34 = .ok (.iload_n 1, 1) := by decide +kernel
theorem dX9_findContext_35 : decode cX9_findContext 35 = .ok (.iconst 0, 1) := by decide +kernel
theorem dX9_findContext_36 : decode cX9_findContext 36 = .ok (.iload_n 3, 1) := by decide +kernel
theorem dX9_findContext_37 : decode cX9_findContext 37 = .ok (.invokevirtual 114, 3) := by decide +kernel
theorem dX9_findContext_40 : decode cX9_findContext 40 = .ok (.invokestatic 87, 3) := by decide +kernel
theorem dX9_findContext_43 : decode cX9_findContext 43 = .ok (.ifCond .eq 25, 3) := by decide +kernel
theorem dX9_findContext_46 : decode cX9_findContext 46 = .ok (.iload_n 2, 1) := by decide +kernel
theorem dX9_findContext_47 : decode cX9_findContext 47 = .ok (.iload 4, 2) := by decide +kernel
theorem dX9_findContext_49 : decode cX9_findContext 49 = .ok (.if_icmp .ge 19, 3) := by decide +kernel
theorem dX9_findContext_52 : decode cX9_findContext 52 = .ok (.aload_n 0, 1) := by decide +kernel
theorem dX9_findContext_53 : decode cX9_findContext 53 = .ok (.iload_n 1, 1) := by decide +kernel
theorem dX9_findContext_54 : decode cX9_findContext 54 = .ok (.iload_n 3, 1) := by decide +kernel
theorem dX9_findContext_55 : decode cX9_findContext 55 = .ok (.iload_n 2, 1) := by decide +kernel
theorem dX9_findContext_56 : decode cX9_findContext 56 = .ok (.iload 4, 2) := by decide +kernel
theorem dX9_findContext_58 : decode cX9_findContext 58 = .ok (.invokevirtual 125, 3) := by decide +kernel
theorem dX9_findContext_61 : decode cX9_findContext 61 = .ok (.ifCond .eq 7, 3) := by decide +kernel
theorem dX9_findContext_64 : decode cX9_findContext 64 = .ok (.iconst 1, 1) := by decide +kernel
theorem dX9_findContext_65 : decode cX9_findContext 65 = .ok (.goto 4, 3) := by decide +kernel
theorem dX9_findContext_68 : decode cX9_findContext 68 = .ok (.iconst 0, 1) := by decide +kernel
theorem dX9_findContext_69 : decode cX9_findContext 69 = .ok (.istore 5, 2) := by decide +kernel
theorem dX9_findContext_71 : decode cX9_findContext 71 = .ok (.aload_n 0, 1) := by decide +kernel
theorem dX9_findContext_72 : decode cX9_findContext 72 = .ok (.getfield 19, 3) := by decide +kernel
theorem dX9_findContext_75 : decode cX9_findContext 75 = .ok (.iload_n 2, 1) := by decide +kernel
theorem dX9_findContext_76 : decode cX9_findContext 76 = .ok (.dup2, 1) := by decide +kernel
theorem dX9_findContext_77 : decode cX9_findContext 77 = .ok (.iaload, 1) := by decide +kernel
theorem dX9_findContext_78 : decode cX9_findContext 78 = .ok (.iload 5, 2) := by decide +kernel
theorem dX9_findContext_80 : decode cX9_findContext 80 = .ok (.ifCond .eq 21, 3) := by decide +kernel
theorem dX9_findContext_83 : decode cX9_findContext 83 = .ok (.aload_n 0, 1) := by decide +kernel
theorem dX9_findContext_84 : decode cX9_findContext 84 = .ok (.getfield 16, 3) := by decide +kernel
theorem dX9_findContext_87 : decode cX9_findContext 87 = .ok (.iconst 5, 1) := by decide +kernel
theorem dX9_findContext_88 : decode cX9_findContext 88 = .ok (.iload_n 3, 1) := by decide +kernel
theorem dX9_findContext_89 : decode cX9_findContext 89 = .ok (.imul, 1) := by decide +kernel
theorem dX9_findContext_90 : decode cX9_findContext 90 = .ok (.aload_n 0, 1) := by decide +kernel
theorem dX9_findContext_91 : decode cX9_findContext 91 = .ok (.iload_n 1, 1) := by decide +kernel
theorem dX9_findContext_92 : decode cX9_findContext 92 = .ok (.iload_n 3, 1) := by decide +kernel
theorem dX9_findContext_93 : decode cX9_findContext 93 = .ok (.invokevirtual 135, 3) := by decide +kernel
theorem dX9_findContext_96 : decode cX9_findContext 96 = .ok (.iadd, 1) := by decide +kernel
theorem dX9_findContext_97 : decode cX9_findContext 97 = .ok (.iaload, 1) := by decide +kernel
theorem dX9_findContext_98 : decode cX9_findContext 98 = .ok (.goto 4, 3) := by decide +kernel
theorem dX9_findContext_101 : decode cX9_findContext 101 = .ok (.iconst 0, 1) := by decide +kernel
theorem dX9_findContext_102 : decode cX9_findContext 102 = .ok (.ior, 1) := by decide +kernel
theorem dX9_findContext_103 : decode cX9_findContext 103 = .ok (.iastore, 1) := by decide +kernel
theorem dX9_findContext_104 : decode cX9_findContext 104 = .ok (.iinc 3 1, 3) := by decide +kernel
theorem dX9_findContext_107 : decode cX9_findContext 107 = .ok (.goto (-98), 3) := by decide +kernel
theorem dX9_findContext_110 : decode cX9_findContext 110 = .ok (.return_, 1) := by decide +kernel
theorem dX9_findLabels_0 : decode cX9_findLabels 0 = .ok (.iconst 0, 1) := by decide +kernel
theorem dX9_findLabels_1 : decode cX9_findLabels 1 = .ok (.istore_n 2, 1) := by decide +kernel
theorem dX9_findLabels_2 : decode cX9_findLabels 2 = .ok (.iload_n 2, 1) := by decide +kernel
theorem dX9_findLabels_3 : decode cX9_findLabels 3 = .ok (.bipush 50, 2) := by decide +kernel
theorem dX9_findLabels_5 : decode cX9_findLabels 5 = .ok (.if_icmp .ge 16, 3) := by decide +kernel
theorem dX9_findLabels_8 : decode cX9_findLabels 8 = .ok (.aload_n 0, 1) := by decide +kernel
theorem dX9_findLabels_9 : decode cX9_findLabels 9 = .ok (.getfield 16, 3) := by decide +kernel
theorem dX9_findLabels_12 : decode cX9_findLabels 12 = .ok (.iload_n 2, 1) := by decide +kernel
theorem dX9_findLabels_13 : decode cX9_findLabels 13 = .ok (.iconst 0, 1) := by decide +kernel
theorem dX9_findLabels_14 : decode cX9_findLabels 14 = .ok (.iastore, 1) := by decide +kernel
theorem dX9_findLabels_15 : decode cX9_findLabels 15 = .ok (.iinc 2 1, 3) := by decide +kernel
theorem dX9_findLabels_18 : decode cX9_findLabels 18 = .ok (.goto (-16), 3) := by decide +kernel
theorem dX9_findLabels_21 : decode cX9_findLabels 21 = .ok (.iconst 0, 1) := by decide +kernel
theorem dX9_findLabels_22 : decode cX9_findLabels 22 = .ok (.istore_n 2, 1) := by decide +kernel
theorem dX9_findLabels_23 : decode cX9_findLabels 23 = .ok (.iload_n 2, 1) := by decide +kernel
theorem dX9_findLabels_24 : decode cX9_findLabels 24 = .ok (.iconst 3, 1) := by decide +kernel
theorem dX9_findLabels_25 : decode cX9_findLabels 25 = .ok (.if_icmp .ge 29, 3) := by decide +kernel
theorem dX9_findLabels_28 : decode cX9_findLabels 28 = .ok (.aload_n 0, 1) := by decide +kernel
theorem dX9_findLabels_29 : decode cX9_findLabels 29 = .ok (.getfield 16, 3) := by decide +kernel
theorem dX9_findLabels_32 : decode cX9_findLabels 32 = .ok (.iload_n 2, 1) := by decide +kernel
theorem dX9_findLabels_33 : decode cX9_findLabels 33 = .ok (.aload_n 0, 1) := by decide +kernel
theorem dX9_findLabels_34 : decode cX9_findLabels 34 = .ok (.getfield 7, 3) := by decide +kernel
theorem dX9_findLabels_37 : decode cX9_findLabels 37 = .ok (.bipush 48, 2) := by decide +kernel
theorem dX9_findLabels_39 : decode cX9_findLabels 39 = .ok (.iload_n 1, 1) := by decide +kernel
theorem dX9_findLabels_40 : decode cX9_findLabels 40 = .ok (.imul, 1) := by decide +kernel
theorem dX9_findLabels_41 : decode cX9_findLabels 41 = .ok (.bipush 45, 2) := by decide +kernel
theorem dX9_findLabels_43 : decode cX9_findLabels 43 = .ok (.iadd, 1) := by decide +kernel
theorem dX9_findLabels_44 : decode cX9_findLabels 44 = .ok (.iload_n 2, 1) := by decide +kernel
theorem dX9_findLabels_45 : decode cX9_findLabels 45 = .ok (.iadd, 1) := by decide +kernel
theorem dX9_findLabels_46 : decode cX9_findLabels 46 = .ok (.iaload, 1) := by decide +kernel
theorem dX9_findLabels_47 : decode cX9_findLabels 47 = .ok (.iastore, 1) := by decide +kernel
theorem dX9_findLabels_48 : decode cX9_findLabels 48 = .ok (.iinc 2 1, 3) := by decide +kernel
theorem dX9_findLabels_51 : decode cX9_findLabels 51 = .ok (.goto (-28), 3) := by decide +kernel
theorem dX9_findLabels_54 : decode cX9_findLabels 54 = .ok (.aload_n 0, 1) := by decide +kernel
theorem dX9_findLabels_55 : decode cX9_findLabels 55 = .ok (.aload_n 0, 1) := by decide +kernel
theorem dX9_findLabels_56 : decode cX9_findLabels 56 = .ok (.getfield 105, 3) := by decide +kernel
theorem dX9_findLabels_59 : decode cX9_findLabels 59 = .ok (.ifCond .ne 7, 3) := by decide +kernel
theorem dX9_findLabels_62 : decode cX9_findLabels 62 = .ok (.iconst 0, 1) := by decide +kernel
theorem dX9_findLabels_63 : decode cX9_findLabels 63 = .ok (.goto 4, 3) := by decide +kernel
theorem dX9_findLabels_66 : decode cX9_findLabels 66 = .ok (.iconst 1, 1) := by decide +kernel
theorem dX9_findLabels_67 : decode cX9_findLabels 67 = .ok (.putfield 132, 3) := by decide +kernel
theorem dX9_findLabels_70 : decode cX9_findLabels 70 = .ok (.iconst 0, 1) := by decide +kernel
theorem dX9_findLabels_71 : decode cX9_findLabels 71 = .ok (.istore_n 2, 1) := by decide +kernel
theorem dX9_findLabels_72 : decode cX9_findLabels 72 = .ok (.iload_n 2, 1) := by decide +kernel
theorem dX9_findLabels_73 : decode cX9_findLabels 73 = .ok (.aload_n 0, 1) := by decide +kernel
theorem dX9_findLabels_74 : decode cX9_findLabels 74 = .ok (.getfield 105, 3) := by decide +kernel
theorem dX9_findLabels_77 : decode cX9_findLabels 77 = .ok (.if_icmp .ge 32, 3) := by decide +kernel
theorem dX9_findLabels_80 : decode cX9_findLabels 80 = .ok (.aload_n 0, 1) := by decide +kernel
theorem dX9_findLabels_81 : decode cX9_findLabels 81 = .ok (.iload_n 1, 1) := by decide +kernel
theorem dX9_findLabels_82 : decode cX9_findLabels 82 = .ok (.iload_n 2, 1) := by decide +kernel
theorem dX9_findLabels_83 : decode cX9_findLabels 83 = .ok (.invokevirtual 138, 3) := by decide +kernel
theorem dX9_findLabels_86 : decode cX9_findLabels 86 = .ok (.aload_n 0, 1) := by decide +kernel
theorem dX9_findLabels_87 : decode cX9_findLabels 87 = .ok (.getfield 132, 3) := by decide +kernel
theorem dX9_findLabels_90 : decode cX9_findLabels 90 = .ok (.iload_n 2, 1) := by decide +kernel
theorem dX9_findLabels_91 : decode cX9_findLabels 91 = .ok (.invokestatic 118, 3) := by decide +kernel
theorem dX9_findLabels_94 : decode cX9_findLabels 94 = .ok (.ifCond .eq 9, 3) := by decide +kernel
theorem dX9_findLabels_97 : decode cX9_findLabels 97 = .ok (.aload_n 0, 1) := by decide +kernel
theorem dX9_findLabels_98 : decode cX9_findLabels 98 = .ok (.iload_n 1, 1) := by decide +kernel
theorem dX9_findLabels_99 : decode cX9_findLabels 99 = .ok (.iload_n 2, 1) := by decide +kernel
theorem dX9_findLabels_100 : decode cX9_findLabels 100 = .ok (.invokevirtual 142, 3) := by decide +kernel
theorem dX9_findLabels_103 : decode cX9_findLabels 103 = .ok (.iinc 2 1, 3) := by decide +kernel
theorem dX9_findLabels_106 : decode cX9_findLabels 106 = .ok (.goto (-34), 3) := by decide +kernel
theorem dX9_findLabels_109 : decode cX9_findLabels 109 = .ok (.return_, 1) := by decide +kernel
theorem dX9_flow_0 : decode cX9_flow 0 = .ok (.aload_n 0, 1) := by decide +kernel
theorem dX9_flow_1 : decode cX9_flow 1 = .ok (.iload_n 1, 1) := by decide +kernel
theorem dX9_flow_2 : decode cX9_flow 2 = .ok (.iconst 0, 1) := by decide +kernel
theorem dX9_flow_3 : decode cX9_flow 3 = .ok (.iload_n 2, 1) := by decide +kernel
theorem dX9_flow_4 : decode cX9_flow 4 = .ok (.invokevirtual 114, 3) := by decide +kernel
theorem dX9_flow_7 : decode cX9_flow 7 = .ok (.istore_n 3, 1) := by decide +kernel
theorem dX9_flow_8 : decode cX9_flow 8 = .ok (.aload_n 0, 1) := by decide +kernel
theorem dX9_flow_9 : decode cX9_flow 9 = .ok (.iload_n 1, 1) := by decide +kernel
theorem dX9_flow_10 : decode cX9_flow 10 = .ok (.iload_n 2, 1) := by decide +kernel
theorem dX9_flow_11 : decode cX9_flow 11 = .ok (.invokevirtual 122, 3) := by decide +kernel
theorem dX9_flow_14 : decode cX9_flow 14 = .ok (.istore 4, 2) := by decide +kernel
theorem dX9_flow_16 : decode cX9_flow 16 = .ok (.aload_n 0, 1) := by decide +kernel
theorem dX9_flow_17 : decode cX9_flow 17 = .ok (.dup, 1) := by decide +kernel
theorem dX9_flow_18 : decode cX9_flow 18 = .ok (.getfield 132, 3) := by decide +kernel
theorem dX9_flow_21 : decode cX9_flow 21 = .ok (.iconst 1, 1) := by decide +kernel
theorem dX9_flow_22 : decode cX9_flow 22 = .ok (.iload_n 2, 1) := by decide +kernel
theorem dX9_flow_23 : decode cX9_flow 23 = .ok (.iconst 1, 1) := by decide +kernel
theorem dX9_flow_24 : decode cX9_flow 24 = .ok (.iadd, 1) := by decide +kernel
theorem dX9_flow_25 : decode cX9_flow 25 = .ok (.ishl, 1) := by decide +kernel
theorem dX9_flow_26 : decode cX9_flow 26 = .ok (.iconst 1, 1) := by decide +kernel
theorem dX9_flow_27 : decode cX9_flow 27 = .ok (.iload 4, 2) := by decide +kernel
theorem dX9_flow_29 : decode cX9_flow 29 = .ok (.ishl, 1) := by decide +kernel
theorem dX9_flow_30 : decode cX9_flow 30 = .ok (.ior, 1) := by decide +kernel
theorem dX9_flow_31 : decode cX9_flow 31 = .ok (.ior, 1) := by decide +kernel
theorem dX9_flow_32 : decode cX9_flow 32 = .ok (.putfield 132, 3) := by decide +kernel
theorem dX9_flow_35 : decode cX9_flow 35 = .ok (.aload_n 0, 1) := by decide +kernel
theorem dX9_flow_36 : decode cX9_flow 36 = .ok (.dup, 1) := by decide +kernel
theorem dX9_flow_37 : decode cX9_flow 37 = .ok (.getfield 132, 3) := by decide +kernel
theorem dX9_flow_40 : decode cX9_flow 40 = .ok (.iconst 1, 1) := by decide +kernel
theorem dX9_flow_41 : decode cX9_flow 41 = .ok (.aload_n 0, 1) := by decide +kernel
