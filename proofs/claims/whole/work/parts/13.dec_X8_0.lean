theorem dX8_init_0 : decode cX8_init 0 = .ok (.aload_n 0, 1) := by decide +kernel
theorem dX8_init_1 : decode cX8_init 1 = .ok (.invokespecial 3, 3) := by decide +kernel
theorem dX8_init_4 : decode cX8_init 4 = .ok (.aload_n 0, 1) := by decide +kernel
theorem dX8_init_5 : decode cX8_init 5 = .ok (.new 9, 3) := by decide +kernel
theorem dX8_init_8 : decode cX8_init 8 = .ok (.dup, 1) := by decide +kernel
theorem dX8_init_9 : decode cX8_init 9 = .ok (.invokespecial 11, 3) := by decide +kernel
theorem dX8_init_12 : decode cX8_init 12 = .ok (.putfield 12, 3) := by decide +kernel
theorem dX8_init_15 : decode cX8_init 15 = .ok (.aload_n 0, 1) := by decide +kernel
theorem dX8_init_16 : decode cX8_init 16 = .ok (.new 16, 3) := by decide +kernel
theorem dX8_init_19 : decode cX8_init 19 = .ok (.dup, 1) := by decide +kernel
theorem dX8_init_20 : decode cX8_init 20 = .ok (.invokespecial 18, 3) := by decide +kernel
theorem dX8_init_23 : decode cX8_init 23 = .ok (.putfield 19, 3) := by decide +kernel
theorem dX8_init_26 : decode cX8_init 26 = .ok (.aload_n 0, 1) := by decide +kernel
theorem dX8_init_27 : decode cX8_init 27 = .ok (.new 16, 3) := by decide +kernel
theorem dX8_init_30 : decode cX8_init 30 = .ok (.dup, 1) := by decide +kernel
theorem dX8_init_31 : decode cX8_init 31 = .ok (.invokespecial 18, 3) := by decide +kernel
theorem dX8_init_34 : decode cX8_init 34 = .ok (.putfield 23, 3) := by decide +kernel
theorem dX8_init_37 : decode cX8_init 37 = .ok (.aload_n 0, 1) := by decide +kernel
theorem dX8_init_38 : decode cX8_init 38 = .ok (.new 26, 3) := by decide +kernel
theorem dX8_init_41 : decode cX8_init 41 = .ok (.dup, 1) := by decide +kernel
theorem dX8_init_42 : decode cX8_init 42 = .ok (.invokespecial 28, 3) := by decide +kernel
theorem dX8_init_45 : decode cX8_init 45 = .ok (.putfield 29, 3) := by decide +kernel
theorem dX8_init_48 : decode cX8_init 48 = .ok (.aload_n 0, 1) := by decide +kernel
theorem dX8_init_49 : decode cX8_init 49 = .ok (.iconst 2, 1) := by decide +kernel
theorem dX8_init_50 : decode cX8_init 50 = .ok (.anewarray 16, 3) := by decide +kernel
theorem dX8_init_53 : decode cX8_init 53 = .ok (.dup, 1) := by decide +kernel
theorem dX8_init_54 : decode cX8_init 54 = .ok (.iconst 0, 1) := by decide +kernel
theorem dX8_init_55 : decode cX8_init 55 = .ok (.new 16, 3) := by decide +kernel
theorem dX8_init_58 : decode cX8_init 58 = .ok (.dup, 1) := by decide +kernel
theorem dX8_init_59 : decode cX8_init 59 = .ok (.invokespecial 18, 3) := by decide +kernel
theorem dX8_init_62 : decode cX8_init 62 = .ok (.aastore, 1) := by decide +kernel
theorem dX8_init_63 : decode cX8_init 63 = .ok (.dup, 1) := by decide +kernel
theorem dX8_init_64 : decode cX8_init 64 = .ok (.iconst 1, 1) := by decide +kernel
theorem dX8_init_65 : decode cX8_init 65 = .ok (.new 16, 3) := by decide +kernel
theorem dX8_init_68 : decode cX8_init 68 = .ok (.dup, 1) := by decide +kernel
theorem dX8_init_69 : decode cX8_init 69 = .ok (.invokespecial 18, 3) := by decide +kernel
theorem dX8_init_72 : decode cX8_init 72 = .ok (.aastore, 1) := by decide +kernel
theorem dX8_init_73 : decode cX8_init 73 = .ok (.putfield 33, 3) := by decide +kernel
theorem dX8_init_76 : decode cX8_init 76 = .ok (.aload_n 0, 1) := by decide +kernel
theorem dX8_init_77 : decode cX8_init 77 = .ok (.iconst 2, 1) := by decide +kernel
theorem dX8_init_78 : decode cX8_init 78 = .ok (.newarray .boolean, 2) := by decide +kernel
theorem dX8_init_80 : decode cX8_init 80 = .ok (.putfield 37, 3) := by decide +kernel
theorem dX8_init_83 : decode cX8_init 83 = .ok (.aload_n 0, 1) := by decide +kernel
theorem dX8_init_84 : decode cX8_init 84 = .ok (.iconst 5, 1) := by decide +kernel
theorem dX8_init_85 : decode cX8_init 85 = .ok (.newarray .int, 2) := by decide +kernel
theorem dX8_init_87 : decode cX8_init 87 = .ok (.putfield 41, 3) := by decide +kernel
theorem dX8_init_90 : decode cX8_init 90 = .ok (.aload_n 0, 1) := by decide +kernel
theorem dX8_init_91 : decode cX8_init 91 = .ok (.new 45, 3) := by decide +kernel
theorem dX8_init_94 : decode cX8_init 94 = .ok (.dup, 1) := by decide +kernel
theorem dX8_init_95 : decode cX8_init 95 = .ok (.invokespecial 47, 3) := by decide +kernel
theorem dX8_init_98 : decode cX8_init 98 = .ok (.putfield 48, 3) := by decide +kernel
theorem dX8_init_101 : decode cX8_init 101 = .ok (.aload_n 0, 1) := by decide +kernel
theorem dX8_init_102 : decode cX8_init 102 = .ok (.new 52, 3) := by decide +kernel
theorem dX8_init_105 : decode cX8_init 105 = .ok (.dup, 1) := by decide +kernel
theorem dX8_init_106 : decode cX8_init 106 = .ok (.invokespecial 54, 3) := by decide +kernel
theorem dX8_init_109 : decode cX8_init 109 = .ok (.putfield 55, 3) := by decide +kernel
theorem dX8_init_112 : decode cX8_init 112 = .ok (.aload_n 0, 1) := by decide +kernel
theorem dX8_init_113 : decode cX8_init 113 = .ok (.new 52, 3) := by decide +kernel
theorem dX8_init_116 : decode cX8_init 116 = .ok (.dup, 1) := by decide +kernel
theorem dX8_init_117 : decode cX8_init 117 = .ok (.invokespecial 54, 3) := by decide +kernel
theorem dX8_init_120 : decode cX8_init 120 = .ok (.putfield 59, 3) := by decide +kernel
theorem dX8_init_123 : decode cX8_init 123 = .ok (.aload_n 0, 1) := by decide +kernel
theorem dX8_init_124 : decode cX8_init 124 = .ok (.new 62, 3) := by decide +kernel
theorem dX8_init_127 : decode cX8_init 127 = .ok (.dup, 1) := by decide +kernel
theorem dX8_init_128 : decode cX8_init 128 = .ok (.invokespecial 64, 3) := by decide +kernel
theorem dX8_init_131 : decode cX8_init 131 = .ok (.putfield 65, 3) := by decide +kernel
theorem dX8_init_134 : decode cX8_init 134 = .ok (.aload_n 0, 1) := by decide +kernel
theorem dX8_init_135 : decode cX8_init 135 = .ok (.new 69, 3) := by decide +kernel
theorem dX8_init_138 : decode cX8_init 138 = .ok (.dup, 1) := by decide +kernel
theorem dX8_init_139 : decode cX8_init 139 = .ok (.invokespecial 71, 3) := by decide +kernel
theorem dX8_init_142 : decode cX8_init 142 = .ok (.putfield 72, 3) := by decide +kernel
theorem dX8_init_145 : decode cX8_init 145 = .ok (.aload_n 0, 1) := by decide +kernel
theorem dX8_init_146 : decode cX8_init 146 = .ok (.new 76, 3) := by decide +kernel
theorem dX8_init_149 : decode cX8_init 149 = .ok (.dup, 1) := by decide +kernel
theorem dX8_init_150 : decode cX8_init 150 = .ok (.invokespecial 78, 3) := by decide +kernel
theorem dX8_init_153 : decode cX8_init 153 = .ok (.putfield 79, 3) := by decide +kernel
theorem dX8_init_156 : decode cX8_init 156 = .ok (.aload_n 0, 1) := by decide +kernel
theorem dX8_init_157 : decode cX8_init 157 = .ok (.lconst 0, 1) := by decide +kernel
theorem dX8_init_158 : decode cX8_init 158 = .ok (.putfield 83, 3) := by decide +kernel
theorem dX8_init_161 : decode cX8_init 161 = .ok (.return_, 1) := by decide +kernel
theorem dX8_write_0 : decode cX8_write 0 = .ok (.iload_n 1, 1) := by decide +kernel
theorem dX8_write_1 : decode cX8_write 1 = .ok (.ifCond .lt 10, 3) := by decide +kernel
theorem dX8_write_4 : decode cX8_write 4 = .ok (.iload_n 1, 1) := by decide +kernel
theorem dX8_write_5 : decode cX8_write 5 = .ok (.sipush 255, 3) := by decide +kernel
theorem dX8_write_8 : decode cX8_write 8 = .ok (.if_icmp .le 6, 3) := by decide +kernel
theorem dX8_write_11 : decode cX8_write 11 = .ok (.bipush (-2), 2) := by decide +kernel
theorem dX8_write_13 : decode cX8_write 13 = .ok (.ireturn, 1) := by decide +kernel
theorem dX8_write_14 : decode cX8_write 14 = .ok (.aload_n 0, 1) := by decide +kernel
theorem dX8_write_15 : decode cX8_write 15 = .ok (.getfield 12, 3) := by decide +kernel
theorem dX8_write_18 : decode cX8_write 18 = .ok (.iload_n 1, 1) := by decide +kernel
theorem dX8_write_19 : decode cX8_write 19 = .ok (.invokevirtual 87, 3) := by decide +kernel
theorem dX8_write_22 : decode cX8_write 22 = .ok (.ifCond .eq 13, 3) := by decide +kernel
theorem dX8_write_25 : decode cX8_write 25 = .ok (.aload_n 0, 1) := by decide +kernel
theorem dX8_write_26 : decode cX8_write 26 = .ok (.getfield 12, 3) := by decide +kernel
theorem dX8_write_29 : decode cX8_write 29 = .ok (.getfield 91, 3) := by decide +kernel
theorem dX8_write_32 : decode cX8_write 32 = .ok (.goto 5, 3) := by decide +kernel
theorem dX8_write_35 : decode cX8_write 35 = .ok (.bipush (-4), 2) := by decide +kernel
theorem dX8_write_37 : decode cX8_write 37 = .ok (.ireturn, 1) := by decide +kernel
theorem dX8_wipe_0 : decode cX8_wipe 0 = .ok (.aload_n 0, 1) := by decide +kernel
theorem dX8_wipe_1 : decode cX8_wipe 1 = .ok (.getfield 12, 3) := by decide +kernel
theorem dX8_wipe_4 : decode cX8_wipe 4 = .ok (.getfield 91, 3) := by decide +kernel
theorem dX8_wipe_7 : decode cX8_wipe 7 = .ok (.istore_n 1, 1) := by decide +kernel
theorem dX8_wipe_8 : decode cX8_wipe 8 = .ok (.aload_n 0, 1) := by decide +kernel
theorem dX8_wipe_9 : decode cX8_wipe 9 = .ok (.getfield 12, 3) := by decide +kernel
theorem dX8_wipe_12 : decode cX8_wipe 12 = .ok (.iconst 0, 1) := by decide +kernel
theorem dX8_wipe_13 : decode cX8_wipe 13 = .ok (.putfield 91, 3) := by decide +kernel
theorem dX8_wipe_16 : decode cX8_wipe 16 = .ok (.iload_n 1, 1) := by decide +kernel
theorem dX8_wipe_17 : decode cX8_wipe 17 = .ok (.ireturn, 1) := by decide +kernel
theorem dX8_fault_0 : decode cX8_fault 0 = .ok (.aload_n 0, 1) := by decide +kernel
theorem dX8_fault_1 : decode cX8_fault 1 = .ok (.getfield 12, 3) := by decide +kernel
theorem dX8_fault_4 : decode cX8_fault 4 = .ok (.aload_n 0, 1) := by decide +kernel
theorem dX8_fault_5 : decode cX8_fault 5 = .ok (.getfield 19, 3) := by decide +kernel
theorem dX8_fault_8 : decode cX8_fault 8 = .ok (.invokevirtual 95, 3) := by decide +kernel
theorem dX8_fault_11 : decode cX8_fault 11 = .ok (.ireturn, 1) := by decide +kernel
theorem dX8_program_0 : decode cX8_program 0 = .ok (.aload_n 0, 1) := by decide +kernel
theorem dX8_program_1 : decode cX8_program 1 = .ok (.getfield 12, 3) := by decide +kernel
theorem dX8_program_4 : decode cX8_program 4 = .ok (.aload_n 0, 1) := by decide +kernel
theorem dX8_program_5 : decode cX8_program 5 = .ok (.getfield 19, 3) := by decide +kernel
theorem dX8_program_8 : decode cX8_program 8 = .ok (.invokevirtual 95, 3) := by decide +kernel
theorem dX8_program_11 : decode cX8_program 11 = .ok (.bipush (-9), 2) := by decide +kernel
theorem dX8_program_13 : decode cX8_program 13 = .ok (.if_icmp .eq 6, 3) := by decide +kernel
theorem dX8_program_16 : decode cX8_program 16 = .ok (.bipush (-3), 2) := by decide +kernel
theorem dX8_program_18 : decode cX8_program 18 = .ok (.ireturn, 1) := by decide +kernel
theorem dX8_program_19 : decode cX8_program 19 = .ok (.aload_n 0, 1) := by decide +kernel
theorem dX8_program_20 : decode cX8_program 20 = .ok (.getfield 23, 3) := by decide +kernel
theorem dX8_program_23 : decode cX8_program 23 = .ok (.aload_n 0, 1) := by decide +kernel
theorem dX8_program_24 : decode cX8_program 24 = .ok (.getfield 19, 3) := by decide +kernel
theorem dX8_program_27 : decode cX8_program 27 = .ok (.invokevirtual 99, 3) := by decide +kernel
theorem dX8_program_30 : decode cX8_program 30 = .ok (.aload_n 0, 1) := by decide +kernel
theorem dX8_program_31 : decode cX8_program 31 = .ok (.getfield 29, 3) := by decide +kernel
theorem dX8_program_34 : decode cX8_program 34 = .ok (.iconst 0, 1) := by decide +kernel
theorem dX8_program_35 : decode cX8_program 35 = .ok (.putfield 103, 3) := by decide +kernel
theorem dX8_program_38 : decode cX8_program 38 = .ok (.iconst 0, 1) := by decide +kernel
theorem dX8_program_39 : decode cX8_program 39 = .ok (.istore_n 1, 1) := by decide +kernel
theorem dX8_program_40 : decode cX8_program 40 = .ok (.iload_n 1, 1) := by decide +kernel
theorem dX8_program_41 : decode cX8_program 41 = .ok (.iconst 2, 1) := by decide +kernel
theorem dX8_program_42 : decode cX8_program 42 = .ok (.if_icmp .ge 16, 3) := by decide +kernel
theorem dX8_program_45 : decode cX8_program 45 = .ok (.aload_n 0, 1) := by decide +kernel
theorem dX8_program_46 : decode cX8_program 46 = .ok (.getfield 37, 3) := by decide +kernel
theorem dX8_program_49 : decode cX8_program 49 = .ok (.iload_n 1, 1) := by decide +kernel
theorem dX8_program_50 : decode cX8_program 50 = .ok (.iconst 0, 1) := by decide +kernel
theorem dX8_program_51 : decode cX8_program 51 = .ok (.bastore, 1) := by decide +kernel
theorem dX8_program_52 : decode cX8_program 52 = .ok (.iinc 1 1, 3) := by decide +kernel
theorem dX8_program_55 : decode cX8_program 55 = .ok (.goto (-15), 3) := by decide +kernel
theorem dX8_program_58 : decode cX8_program 58 = .ok (.aload_n 0, 1) := by decide +kernel
theorem dX8_program_59 : decode cX8_program 59 = .ok (.getfield 23, 3) := by decide +kernel
theorem dX8_program_62 : decode cX8_program 62 = .ok (.getfield 104, 3) := by decide +kernel
theorem dX8_program_65 : decode cX8_program 65 = .ok (.ireturn, 1) := by decide +kernel
theorem dX8_line_0 : decode cX8_line 0 = .ok (.aload_n 0, 1) := by decide +kernel
theorem dX8_line_1 : decode cX8_line 1 = .ok (.getfield 23, 3) := by decide +kernel
theorem dX8_line_4 : decode cX8_line 4 = .ok (.iload_n 1, 1) := by decide +kernel
theorem dX8_line_5 : decode cX8_line 5 = .ok (.invokevirtual 105, 3) := by decide +kernel
theorem dX8_line_8 : decode cX8_line 8 = .ok (.ifCond .ne 5, 3) := by decide +kernel
theorem dX8_line_11 : decode cX8_line 11 = .ok (.iconst (-1), 1) := by decide +kernel
theorem dX8_line_12 : decode cX8_line 12 = .ok (.ireturn, 1) := by decide +kernel
theorem dX8_line_13 : decode cX8_line 13 = .ok (.iload_n 2, 1) := by decide +kernel
theorem dX8_line_14 : decode cX8_line 14 = .ok (.iconst 5, 1) := by decide +kernel
theorem dX8_line_15 : decode cX8_line 15 = .ok (.invokestatic 108, 3) := by decide +kernel
theorem dX8_line_18 : decode cX8_line 18 = .ok (.ifCond .eq 17, 3) := by decide +kernel
theorem dX8_line_21 : decode cX8_line 21 = .ok (.aload_n 0, 1) := by decide +kernel
theorem dX8_line_22 : decode cX8_line 22 = .ok (.getfield 23, 3) := by decide +kernel
theorem dX8_line_25 : decode cX8_line 25 = .ok (.getfield 112, 3) := by decide +kernel
theorem dX8_line_28 : decode cX8_line 28 = .ok (.iload_n 1, 1) := by decide +kernel
theorem dX8_line_29 : decode cX8_line 29 = .ok (.aaload, 1) := by decide +kernel
theorem dX8_line_30 : decode cX8_line 30 = .ok (.iload_n 2, 1) := by decide +kernel
theorem dX8_line_31 : decode cX8_line 31 = .ok (.iaload, 1) := by decide +kernel
theorem dX8_line_32 : decode cX8_line 32 = .ok (.goto 5, 3) := by decide +kernel
theorem dX8_line_35 : decode cX8_line 35 = .ok (.bipush (-2), 2) := by decide +kernel
theorem dX8_line_37 : decode cX8_line 37 = .ok (.ireturn, 1) := by decide +kernel
theorem dX8_tell_0 : decode cX8_tell 0 = .ok (.aload_n 0, 1) := by decide +kernel
theorem dX8_tell_1 : decode cX8_tell 1 = .ok (.getfield 23, 3) := by decide +kernel
theorem dX8_tell_4 : decode cX8_tell 4 = .ok (.iload_n 1, 1) := by decide +kernel
theorem dX8_tell_5 : decode cX8_tell 5 = .ok (.invokevirtual 105, 3) := by decide +kernel
theorem dX8_tell_8 : decode cX8_tell 8 = .ok (.ifCond .ne 5, 3) := by decide +kernel
theorem dX8_tell_11 : decode cX8_tell 11 = .ok (.iconst (-1), 1) := by decide +kernel
theorem dX8_tell_12 : decode cX8_tell 12 = .ok (.ireturn, 1) := by decide +kernel
theorem dX8_tell_13 : decode cX8_tell 13 = .ok (.aload_n 0, 1) := by decide +kernel
theorem dX8_tell_14 : decode cX8_tell 14 = .ok (.getfield 41, 3) := by decide +kernel
theorem dX8_tell_17 : decode cX8_tell 17 = .ok (.iconst 0, 1) := by decide +kernel
theorem dX8_tell_18 : decode cX8_tell 18 = .ok (.iload_n 2, 1) := by decide +kernel
theorem dX8_tell_19 : decode cX8_tell 19 = .ok (.iastore, 1) := by decide +kernel
theorem dX8_tell_20 : decode cX8_tell 20 = .ok (.aload_n 0, 1) := by decide +kernel
theorem dX8_tell_21 : decode cX8_tell 21 = .ok (.getfield 41, 3) := by decide +kernel
theorem dX8_tell_24 : decode cX8_tell 24 = .ok (.iconst 1, 1) := by decide +kernel
theorem dX8_tell_25 : decode cX8_tell 25 = .ok (.iload_n 3, 1) := by decide +kernel
theorem dX8_tell_26 : decode cX8_tell 26 = .ok (.iastore, 1) := by decide +kernel
theorem dX8_tell_27 : decode cX8_tell 27 = .ok (.aload_n 0, 1) := by decide +kernel
theorem dX8_tell_28 : decode cX8_tell 28 = .ok (.getfield 41, 3) := by decide +kernel
theorem dX8_tell_31 : decode cX8_tell 31 = .ok (.iconst 2, 1) := by decide +kernel
theorem dX8_tell_32 : decode cX8_tell 32 = .ok (.iload 4, 2) := by decide +kernel
theorem dX8_tell_34 : decode cX8_tell 34 = .ok (.iastore, 1) := by decide +kernel
theorem dX8_tell_35 : decode cX8_tell 35 = .ok (.aload_n 0, 1) := by decide +kernel
theorem dX8_tell_36 : decode cX8_tell 36 = .ok (.getfield 41, 3) := by decide +kernel
theorem dX8_tell_39 : decode cX8_tell 39 = .ok (.iconst 3, 1) := by decide +kernel
theorem dX8_tell_40 : decode cX8_tell 40 = .ok (.iload 5, 2) := by decide +kernel
theorem dX8_tell_42 : decode cX8_tell 42 = .ok (.iastore, 1) := by decide +kernel
theorem dX8_tell_43 : decode cX8_tell 43 = .ok (.aload_n 0, 1) := by decide +kernel
theorem dX8_tell_44 : decode cX8_tell 44 = .ok (.getfield 41, 3) := by decide +kernel
theorem dX8_tell_47 : decode cX8_tell 47 = .ok (.iconst 4, 1) := by decide +kernel
theorem dX8_tell_48 : decode cX8_tell 48 = .ok (.iload 6, 2) := by decide +kernel
theorem dX8_tell_50 : decode cX8_tell 50 = .ok (.iastore, 1) := by decide +kernel
theorem dX8_tell_51 : decode cX8_tell 51 = .ok (.aload_n 0, 1) := by decide +kernel
theorem dX8_tell_52 : decode cX8_tell 52 = .ok (.iload_n 1, 1) := by decide +kernel
theorem dX8_tell_53 : decode cX8_tell 53 = .ok (.invokevirtual 116, 3) := by decide +kernel
theorem dX8_tell_56 : decode cX8_tell 56 = .ok (.ifCond .ne 6, 3) := by decide +kernel
theorem dX8_tell_59 : decode cX8_tell 59 = .ok (.bipush (-2), 2) := by decide +kernel
theorem dX8_tell_61 : decode cX8_tell 61 = .ok (.ireturn, 1) := by decide +kernel
theorem dX8_tell_62 : decode cX8_tell 62 = .ok (.aload_n 0, 1) := by decide +kernel
theorem dX8_tell_63 : decode cX8_tell 63 = .ok (.getfield 23, 3) := by decide +kernel
theorem dX8_tell_66 : decode cX8_tell 66 = .ok (.getfield 112, 3) := by decide +kernel
theorem dX8_tell_69 : decode cX8_tell 69 = .ok (.iload_n 1, 1) := by decide +kernel
theorem dX8_tell_70 : decode cX8_tell 70 = .ok (.aaload, 1) := by decide +kernel
theorem dX8_tell_71 : decode cX8_tell 71 = .ok (.iconst 0, 1) := by decide +kernel
theorem dX8_tell_72 : decode cX8_tell 72 = .ok (.iaload, 1) := by decide +kernel
theorem dX8_tell_73 : decode cX8_tell 73 = .ok (.istore 7, 2) := by decide +kernel
theorem dX8_tell_75 : decode cX8_tell 75 = .ok (.aload_n 0, 1) := by decide +kernel
theorem dX8_tell_76 : decode cX8_tell 76 = .ok (.getfield 29, 3) := by decide +kernel
theorem dX8_tell_79 : decode cX8_tell 79 = .ok (.aload_n 0, 1) := by decide +kernel
theorem dX8_tell_80 : decode cX8_tell 80 = .ok (.getfield 23, 3) := by decide +kernel
theorem dX8_tell_83 : decode cX8_tell 83 = .ok (.iload_n 1, 1) := by decide +kernel
theorem dX8_tell_84 : decode cX8_tell 84 = .ok (.invokevirtual 119, 3) := by decide +kernel
theorem dX8_tell_87 : decode cX8_tell 87 = .ok (.aload_n 0, 1) := by decide +kernel
theorem dX8_tell_88 : decode cX8_tell 88 = .ok (.getfield 41, 3) := by decide +kernel
theorem dX8_tell_91 : decode cX8_tell 91 = .ok (.iconst 0, 1) := by decide +kernel
theorem dX8_tell_92 : decode cX8_tell 92 = .ok (.aload_n 0, 1) := by decide +kernel
theorem dX8_tell_93 : decode cX8_tell 93 = .ok (.getfield 23, 3) := by decide +kernel
theorem dX8_tell_96 : decode cX8_tell 96 = .ok (.getfield 112, 3) := by decide +kernel
theorem dX8_tell_99 : decode cX8_tell 99 = .ok (.iload_n 1, 1) := by decide +kernel
theorem dX8_tell_100 : decode cX8_tell 100 = .ok (.aaload, 1) := by decide +kernel
theorem dX8_tell_101 : decode cX8_tell 101 = .ok (.iconst 0, 1) := by decide +kernel
theorem dX8_tell_102 : decode cX8_tell 102 = .ok (.iconst 5, 1) := by decide +kernel
theorem dX8_tell_103 : decode cX8_tell 103 = .ok (.invokestatic 123, 3) := by decide +kernel
theorem dX8_tell_106 : decode cX8_tell 106 = .ok (.iload 7, 2) := by decide +kernel
theorem dX8_tell_108 : decode cX8_tell 108 = .ok (.ireturn, 1) := by decide +kernel
theorem dX8_makeTold_0 : decode cX8_makeTold 0 = .ok (.aload_n 0, 1) := by decide +kernel
theorem dX8_makeTold_1 : decode cX8_makeTold 1 = .ok (.getfield 41, 3) := by decide +kernel
theorem dX8_makeTold_4 : decode cX8_makeTold 4 = .ok (.iconst 0, 1) := by decide +kernel
theorem dX8_makeTold_5 : decode cX8_makeTold 5 = .ok (.iaload, 1) := by decide +kernel
theorem dX8_makeTold_6 : decode cX8_makeTold 6 = .ok (.istore_n 2, 1) := by decide +kernel
theorem dX8_makeTold_7 : decode cX8_makeTold 7 = .ok (.iload_n 2, 1) := by decide +kernel
theorem dX8_makeTold_8 : decode cX8_makeTold 8 = .ok (.bipush 7, 2) := by decide +kernel
theorem dX8_makeTold_10 : decode cX8_makeTold 10 = .ok (.invokestatic 108, 3) := by decide +kernel
theorem dX8_makeTold_13 : decode cX8_makeTold 13 = .ok (.ifCond .ne 5, 3) := by decide +kernel
theorem dX8_makeTold_16 : decode cX8_makeTold 16 = .ok (.iconst 0, 1) := by decide +kernel
theorem dX8_makeTold_17 : decode cX8_makeTold 17 = .ok (.ireturn, 1) := by decide +kernel
theorem dX8_makeTold_18 : decode cX8_makeTold 18 = .ok (.iconst 1, 1) := by decide +kernel
theorem dX8_makeTold_19 : decode cX8_makeTold 19 = .ok (.istore_n 3, 1) := by decide +kernel
theorem dX8_makeTold_20 : decode cX8_makeTold 20 = .ok (.iload_n 3, 1) := by decide +kernel
theorem dX8_makeTold_21 : decode cX8_makeTold 21 = .ok (.iconst 5, 1) := by decide +kernel
theorem dX8_makeTold_22 : decode cX8_makeTold 22 = .ok (.if_icmp .ge 60, 3) := by decide +kernel
theorem dX8_makeTold_25 : decode cX8_makeTold 25 = .ok (.iload_n 2, 1) := by decide +kernel
theorem dX8_makeTold_26 : decode cX8_makeTold 26 = .ok (.iload_n 3, 1) := by decide +kernel
theorem dX8_makeTold_27 : decode cX8_makeTold 27 = .ok (.invokestatic 129, 3) := by decide +kernel
theorem dX8_makeTold_30 : decode cX8_makeTold 30 = .ok (.ifCond .eq 27, 3) := by decide +kernel
theorem dX8_makeTold_33 : decode cX8_makeTold 33 = .ok (.iload_n 2, 1) := by decide +kernel
theorem dX8_makeTold_34 : decode cX8_makeTold 34 = .ok (.iload_n 3, 1) := by decide +kernel
theorem dX8_makeTold_35 : decode cX8_makeTold 35 = .ok (.aload_n 0, 1) := by decide +kernel
theorem dX8_makeTold_36 : decode cX8_makeTold 36 = .ok (.getfield 41, 3) := by decide +kernel
theorem dX8_makeTold_39 : decode cX8_makeTold 39 = .ok (.iload_n 3, 1) := by decide +kernel
theorem dX8_makeTold_40 : decode cX8_makeTold 40 = .ok (.iaload, 1) := by decide +kernel
theorem dX8_makeTold_41 : decode cX8_makeTold 41 = .ok (.iload_n 1, 1) := by decide +kernel
theorem dX8_makeTold_42 : decode cX8_makeTold 42 = .ok (.aload_n 0, 1) := by decide +kernel
theorem dX8_makeTold_43 : decode cX8_makeTold 43 = .ok (.getfield 23, 3) := by decide +kernel
theorem dX8_makeTold_46 : decode cX8_makeTold 46 = .ok (.getfield 104, 3) := by decide +kernel
theorem dX8_makeTold_49 : decode cX8_makeTold 49 = .ok (.invokestatic 132, 3) := by decide +kernel
theorem dX8_makeTold_52 : decode cX8_makeTold 52 = .ok (.ifCond .ne 24, 3) := by decide +kernel
theorem dX8_makeTold_55 : decode cX8_makeTold 55 = .ok (.iconst 0, 1) := by decide +kernel
theorem dX8_makeTold_56 : decode cX8_makeTold 56 = .ok (.ireturn, 1) := by decide +kernel
theorem dX8_makeTold_57 : decode cX8_makeTold 57 = .ok (.aload_n 0, 1) := by decide +kernel
theorem dX8_makeTold_58 : decode cX8_makeTold 58 = .ok (.getfield 41, 3) := by decide +kernel
theorem dX8_makeTold_61 : decode cX8_makeTold 61 = .ok (.iload_n 3, 1) := by decide +kernel
theorem dX8_makeTold_62 : decode cX8_makeTold 62 = .ok (.iaload, 1) := by decide +kernel
theorem dX8_makeTold_63 : decode cX8_makeTold 63 = .ok (.ifCond .eq 5, 3) := by decide +kernel
theorem dX8_makeTold_66 : decode cX8_makeTold 66 = .ok (.iconst 0, 1) := by decide +kernel
theorem dX8_makeTold_67 : decode cX8_makeTold 67 = .ok (.ireturn, 1) := by decide +kernel
theorem dX8_makeTold_68 : decode cX8_makeTold 68 = .ok (.aload_n 0, 1) := by decide +kernel
theorem dX8_makeTold_69 : decode cX8_makeTold 69 = .ok (.getfield 41, 3) := by decide +kernel
theorem dX8_makeTold_72 : decode cX8_makeTold 72 = .ok (.iload_n 3, 1) := by decide +kernel
theorem dX8_makeTold_73 : decode cX8_makeTold 73 = .ok (.bipush (-9), 2) := by decide +kernel
theorem dX8_makeTold_75 : decode cX8_makeTold 75 = .ok (.iastore, 1) := by decide +kernel
theorem dX8_makeTold_76 : decode cX8_makeTold 76 = .ok (.iinc 3 1, 3) := by decide +kernel
theorem dX8_makeTold_79 : decode cX8_makeTold 79 = .ok (.goto (-59), 3) := by decide +kernel
theorem dX8_makeTold_82 : decode cX8_makeTold 82 = .ok (.iconst 1, 1) := by decide +kernel
theorem dX8_makeTold_83 : decode cX8_makeTold 83 = .ok (.ireturn, 1) := by decide +kernel
theorem dX8_relabel_0 : decode cX8_relabel 0 = .ok (.iload_n 1, 1) := by decide +kernel
theorem dX8_relabel_1 : decode cX8_relabel 1 = .ok (.iconst 3, 1) := by decide +kernel
theorem dX8_relabel_2 : decode cX8_relabel 2 = .ok (.invokestatic 108, 3) := by decide +kernel
theorem dX8_relabel_5 : decode cX8_relabel 5 = .ok (.ifCond .ne 5, 3) := by decide +kernel
theorem dX8_relabel_8 : decode cX8_relabel 8 = .ok (.iconst (-1), 1) := by decide +kernel
theorem dX8_relabel_9 : decode cX8_relabel 9 = .ok (.ireturn, 1) := by decide +kernel
theorem dX8_relabel_10 : decode cX8_relabel 10 = .ok (.iload_n 2, 1) := by decide +kernel
theorem dX8_relabel_11 : decode cX8_relabel 11 = .ok (.iconst 4, 1) := by decide +kernel
theorem dX8_relabel_12 : decode cX8_relabel 12 = .ok (.invokestatic 108, 3) := by decide +kernel
theorem dX8_relabel_15 : decode cX8_relabel 15 = .ok (.ifCond .ne 6, 3) := by decide +kernel
theorem dX8_relabel_18 : decode cX8_relabel 18 = .ok (.bipush (-2), 2) := by decide +kernel
theorem dX8_relabel_20 : decode cX8_relabel 20 = .ok (.ireturn, 1) := by decide +kernel
theorem dX8_relabel_21 : decode cX8_relabel 21 = .ok (.aload_n 0, 1) := by decide +kernel
theorem dX8_relabel_22 : decode cX8_relabel 22 = .ok (.getfield 23, 3) := by decide +kernel
theorem dX8_relabel_25 : decode cX8_relabel 25 = .ok (.getfield 136, 3) := by decide +kernel
theorem dX8_relabel_28 : decode cX8_relabel 28 = .ok (.iload_n 1, 1) := by decide +kernel
theorem dX8_relabel_29 : decode cX8_relabel 29 = .ok (.iaload, 1) := by decide +kernel
theorem dX8_relabel_30 : decode cX8_relabel 30 = .ok (.istore_n 3, 1) := by decide +kernel
theorem dX8_relabel_31 : decode cX8_relabel 31 = .ok (.aload_n 0, 1) := by decide +kernel
theorem dX8_relabel_32 : decode cX8_relabel 32 = .ok (.getfield 29, 3) := by decide +kernel
theorem dX8_relabel_35 : decode cX8_relabel 35 = .ok (.aload_n 0, 1) := by decide +kernel
theorem dX8_relabel_36 : decode cX8_relabel 36 = .ok (.getfield 23, 3) := by decide +kernel
theorem dX8_relabel_39 : decode cX8_relabel 39 = .ok (.iload_n 1, 1) := by decide +kernel
theorem dX8_relabel_40 : decode cX8_relabel 40 = .ok (.invokevirtual 139, 3) := by decide +kernel
theorem dX8_relabel_43 : decode cX8_relabel 43 = .ok (.aload_n 0, 1) := by decide +kernel
theorem dX8_relabel_44 : decode cX8_relabel 44 = .ok (.getfield 23, 3) := by decide +kernel
theorem dX8_relabel_47 : decode cX8_relabel 47 = .ok (.getfield 136, 3) := by decide +kernel
theorem dX8_relabel_50 : decode cX8_relabel 50 = .ok (.iload_n 1, 1) := by decide +kernel
theorem dX8_relabel_51 : decode cX8_relabel 51 = .ok (.iload_n 2, 1) := by decide +kernel
theorem dX8_relabel_52 : decode cX8_relabel 52 = .ok (.iastore, 1) := by decide +kernel
theorem dX8_relabel_53 : decode cX8_relabel 53 = .ok (.iload_n 3, 1) := by decide +kernel
theorem dX8_relabel_54 : decode cX8_relabel 54 = .ok (.ireturn, 1) := by decide +kernel
theorem dX8_undo_0 : decode cX8_undo 0 = .ok (.aload_n 0, 1) := by decide +kernel
theorem dX8_undo_1 : decode cX8_undo 1 = .ok (.getfield 29, 3) := by decide +kernel
theorem dX8_undo_4 : decode cX8_undo 4 = .ok (.aload_n 0, 1) := by decide +kernel
theorem dX8_undo_5 : decode cX8_undo 5 = .ok (.getfield 23, 3) := by decide +kernel
theorem dX8_undo_8 : decode cX8_undo 8 = .ok (.invokevirtual 142, 3) := by decide +kernel
theorem dX8_undo_11 : decode cX8_undo 11 = .ok (.ifCond .eq 13, 3) := by decide +kernel
theorem dX8_undo_14 : decode cX8_undo 14 = .ok (.aload_n 0, 1) := by decide +kernel
theorem dX8_undo_15 : decode cX8_undo 15 = .ok (.getfield 29, 3) := by decide +kernel
theorem dX8_undo_18 : decode cX8_undo 18 = .ok (.getfield 103, 3) := by decide +kernel
theorem dX8_undo_21 : decode cX8_undo 21 = .ok (.goto 5, 3) := by decide +kernel
theorem dX8_undo_24 : decode cX8_undo 24 = .ok (.bipush (-3), 2) := by decide +kernel
theorem dX8_undo_26 : decode cX8_undo 26 = .ok (.ireturn, 1) := by decide +kernel
theorem dX8_label_0 : decode cX8_label 0 = .ok (.aload_n 0, 1) := by decide +kernel
theorem dX8_label_1 : decode cX8_label 1 = .ok (.getfield 23, 3) := by decide +kernel
theorem dX8_label_4 : decode cX8_label 4 = .ok (.iload_n 1, 1) := by decide +kernel
theorem dX8_label_5 : decode cX8_label 5 = .ok (.invokevirtual 105, 3) := by decide +kernel
theorem dX8_label_8 : decode cX8_label 8 = .ok (.ifCond .eq 11, 3) := by decide +kernel
theorem dX8_label_11 : decode cX8_label 11 = .ok (.iload_n 2, 1) := by decide +kernel
theorem dX8_label_12 : decode cX8_label 12 = .ok (.iconst 5, 1) := by decide +kernel
theorem dX8_label_13 : decode cX8_label 13 = .ok (.invokestatic 108, 3) := by decide +kernel
theorem dX8_label_16 : decode cX8_label 16 = .ok (.ifCond .ne 5, 3) := by decide +kernel
theorem dX8_label_19 : decode cX8_label 19 = .ok (.iconst (-1), 1) := by decide +kernel
theorem dX8_label_20 : decode cX8_label 20 = .ok (.ireturn, 1) := by decide +kernel
theorem dX8_label_21 : decode cX8_label 21 = .ok (.aload_n 0, 1) := by decide +kernel
theorem dX8_label_22 : decode cX8_label 22 = .ok (.getfield 48, 3) := by decide +kernel
theorem dX8_label_25 : decode cX8_label 25 = .ok (.aload_n 0, 1) := by decide +kernel
theorem dX8_label_26 : decode cX8_label 26 = .ok (.getfield 23, 3) := by decide +kernel
theorem dX8_label_29 : decode cX8_label 29 = .ok (.aload_n 0, 1) := by decide +kernel
theorem dX8_label_30 : decode cX8_label 30 = .ok (.getfield 23, 3) := by decide +kernel
theorem dX8_label_33 : decode cX8_label 33 = .ok (.getfield 136, 3) := by decide +kernel
theorem dX8_label_36 : decode cX8_label 36 = .ok (.invokevirtual 146, 3) := by decide +kernel
theorem dX8_label_39 : decode cX8_label 39 = .ok (.aload_n 0, 1) := by decide +kernel
theorem dX8_label_40 : decode cX8_label 40 = .ok (.getfield 48, 3) := by decide +kernel
theorem dX8_label_43 : decode cX8_label 43 = .ok (.iload_n 1, 1) := by decide +kernel
theorem dX8_label_44 : decode cX8_label 44 = .ok (.invokevirtual 150, 3) := by decide +kernel
theorem dX8_label_47 : decode cX8_label 47 = .ok (.ifCond .eq 17, 3) := by decide +kernel
theorem dX8_label_50 : decode cX8_label 50 = .ok (.aload_n 0, 1) := by decide +kernel
theorem dX8_label_51 : decode cX8_label 51 = .ok (.getfield 48, 3) := by decide +kernel
theorem dX8_label_54 : decode cX8_label 54 = .ok (.getfield 153, 3) := by decide +kernel
theorem dX8_label_57 : decode cX8_label 57 = .ok (.iload_n 1, 1) := by decide +kernel
theorem dX8_label_58 : decode cX8_label 58 = .ok (.aaload, 1) := by decide +kernel
theorem dX8_label_59 : decode cX8_label 59 = .ok (.iload_n 2, 1) := by decide +kernel
theorem dX8_label_60 : decode cX8_label 60 = .ok (.iaload, 1) := by decide +kernel
theorem dX8_label_61 : decode cX8_label 61 = .ok (.goto 5, 3) := by decide +kernel
theorem dX8_label_64 : decode cX8_label 64 = .ok (.bipush (-9), 2) := by decide +kernel
theorem dX8_label_66 : decode cX8_label 66 = .ok (.ireturn, 1) := by decide +kernel
theorem dX8_context_0 : decode cX8_context 0 = .ok (.aload_n 0, 1) := by decide +kernel
theorem dX8_context_1 : decode cX8_context 1 = .ok (.getfield 23, 3) := by decide +kernel
theorem dX8_context_4 : decode cX8_context 4 = .ok (.iload_n 1, 1) := by decide +kernel
theorem dX8_context_5 : decode cX8_context 5 = .ok (.invokevirtual 105, 3) := by decide +kernel
theorem dX8_context_8 : decode cX8_context 8 = .ok (.ifCond .ne 5, 3) := by decide +kernel
theorem dX8_context_11 : decode cX8_context 11 = .ok (.iconst (-1), 1) := by decide +kernel
theorem dX8_context_12 : decode cX8_context 12 = .ok (.ireturn, 1) := by decide +kernel
theorem dX8_context_13 : decode cX8_context 13 = .ok (.iload_n 2, 1) := by decide +kernel
theorem dX8_context_14 : decode cX8_context 14 = .ok (.iconst 2, 1) := by decide +kernel
theorem dX8_context_15 : decode cX8_context 15 = .ok (.invokestatic 108, 3) := by decide +kernel
theorem dX8_context_18 : decode cX8_context 18 = .ok (.ifCond .ne 6, 3) := by decide +kernel
theorem dX8_context_21 : decode cX8_context 21 = .ok (.bipush (-2), 2) := by decide +kernel
theorem dX8_context_23 : decode cX8_context 23 = .ok (.ireturn, 1) := by decide +kernel
theorem dX8_context_24 : decode cX8_context 24 = .ok (.aload_n 0, 1) := by decide +kernel
theorem dX8_context_25 : decode cX8_context 25 = .ok (.getfield 48, 3) := by decide +kernel
theorem dX8_context_28 : decode cX8_context 28 = .ok (.aload_n 0, 1) := by decide +kernel
theorem dX8_context_29 : decode cX8_context 29 = .ok (.getfield 23, 3) := by decide +kernel
theorem dX8_context_32 : decode cX8_context 32 = .ok (.aload_n 0, 1) := by decide +kernel
theorem dX8_context_33 : decode cX8_context 33 = .ok (.getfield 23, 3) := by decide +kernel
theorem dX8_context_36 : decode cX8_context 36 = .ok (.getfield 136, 3) := by decide +kernel
theorem dX8_context_39 : decode cX8_context 39 = .ok (.invokevirtual 146, 3) := by decide +kernel
theorem dX8_context_42 : decode cX8_context 42 = .ok (.iload_n 2, 1) := by decide +kernel
theorem dX8_context_43 : decode cX8_context 43 = .ok (.iconst 1, 1) := by decide +kernel
theorem dX8_context_44 : decode cX8_context 44 = .ok (.if_icmp .ne 13, 3) := by decide +kernel
theorem dX8_context_47 : decode cX8_context 47 = .ok (.aload_n 0, 1) := by decide +kernel
theorem dX8_context_48 : decode cX8_context 48 = .ok (.getfield 48, 3) := by decide +kernel
theorem dX8_context_51 : decode cX8_context 51 = .ok (.getfield 155, 3) := by decide +kernel
theorem dX8_context_54 : decode cX8_context 54 = .ok (.iload_n 1, 1) := by decide +kernel
theorem dX8_context_55 : decode cX8_context 55 = .ok (.iaload, 1) := by decide +kernel
theorem dX8_context_56 : decode cX8_context 56 = .ok (.ireturn, 1) := by decide +kernel
theorem dX8_context_57 : decode cX8_context 57 = .ok (.aload_n 0, 1) := by decide +kernel
theorem dX8_context_58 : decode cX8_context 58 = .ok (.getfield 48, 3) := by decide +kernel
theorem dX8_context_61 : decode cX8_context 61 = .ok (.iload_n 1, 1) := by decide +kernel
theorem dX8_context_62 : decode cX8_context 62 = .ok (.invokevirtual 150, 3) := by decide +kernel
theorem dX8_context_65 : decode cX8_context 65 = .ok (.ifCond .eq 15, 3) := by decide +kernel
theorem dX8_context_68 : decode cX8_context 68 = .ok (.aload_n 0, 1) := by decide +kernel
theorem dX8_context_69 : decode cX8_context 69 = .ok (.getfield 48, 3) := by decide +kernel
theorem dX8_context_72 : decode cX8_context 72 = .ok (.getfield 158, 3) := by decide +kernel
theorem dX8_context_75 : decode cX8_context 75 = .ok (.iload_n 1, 1) := by decide +kernel
theorem dX8_context_76 : decode cX8_context 76 = .ok (.iaload, 1) := by decide +kernel
theorem dX8_context_77 : decode cX8_context 77 = .ok (.goto 5, 3) := by decide +kernel
theorem dX8_context_80 : decode cX8_context 80 = .ok (.bipush (-9), 2) := by decide +kernel
theorem dX8_context_82 : decode cX8_context 82 = .ok (.ireturn, 1) := by decide +kernel
theorem dX8_wrong_0 : decode cX8_wrong 0 = .ok (.aload_n 0, 1) := by decide +kernel
theorem dX8_wrong_1 : decode cX8_wrong 1 = .ok (.getfield 48, 3) := by decide +kernel
theorem dX8_wrong_4 : decode cX8_wrong 4 = .ok (.aload_n 0, 1) := by decide +kernel
theorem dX8_wrong_5 : decode cX8_wrong 5 = .ok (.getfield 23, 3) := by decide +kernel
theorem dX8_wrong_8 : decode cX8_wrong 8 = .ok (.aload_n 0, 1) := by decide +kernel
theorem dX8_wrong_9 : decode cX8_wrong 9 = .ok (.getfield 23, 3) := by decide +kernel
theorem dX8_wrong_12 : decode cX8_wrong 12 = .ok (.getfield 136, 3) := by decide +kernel
theorem dX8_wrong_15 : decode cX8_wrong 15 = .ok (.invokevirtual 146, 3) := by decide +kernel
theorem dX8_wrong_18 : decode cX8_wrong 18 = .ok (.aload_n 0, 1) := by decide +kernel
theorem dX8_wrong_19 : decode cX8_wrong 19 = .ok (.getfield 48, 3) := by decide +kernel
theorem dX8_wrong_22 : decode cX8_wrong 22 = .ok (.getfield 161, 3) := by decide +kernel
theorem dX8_wrong_25 : decode cX8_wrong 25 = .ok (.ireturn, 1) := by decide +kernel
theorem dX8_run_0 : decode cX8_run 0 = .ok (.iload_n 1, 1) := by decide +kernel
theorem dX8_run_1 : decode cX8_run 1 = .ok (.iload_n 2, 1) := by decide +kernel
theorem dX8_run_2 : decode cX8_run 2 = .ok (.iload_n 3, 1) := by decide +kernel
theorem dX8_run_3 : decode cX8_run 3 = .ok (.invokestatic 164, 3) := by decide +kernel
theorem dX8_run_6 : decode cX8_run 6 = .ok (.ifCond .ne 6, 3) := by decide +kernel
theorem dX8_run_9 : decode cX8_run 9 = .ok (.bipush (-2), 2) := by decide +kernel
theorem dX8_run_11 : decode cX8_run 11 = .ok (.ireturn, 1) := by decide +kernel
theorem dX8_run_12 : decode cX8_run 12 = .ok (.aload_n 0, 1) := by decide +kernel
theorem dX8_run_13 : decode cX8_run 13 = .ok (.getfield 55, 3) := by decide +kernel
theorem dX8_run_16 : decode cX8_run 16 = .ok (.aload_n 0, 1) := by decide +kernel
theorem dX8_run_17 : decode cX8_run 17 = .ok (.getfield 23, 3) := by decide +kernel
theorem dX8_run_20 : decode cX8_run 20 = .ok (.iload_n 1, 1) := by decide +kernel
theorem dX8_run_21 : decode cX8_run 21 = .ok (.iload_n 2, 1) := by decide +kernel
theorem dX8_run_22 : decode cX8_run 22 = .ok (.iload_n 3, 1) := by decide +kernel
theorem dX8_run_23 : decode cX8_run 23 = .ok (.invokevirtual 168, 3) := by decide +kernel
theorem dX8_run_26 : decode cX8_run 26 = .ok (.aload_n 0, 1) := by decide +kernel
theorem dX8_run_27 : decode cX8_run 27 = .ok (.getfield 55, 3) := by decide +kernel
theorem dX8_run_30 : decode cX8_run 30 = .ok (.iload 4, 2) := by decide +kernel
theorem dX8_run_32 : decode cX8_run 32 = .ok (.invokevirtual 172, 3) := by decide +kernel
theorem dX8_run_35 : decode cX8_run 35 = .ok (.ireturn, 1) := by decide +kernel
theorem dX8_ends_0 : decode cX8_ends 0 = .ok (.iload_n 1, 1) := by decide +kernel
theorem dX8_ends_1 : decode cX8_ends 1 = .ok (.iload_n 2, 1) := by decide +kernel
theorem dX8_ends_2 : decode cX8_ends 2 = .ok (.iload_n 3, 1) := by decide +kernel
theorem dX8_ends_3 : decode cX8_ends 3 = .ok (.invokestatic 164, 3) := by decide +kernel
theorem dX8_ends_6 : decode cX8_ends 6 = .ok (.ifCond .eq 12, 3) := by decide +kernel
theorem dX8_ends_9 : decode cX8_ends 9 = .ok (.iload 4, 2) := by decide +kernel
theorem dX8_ends_11 : decode cX8_ends 11 = .ok (.iconst 3, 1) := by decide +kernel
theorem dX8_ends_12 : decode cX8_ends 12 = .ok (.invokestatic 108, 3) := by decide +kernel
theorem dX8_ends_15 : decode cX8_ends 15 = .ok (.ifCond .ne 6, 3) := by decide +kernel
theorem dX8_ends_18 : decode cX8_ends 18 = .ok (.bipush (-2), 2) := by decide +kernel
theorem dX8_ends_20 : decode cX8_ends 20 = .ok (.ireturn, 1) := by decide +kernel
theorem dX8_ends_21 : decode cX8_ends 21 = .ok (.aload_n 0, 1) := by decide +kernel
theorem dX8_ends_22 : decode cX8_ends 22 = .ok (.getfield 55, 3) := by decide +kernel
theorem dX8_ends_25 : decode cX8_ends 25 = .ok (.aload_n 0, 1) := by decide +kernel
theorem dX8_ends_26 : decode cX8_ends 26 = .ok (.getfield 23, 3) := by decide +kernel
theorem dX8_ends_29 : decode cX8_ends 29 = .ok (.iload_n 1, 1) := by decide +kernel
theorem dX8_ends_30 : decode cX8_ends 30 = .ok (.iload_n 2, 1) := by decide +kernel
theorem dX8_ends_31 : decode cX8_ends 31 = .ok (.iload_n 3, 1) := by decide +kernel
theorem dX8_ends_32 : decode cX8_ends 32 = .ok (.invokevirtual 168, 3) := by decide +kernel
theorem dX8_ends_35 : decode cX8_ends 35 = .ok (.iload 4, 2) := by decide +kernel
theorem dX8_ends_37 : decode cX8_ends 37 = .ok (.ifCond .ne 11, 3) := by decide +kernel
theorem dX8_ends_40 : decode cX8_ends 40 = .ok (.aload_n 0, 1) := by decide +kernel
theorem dX8_ends_41 : decode cX8_ends 41 = .ok (.getfield 55, 3) := by decide +kernel
theorem dX8_ends_44 : decode cX8_ends 44 = .ok (.getfield 176, 3) := by decide +kernel
theorem dX8_ends_47 : decode cX8_ends 47 = .ok (.ireturn, 1) := by decide +kernel
theorem dX8_ends_48 : decode cX8_ends 48 = .ok (.iload 4, 2) := by decide +kernel
theorem dX8_ends_50 : decode cX8_ends 50 = .ok (.iconst 1, 1) := by decide +kernel
theorem dX8_ends_51 : decode cX8_ends 51 = .ok (.if_icmp .ne 19, 3) := by decide +kernel
theorem dX8_ends_54 : decode cX8_ends 54 = .ok (.aload_n 0, 1) := by decide +kernel
theorem dX8_ends_55 : decode cX8_ends 55 = .ok (.getfield 55, 3) := by decide +kernel
theorem dX8_ends_58 : decode cX8_ends 58 = .ok (.getfield 179, 3) := by decide +kernel
theorem dX8_ends_61 : decode cX8_ends 61 = .ok (.ifCond .eq 7, 3) := by decide +kernel
theorem dX8_ends_64 : decode cX8_ends 64 = .ok (.iconst 1, 1) := by decide +kernel
theorem dX8_ends_65 : decode cX8_ends 65 = .ok (.goto 4, 3) := by decide +kernel
theorem dX8_ends_68 : decode cX8_ends 68 = .ok (.iconst 0, 1) := by decide +kernel
theorem dX8_ends_69 : decode cX8_ends 69 = .ok (.ireturn, 1) := by decide +kernel
theorem dX8_ends_70 : decode cX8_ends 70 = .ok (.aload_n 0, 1) := by decide +kernel
theorem dX8_ends_71 : decode cX8_ends 71 = .ok (.getfield 55, 3) := by decide +kernel
theorem dX8_ends_74 : decode cX8_ends 74 = .ok (.getfield 183, 3) := by decide +kernel
theorem dX8_ends_77 : decode cX8_ends 77 = .ok (.iconst 4, 1) := by decide +kernel
theorem dX8_ends_78 : decode cX8_ends 78 = .ok (.iaload, 1) := by decide +kernel
theorem dX8_ends_79 : decode cX8_ends 79 = .ok (.ireturn, 1) := by decide +kernel
theorem dX8_leak_0 : decode cX8_leak 0 = .ok (.iload_n 1, 1) := by decide +kernel
theorem dX8_leak_1 : decode cX8_leak 1 = .ok (.iconst 4, 1) := by decide +kernel
theorem dX8_leak_2 : decode cX8_leak 2 = .ok (.invokestatic 108, 3) := by decide +kernel
theorem dX8_leak_5 : decode cX8_leak 5 = .ok (.ifCond .ne 6, 3) := by decide +kernel
theorem dX8_leak_8 : decode cX8_leak 8 = .ok (.bipush (-2), 2) := by decide +kernel
theorem dX8_leak_10 : decode cX8_leak 10 = .ok (.ireturn, 1) := by decide +kernel
theorem dX8_leak_11 : decode cX8_leak 11 = .ok (.iconst 0, 1) := by decide +kernel
theorem dX8_leak_12 : decode cX8_leak 12 = .ok (.istore_n 2, 1) := by decide +kernel
theorem dX8_leak_13 : decode cX8_leak 13 = .ok (.iload_n 2, 1) := by decide +kernel
theorem dX8_leak_14 : decode cX8_leak 14 = .ok (.bipush 10, 2) := by decide +kernel
theorem dX8_leak_16 : decode cX8_leak 16 = .ok (.if_icmp .ge 59, 3) := by decide +kernel
theorem dX8_leak_19 : decode cX8_leak 19 = .ok (.aload_n 0, 1) := by decide +kernel
theorem dX8_leak_20 : decode cX8_leak 20 = .ok (.iload_n 2, 1) := by decide +kernel
theorem dX8_leak_21 : decode cX8_leak 21 = .ok (.invokevirtual 186, 3) := by decide +kernel
theorem dX8_leak_24 : decode cX8_leak 24 = .ok (.istore_n 3, 1) := by decide +kernel
theorem dX8_leak_25 : decode cX8_leak 25 = .ok (.iload_n 3, 1) := by decide +kernel
theorem dX8_leak_26 : decode cX8_leak 26 = .ok (.bipush (-9), 2) := by decide +kernel
theorem dX8_leak_28 : decode cX8_leak 28 = .ok (.if_icmp .eq 41, 3) := by decide +kernel
theorem dX8_leak_31 : decode cX8_leak 31 = .ok (.iload_n 1, 1) := by decide +kernel
theorem dX8_leak_32 : decode cX8_leak 32 = .ok (.ifCond .ne 7, 3) := by decide +kernel
theorem dX8_leak_35 : decode cX8_leak 35 = .ok (.iload_n 2, 1) := by decide +kernel
theorem dX8_leak_36 : decode cX8_leak 36 = .ok (.goto 32, 3) := by decide +kernel
theorem dX8_leak_39 : decode cX8_leak 39 = .ok (.iload_n 1, 1) := by decide +kernel
theorem dX8_leak_40 : decode cX8_leak 40 = .ok (.iconst 1, 1) := by decide +kernel
theorem dX8_leak_41 : decode cX8_leak 41 = .ok (.if_icmp .ne 7, 3) := by decide +kernel
theorem dX8_leak_44 : decode cX8_leak 44 = .ok (.iconst 0, 1) := by decide +kernel
theorem dX8_leak_45 : decode cX8_leak 45 = .ok (.goto 23, 3) := by decide +kernel
theorem dX8_leak_48 : decode cX8_leak 48 = .ok (.iload_n 1, 1) := by decide +kernel
theorem dX8_leak_49 : decode cX8_leak 49 = .ok (.iconst 2, 1) := by decide +kernel
theorem dX8_leak_50 : decode cX8_leak 50 = .ok (.if_icmp .ne 7, 3) := by decide +kernel
theorem dX8_leak_53 : decode cX8_leak 53 = .ok (.iload_n 3, 1) := by decide +kernel
theorem dX8_leak_54 : decode cX8_leak 54 = .ok (.goto 14, 3) := by decide +kernel
theorem dX8_leak_57 : decode cX8_leak 57 = .ok (.aload_n 0, 1) := by decide +kernel
theorem dX8_leak_58 : decode cX8_leak 58 = .ok (.getfield 55, 3) := by decide +kernel
theorem dX8_leak_61 : decode cX8_leak 61 = .ok (.aload_n 0, 1) := by decide +kernel
theorem dX8_leak_62 : decode cX8_leak 62 = .ok (.getfield 59, 3) := by decide +kernel
theorem dX8_leak_65 : decode cX8_leak 65 = .ok (.invokevirtual 189, 3) := by decide +kernel
theorem dX8_leak_68 : decode cX8_leak 68 = .ok (.ireturn, 1) := by decide +kernel
theorem dX8_leak_69 : decode cX8_leak 69 = .ok (.iinc 2 1, 3) := by decide +kernel
theorem dX8_leak_72 : decode cX8_leak 72 = .ok (.goto (-59), 3) := by decide +kernel
theorem dX8_leak_75 : decode cX8_leak 75 = .ok (.bipush (-9), 2) := by decide +kernel
theorem dX8_leak_77 : decode cX8_leak 77 = .ok (.ireturn, 1) := by decide +kernel
theorem dX8_leastUnlike_0 : decode cX8_leastUnlike 0 = .ok (.aload_n 0, 1) := by decide +kernel
theorem dX8_leastUnlike_1 : decode cX8_leastUnlike 1 = .ok (.getfield 55, 3) := by decide +kernel
theorem dX8_leastUnlike_4 : decode cX8_leastUnlike 4 = .ok (.aload_n 0, 1) := by decide +kernel
theorem dX8_leastUnlike_5 : decode cX8_leastUnlike 5 = .ok (.getfield 23, 3) := by decide +kernel
theorem dX8_leastUnlike_8 : decode cX8_leastUnlike 8 = .ok (.iload_n 1, 1) := by decide +kernel
theorem dX8_leastUnlike_9 : decode cX8_leastUnlike 9 = .ok (.iconst 0, 1) := by decide +kernel
theorem dX8_leastUnlike_10 : decode cX8_leastUnlike 10 = .ok (.iconst 0, 1) := by decide +kernel
theorem dX8_leastUnlike_11 : decode cX8_leastUnlike 11 = .ok (.invokevirtual 168, 3) := by decide +kernel
theorem dX8_leastUnlike_14 : decode cX8_leastUnlike 14 = .ok (.iconst 1, 1) := by decide +kernel
theorem dX8_leastUnlike_15 : decode cX8_leastUnlike 15 = .ok (.istore_n 2, 1) := by decide +kernel
theorem dX8_leastUnlike_16 : decode cX8_leastUnlike 16 = .ok (.iload_n 2, 1) := by decide +kernel
theorem dX8_leastUnlike_17 : decode cX8_leastUnlike 17 = .ok (.bipush 100, 2) := by decide +kernel
theorem dX8_leastUnlike_19 : decode cX8_leastUnlike 19 = .ok (.if_icmp .ge 47, 3) := by decide +kernel
theorem dX8_leastUnlike_22 : decode cX8_leastUnlike 22 = .ok (.aload_n 0, 1) := by decide +kernel
theorem dX8_leastUnlike_23 : decode cX8_leastUnlike 23 = .ok (.getfield 59, 3) := by decide +kernel
theorem dX8_leastUnlike_26 : decode cX8_leastUnlike 26 = .ok (.aload_n 0, 1) := by decide +kernel
theorem dX8_leastUnlike_27 : decode cX8_leastUnlike 27 = .ok (.getfield 23, 3) := by decide +kernel
theorem dX8_leastUnlike_30 : decode cX8_leastUnlike 30 = .ok (.iload_n 1, 1) := by decide +kernel
theorem dX8_leastUnlike_31 : decode cX8_leastUnlike 31 = .ok (.iload_n 2, 1) := by decide +kernel
theorem dX8_leastUnlike_32 : decode cX8_leastUnlike 32 = .ok (.bipush 10, 2) := by decide +kernel
theorem dX8_leastUnlike_34 : decode cX8_leastUnlike 34 = .ok (.idiv, 1) := by decide +kernel
theorem dX8_leastUnlike_35 : decode cX8_leastUnlike 35 = .ok (.iload_n 2, 1) := by decide +kernel
theorem dX8_leastUnlike_36 : decode cX8_leastUnlike 36 = .ok (.bipush 10, 2) := by decide +kernel
theorem dX8_leastUnlike_38 : decode cX8_leastUnlike 38 = .ok (.irem, 1) := by decide +kernel
theorem dX8_leastUnlike_39 : decode cX8_leastUnlike 39 = .ok (.invokevirtual 168, 3) := by decide +kernel
theorem dX8_leastUnlike_42 : decode cX8_leastUnlike 42 = .ok (.aload_n 0, 1) := by decide +kernel
theorem dX8_leastUnlike_43 : decode cX8_leastUnlike 43 = .ok (.getfield 55, 3) := by decide +kernel
theorem dX8_leastUnlike_46 : decode cX8_leastUnlike 46 = .ok (.aload_n 0, 1) := by decide +kernel
theorem dX8_leastUnlike_47 : decode cX8_leastUnlike 47 = .ok (.getfield 59, 3) := by decide +kernel
theorem dX8_leastUnlike_50 : decode cX8_leastUnlike 50 = .ok (.invokevirtual 189, 3) := by decide +kernel
theorem dX8_leastUnlike_53 : decode cX8_leastUnlike 53 = .ok (.bipush (-9), 2) := by decide +kernel
theorem dX8_leastUnlike_55 : decode cX8_leastUnlike 55 = .ok (.if_icmp .eq 5, 3) := by decide +kernel
theorem dX8_leastUnlike_58 : decode cX8_leastUnlike 58 = .ok (.iload_n 2, 1) := by decide +kernel
theorem dX8_leastUnlike_59 : decode cX8_leastUnlike 59 = .ok (.ireturn, 1) := by decide +kernel
theorem dX8_leastUnlike_60 : decode cX8_leastUnlike 60 = .ok (.iinc 2 1, 3) := by decide +kernel
theorem dX8_leastUnlike_63 : decode cX8_leastUnlike 63 = .ok (.goto (-47), 3) := by decide +kernel
theorem dX8_leastUnlike_66 : decode cX8_leastUnlike 66 = .ok (.bipush (-9), 2) := by decide +kernel
theorem dX8_leastUnlike_68 : decode cX8_leastUnlike 68 = .ok (.ireturn, 1) := by decide +kernel
theorem dX8_worlds_0 : decode cX8_worlds 0 = .ok (.iload_n 1, 1) := by decide +kernel
theorem dX8_worlds_1 : decode cX8_worlds 1 = .ok (.bipush 10, 2) := by decide +kernel
theorem dX8_worlds_3 : decode cX8_worlds 3 = .ok (.invokestatic 108, 3) := by decide +kernel
theorem dX8_worlds_6 : decode cX8_worlds 6 = .ok (.ifCond .ne 6, 3) := by decide +kernel
theorem dX8_worlds_9 : decode cX8_worlds 9 = .ok (.bipush (-2), 2) := by decide +kernel
theorem dX8_worlds_11 : decode cX8_worlds 11 = .ok (.ireturn, 1) := by decide +kernel
theorem dX8_worlds_12 : decode cX8_worlds 12 = .ok (.aload_n 0, 1) := by decide +kernel
theorem dX8_worlds_13 : decode cX8_worlds 13 = .ok (.getfield 65, 3) := by decide +kernel
theorem dX8_worlds_16 : decode cX8_worlds 16 = .ok (.aload_n 0, 1) := by decide +kernel
theorem dX8_worlds_17 : decode cX8_worlds 17 = .ok (.getfield 23, 3) := by decide +kernel
theorem dX8_worlds_20 : decode cX8_worlds 20 = .ok (.iload_n 1, 1) := by decide +kernel
theorem dX8_worlds_21 : decode cX8_worlds 21 = .ok (.invokevirtual 193, 3) := by decide +kernel
theorem dX8_worlds_24 : decode cX8_worlds 24 = .ok (.aload_n 0, 1) := by decide +kernel
theorem dX8_worlds_25 : decode cX8_worlds 25 = .ok (.getfield 65, 3) := by decide +kernel
theorem dX8_worlds_28 : decode cX8_worlds 28 = .ok (.sipush 511, 3) := by decide +kernel
theorem dX8_worlds_31 : decode cX8_worlds 31 = .ok (.invokevirtual 196, 3) := by decide +kernel
theorem dX8_worlds_34 : decode cX8_worlds 34 = .ok (.ireturn, 1) := by decide +kernel
theorem dX8_alike_0 : decode cX8_alike 0 = .ok (.iload_n 1, 1) := by decide +kernel
theorem dX8_alike_1 : decode cX8_alike 1 = .ok (.iload_n 2, 1) := by decide +kernel
theorem dX8_alike_2 : decode cX8_alike 2 = .ok (.iload_n 3, 1) := by decide +kernel
theorem dX8_alike_3 : decode cX8_alike 3 = .ok (.invokestatic 164, 3) := by decide +kernel
theorem dX8_alike_6 : decode cX8_alike 6 = .ok (.ifCond .ne 6, 3) := by decide +kernel
theorem dX8_alike_9 : decode cX8_alike 9 = .ok (.bipush (-2), 2) := by decide +kernel
theorem dX8_alike_11 : decode cX8_alike 11 = .ok (.ireturn, 1) := by decide +kernel
theorem dX8_alike_12 : decode cX8_alike 12 = .ok (.aload_n 0, 1) := by decide +kernel
theorem dX8_alike_13 : decode cX8_alike 13 = .ok (.getfield 65, 3) := by decide +kernel
theorem dX8_alike_16 : decode cX8_alike 16 = .ok (.aload_n 0, 1) := by decide +kernel
theorem dX8_alike_17 : decode cX8_alike 17 = .ok (.getfield 23, 3) := by decide +kernel
theorem dX8_alike_20 : decode cX8_alike 20 = .ok (.iload_n 1, 1) := by decide +kernel
theorem dX8_alike_21 : decode cX8_alike 21 = .ok (.invokevirtual 193, 3) := by decide +kernel
theorem dX8_alike_24 : decode cX8_alike 24 = .ok (.aload_n 0, 1) := by decide +kernel
theorem dX8_alike_25 : decode cX8_alike 25 = .ok (.getfield 65, 3) := by decide +kernel
theorem dX8_alike_28 : decode cX8_alike 28 = .ok (.bipush 10, 2) := by decide +kernel
theorem dX8_alike_30 : decode cX8_alike 30 = .ok (.iload_n 2, 1) := by decide +kernel
theorem dX8_alike_31 : decode cX8_alike 31 = .ok (.imul, 1) := by decide +kernel
theorem dX8_alike_32 : decode cX8_alike 32 = .ok (.iload_n 3, 1) := by decide +kernel
theorem dX8_alike_33 : decode cX8_alike 33 = .ok (.iadd, 1) := by decide +kernel
theorem dX8_alike_34 : decode cX8_alike 34 = .ok (.invokevirtual 199, 3) := by decide +kernel
theorem dX8_alike_37 : decode cX8_alike 37 = .ok (.ireturn, 1) := by decide +kernel
theorem dX8_judge_0 : decode cX8_judge 0 = .ok (.iload_n 1, 1) := by decide +kernel
theorem dX8_judge_1 : decode cX8_judge 1 = .ok (.iconst 1, 1) := by decide +kernel
theorem dX8_judge_2 : decode cX8_judge 2 = .ok (.if_icmp .lt 14, 3) := by decide +kernel
theorem dX8_judge_5 : decode cX8_judge 5 = .ok (.iload_n 1, 1) := by decide +kernel
theorem dX8_judge_6 : decode cX8_judge 6 = .ok (.iconst 4, 1) := by decide +kernel
theorem dX8_judge_7 : decode cX8_judge 7 = .ok (.if_icmp .gt 9, 3) := by decide +kernel
theorem dX8_judge_10 : decode cX8_judge 10 = .ok (.lload_n 2, 1) := by decide +kernel
theorem dX8_judge_11 : decode cX8_judge 11 = .ok (.lconst 0, 1) := by decide +kernel
theorem dX8_judge_12 : decode cX8_judge 12 = .ok (.lcmp, 1) := by decide +kernel
theorem dX8_judge_13 : decode cX8_judge 13 = .ok (.ifCond .ge 6, 3) := by decide +kernel
theorem dX8_judge_16 : decode cX8_judge 16 = .ok (.bipush (-2), 2) := by decide +kernel
theorem dX8_judge_18 : decode cX8_judge 18 = .ok (.ireturn, 1) := by decide +kernel
theorem dX8_judge_19 : decode cX8_judge 19 = .ok (.lload_n 2, 1) := by decide +kernel
theorem dX8_judge_20 : decode cX8_judge 20 = .ok (.iload_n 1, 1) := by decide +kernel
theorem dX8_judge_21 : decode cX8_judge 21 = .ok (.invokestatic 202, 3) := by decide +kernel
theorem dX8_judge_24 : decode cX8_judge 24 = .ok (.lcmp, 1) := by decide +kernel
theorem dX8_judge_25 : decode cX8_judge 25 = .ok (.ifCond .ge 19, 3) := by decide +kernel
theorem dX8_judge_28 : decode cX8_judge 28 = .ok (.aload_n 0, 1) := by decide +kernel
theorem dX8_judge_29 : decode cX8_judge 29 = .ok (.getfield 79, 3) := by decide +kernel
theorem dX8_judge_32 : decode cX8_judge 32 = .ok (.aload_n 0, 1) := by decide +kernel
theorem dX8_judge_33 : decode cX8_judge 33 = .ok (.getfield 23, 3) := by decide +kernel
theorem dX8_judge_36 : decode cX8_judge 36 = .ok (.iload_n 1, 1) := by decide +kernel
theorem dX8_judge_37 : decode cX8_judge 37 = .ok (.lload_n 2, 1) := by decide +kernel
theorem dX8_judge_38 : decode cX8_judge 38 = .ok (.invokevirtual 206, 3) := by decide +kernel
theorem dX8_judge_41 : decode cX8_judge 41 = .ok (.goto 5, 3) := by decide +kernel
theorem dX8_judge_44 : decode cX8_judge 44 = .ok (.bipush (-2), 2) := by decide +kernel
theorem dX8_judge_46 : decode cX8_judge 46 = .ok (.ireturn, 1) := by decide +kernel
theorem dX8_hear_0 : decode cX8_hear 0 = .ok (.iload_n 1, 1) := by decide +kernel
theorem dX8_hear_1 : decode cX8_hear 1 = .ok (.bipush 10, 2) := by decide +kernel
theorem dX8_hear_3 : decode cX8_hear 3 = .ok (.invokestatic 108, 3) := by decide +kernel
theorem dX8_hear_6 : decode cX8_hear 6 = .ok (.ifCond .eq 30, 3) := by decide +kernel
theorem dX8_hear_9 : decode cX8_hear 9 = .ok (.iload_n 2, 1) := by decide +kernel
theorem dX8_hear_10 : decode cX8_hear 10 = .ok (.bipush 9, 2) := by decide +kernel
theorem dX8_hear_12 : decode cX8_hear 12 = .ok (.invokestatic 108, 3) := by decide +kernel
theorem dX8_hear_15 : decode cX8_hear 15 = .ok (.ifCond .eq 21, 3) := by decide +kernel
theorem dX8_hear_18 : decode cX8_hear 18 = .ok (.iload_n 3, 1) := by decide +kernel
theorem dX8_hear_19 : decode cX8_hear 19 = .ok (.bipush 10, 2) := by decide +kernel
theorem dX8_hear_21 : decode cX8_hear 21 = .ok (.invokestatic 108, 3) := by decide +kernel
theorem dX8_hear_24 : decode cX8_hear 24 = .ok (.ifCond .eq 12, 3) := by decide +kernel
theorem dX8_hear_27 : decode cX8_hear 27 = .ok (.iload 4, 2) := by decide +kernel
theorem dX8_hear_29 : decode cX8_hear 29 = .ok (.iconst 2, 1) := by decide +kernel
theorem dX8_hear_30 : decode cX8_hear 30 = .ok (.invokestatic 108, 3) := by decide +kernel
theorem dX8_hear_33 : decode cX8_hear 33 = .ok (.ifCond .ne 6, 3) := by decide +kernel
theorem dX8_hear_36 : decode cX8_hear 36 = .ok (.bipush (-2), 2) := by decide +kernel
theorem dX8_hear_38 : decode cX8_hear 38 = .ok (.ireturn, 1) := by decide +kernel
theorem dX8_hear_39 : decode cX8_hear 39 = .ok (.aload_n 0, 1) := by decide +kernel
theorem dX8_hear_40 : decode cX8_hear 40 = .ok (.getfield 72, 3) := by decide +kernel
theorem dX8_hear_43 : decode cX8_hear 43 = .ok (.iload_n 1, 1) := by decide +kernel
theorem dX8_hear_44 : decode cX8_hear 44 = .ok (.iload_n 2, 1) := by decide +kernel
theorem dX8_hear_45 : decode cX8_hear 45 = .ok (.iload_n 3, 1) := by decide +kernel
theorem dX8_hear_46 : decode cX8_hear 46 = .ok (.iload 4, 2) := by decide +kernel
theorem dX8_hear_48 : decode cX8_hear 48 = .ok (.invokevirtual 210, 3) := by decide +kernel
theorem dX8_hear_51 : decode cX8_hear 51 = .ok (.ifCond .eq 13, 3) := by decide +kernel
theorem dX8_hear_54 : decode cX8_hear 54 = .ok (.aload_n 0, 1) := by decide +kernel
theorem dX8_hear_55 : decode cX8_hear 55 = .ok (.getfield 72, 3) := by decide +kernel
theorem dX8_hear_58 : decode cX8_hear 58 = .ok (.getfield 213, 3) := by decide +kernel
theorem dX8_hear_61 : decode cX8_hear 61 = .ok (.goto 5, 3) := by decide +kernel
theorem dX8_hear_64 : decode cX8_hear 64 = .ok (.bipush (-4), 2) := by decide +kernel
theorem dX8_hear_66 : decode cX8_hear 66 = .ok (.ireturn, 1) := by decide +kernel
theorem dX8_unhear_0 : decode cX8_unhear 0 = .ok (.aload_n 0, 1) := by decide +kernel
theorem dX8_unhear_1 : decode cX8_unhear 1 = .ok (.getfield 72, 3) := by decide +kernel
theorem dX8_unhear_4 : decode cX8_unhear 4 = .ok (.getfield 213, 3) := by decide +kernel
theorem dX8_unhear_7 : decode cX8_unhear 7 = .ok (.istore_n 1, 1) := by decide +kernel
theorem dX8_unhear_8 : decode cX8_unhear 8 = .ok (.aload_n 0, 1) := by decide +kernel
theorem dX8_unhear_9 : decode cX8_unhear 9 = .ok (.getfield 72, 3) := by decide +kernel
theorem dX8_unhear_12 : decode cX8_unhear 12 = .ok (.iconst 0, 1) := by decide +kernel
theorem dX8_unhear_13 : decode cX8_unhear 13 = .ok (.putfield 213, 3) := by decide +kernel
theorem dX8_unhear_16 : decode cX8_unhear 16 = .ok (.iload_n 1, 1) := by decide +kernel
theorem dX8_unhear_17 : decode cX8_unhear 17 = .ok (.ireturn, 1) := by decide +kernel
theorem dX8_secrets_0 : decode cX8_secrets 0 = .ok (.iload_n 1, 1) := by decide +kernel
theorem dX8_secrets_1 : decode cX8_secrets 1 = .ok (.iconst 2, 1) := by decide +kernel
theorem dX8_secrets_2 : decode cX8_secrets 2 = .ok (.invokestatic 108, 3) := by decide +kernel
theorem dX8_secrets_5 : decode cX8_secrets 5 = .ok (.ifCond .ne 6, 3) := by decide +kernel
theorem dX8_secrets_8 : decode cX8_secrets 8 = .ok (.bipush (-2), 2) := by decide +kernel
theorem dX8_secrets_10 : decode cX8_secrets 10 = .ok (.ireturn, 1) := by decide +kernel
theorem dX8_secrets_11 : decode cX8_secrets 11 = .ok (.iconst 0, 1) := by decide +kernel
theorem dX8_secrets_12 : decode cX8_secrets 12 = .ok (.istore_n 2, 1) := by decide +kernel
theorem dX8_secrets_13 : decode cX8_secrets 13 = .ok (.iconst 0, 1) := by decide +kernel
theorem dX8_secrets_14 : decode cX8_secrets 14 = .ok (.istore_n 3, 1) := by decide +kernel
theorem dX8_secrets_15 : decode cX8_secrets 15 = .ok (.iload_n 3, 1) := by decide +kernel
theorem dX8_secrets_16 : decode cX8_secrets 16 = .ok (.bipush 100, 2) := by decide +kernel
theorem dX8_secrets_18 : decode cX8_secrets 18 = .ok (.if_icmp .ge 45, 3) := by decide +kernel
theorem dX8_secrets_21 : decode cX8_secrets 21 = .ok (.aload_n 0, 1) := by decide +kernel
theorem dX8_secrets_22 : decode cX8_secrets 22 = .ok (.getfield 72, 3) := by decide +kernel
theorem dX8_secrets_25 : decode cX8_secrets 25 = .ok (.aload_n 0, 1) := by decide +kernel
theorem dX8_secrets_26 : decode cX8_secrets 26 = .ok (.getfield 23, 3) := by decide +kernel
theorem dX8_secrets_29 : decode cX8_secrets 29 = .ok (.aload_n 0, 1) := by decide +kernel
theorem dX8_secrets_30 : decode cX8_secrets 30 = .ok (.getfield 55, 3) := by decide +kernel
theorem dX8_secrets_33 : decode cX8_secrets 33 = .ok (.iload_n 3, 1) := by decide +kernel
theorem dX8_secrets_34 : decode cX8_secrets 34 = .ok (.bipush 10, 2) := by decide +kernel
theorem dX8_secrets_36 : decode cX8_secrets 36 = .ok (.idiv, 1) := by decide +kernel
theorem dX8_secrets_37 : decode cX8_secrets 37 = .ok (.iload_n 3, 1) := by decide +kernel
theorem dX8_secrets_38 : decode cX8_secrets 38 = .ok (.bipush 10, 2) := by decide +kernel
theorem dX8_secrets_40 : decode cX8_secrets 40 = .ok (.irem, 1) := by decide +kernel
theorem dX8_secrets_41 : decode cX8_secrets 41 = .ok (.invokevirtual 214, 3) := by decide +kernel
theorem dX8_secrets_44 : decode cX8_secrets 44 = .ok (.ifCond .eq 13, 3) := by decide +kernel
theorem dX8_secrets_47 : decode cX8_secrets 47 = .ok (.iload_n 1, 1) := by decide +kernel
theorem dX8_secrets_48 : decode cX8_secrets 48 = .ok (.iconst 1, 1) := by decide +kernel
theorem dX8_secrets_49 : decode cX8_secrets 49 = .ok (.if_icmp .ne 5, 3) := by decide +kernel
theorem dX8_secrets_52 : decode cX8_secrets 52 = .ok (.iload_n 3, 1) := by decide +kernel
theorem dX8_secrets_53 : decode cX8_secrets 53 = .ok (.ireturn, 1) := by decide +kernel
theorem dX8_secrets_54 : decode cX8_secrets 54 = .ok (.iinc 2 1, 3) := by decide +kernel
theorem dX8_secrets_57 : decode cX8_secrets 57 = .ok (.iinc 3 1, 3) := by decide +kernel
theorem dX8_secrets_60 : decode cX8_secrets 60 = .ok (.goto (-45), 3) := by decide +kernel
theorem dX8_secrets_63 : decode cX8_secrets 63 = .ok (.iload_n 1, 1) := by decide +kernel
theorem dX8_secrets_64 : decode cX8_secrets 64 = .ok (.ifCond .ne 7, 3) := by decide +kernel
theorem dX8_secrets_67 : decode cX8_secrets 67 = .ok (.iload_n 2, 1) := by decide +kernel
theorem dX8_secrets_68 : decode cX8_secrets 68 = .ok (.goto 5, 3) := by decide +kernel
theorem dX8_secrets_71 : decode cX8_secrets 71 = .ok (.bipush (-9), 2) := by decide +kernel
theorem dX8_secrets_73 : decode cX8_secrets 73 = .ok (.ireturn, 1) := by decide +kernel
theorem dX8_share_0 : decode cX8_share 0 = .ok (.aload_n 0, 1) := by decide +kernel
theorem dX8_share_1 : decode cX8_share 1 = .ok (.getfield 23, 3) := by decide +kernel
theorem dX8_share_4 : decode cX8_share 4 = .ok (.iload_n 1, 1) := by decide +kernel
theorem dX8_share_5 : decode cX8_share 5 = .ok (.invokevirtual 105, 3) := by decide +kernel
theorem dX8_share_8 : decode cX8_share 8 = .ok (.ifCond .ne 5, 3) := by decide +kernel
theorem dX8_share_11 : decode cX8_share 11 = .ok (.iconst (-1), 1) := by decide +kernel
theorem dX8_share_12 : decode cX8_share 12 = .ok (.ireturn, 1) := by decide +kernel
theorem dX8_share_13 : decode cX8_share 13 = .ok (.iload_n 2, 1) := by decide +kernel
theorem dX8_share_14 : decode cX8_share 14 = .ok (.bipush 10, 2) := by decide +kernel
theorem dX8_share_16 : decode cX8_share 16 = .ok (.invokestatic 108, 3) := by decide +kernel
theorem dX8_share_19 : decode cX8_share 19 = .ok (.ifCond .ne 6, 3) := by decide +kernel
theorem dX8_share_22 : decode cX8_share 22 = .ok (.bipush (-2), 2) := by decide +kernel
theorem dX8_share_24 : decode cX8_share 24 = .ok (.ireturn, 1) := by decide +kernel
theorem dX8_share_25 : decode cX8_share 25 = .ok (.aload_n 0, 1) := by decide +kernel
theorem dX8_share_26 : decode cX8_share 26 = .ok (.getfield 23, 3) := by decide +kernel
theorem dX8_share_29 : decode cX8_share 29 = .ok (.getfield 112, 3) := by decide +kernel
theorem dX8_share_32 : decode cX8_share 32 = .ok (.iload_n 1, 1) := by decide +kernel
theorem dX8_share_33 : decode cX8_share 33 = .ok (.aaload, 1) := by decide +kernel
theorem dX8_share_34 : decode cX8_share 34 = .ok (.iconst 0, 1) := by decide +kernel
theorem dX8_share_35 : decode cX8_share 35 = .ok (.iaload, 1) := by decide +kernel
theorem dX8_share_36 : decode cX8_share 36 = .ok (.iconst 5, 1) := by decide +kernel
theorem dX8_share_37 : decode cX8_share 37 = .ok (.if_icmp .eq 6, 3) := by decide +kernel
theorem dX8_share_40 : decode cX8_share 40 = .ok (.bipush (-3), 2) := by decide +kernel
theorem dX8_share_42 : decode cX8_share 42 = .ok (.ireturn, 1) := by decide +kernel
theorem dX8_share_43 : decode cX8_share 43 = .ok (.aload_n 0, 1) := by decide +kernel
theorem dX8_share_44 : decode cX8_share 44 = .ok (.getfield 23, 3) := by decide +kernel
theorem dX8_share_47 : decode cX8_share 47 = .ok (.iconst 5, 1) := by decide +kernel
theorem dX8_share_48 : decode cX8_share 48 = .ok (.invokevirtual 218, 3) := by decide +kernel
theorem dX8_share_51 : decode cX8_share 51 = .ok (.istore 4, 2) := by decide +kernel
theorem dX8_share_53 : decode cX8_share 53 = .ok (.iload 4, 2) := by decide +kernel
theorem dX8_share_55 : decode cX8_share 55 = .ok (.invokestatic 221, 3) := by decide +kernel
theorem dX8_share_58 : decode cX8_share 58 = .ok (.istore 5, 2) := by decide +kernel
theorem dX8_share_60 : decode cX8_share 60 = .ok (.iload 5, 2) := by decide +kernel
theorem dX8_share_62 : decode cX8_share 62 = .ok (.iconst 5, 1) := by decide +kernel
theorem dX8_share_63 : decode cX8_share 63 = .ok (.if_icmp .le 6, 3) := by decide +kernel
theorem dX8_share_66 : decode cX8_share 66 = .ok (.bipush (-4), 2) := by decide +kernel
theorem dX8_share_68 : decode cX8_share 68 = .ok (.ireturn, 1) := by decide +kernel
theorem dX8_share_69 : decode cX8_share 69 = .ok (.aload_n 0, 1) := by decide +kernel
theorem dX8_share_70 : decode cX8_share 70 = .ok (.iload 4, 2) := by decide +kernel
theorem dX8_share_72 : decode cX8_share 72 = .ok (.iload_n 1, 1) := by decide +kernel
theorem dX8_share_73 : decode cX8_share 73 = .ok (.iload_n 2, 1) := by decide +kernel
theorem dX8_share_74 : decode cX8_share 74 = .ok (.invokevirtual 226, 3) := by decide +kernel
theorem dX8_share_77 : decode cX8_share 77 = .ok (.getstatic 230, 3) := by decide +kernel
theorem dX8_share_80 : decode cX8_share 80 = .ok (.iload 5, 2) := by decide +kernel
theorem dX8_share_82 : decode cX8_share 82 = .ok (.iaload, 1) := by decide +kernel
theorem dX8_share_83 : decode cX8_share 83 = .ok (.iload_n 3, 1) := by decide +kernel
theorem dX8_share_84 : decode cX8_share 84 = .ok (.invokestatic 233, 3) := by decide +kernel
theorem dX8_share_87 : decode cX8_share 87 = .ok (.ireturn, 1) := by decide +kernel
theorem dX8_gainInAllOrders_0 : decode cX8_gainInAllOrders 0 = .ok (.iload_n 1, 1) := by decide +kernel
theorem dX8_gainInAllOrders_1 : decode cX8_gainInAllOrders 1 = .ok (.iconst 1, 1) := by decide +kernel
theorem dX8_gainInAllOrders_2 : decode cX8_gainInAllOrders 2 = .ok (.iload_n 2, 1) := by decide +kernel
theorem dX8_gainInAllOrders_3 : decode cX8_gainInAllOrders 3 = .ok (.ishl, 1) := by decide +kernel
theorem dX8_gainInAllOrders_4 : decode cX8_gainInAllOrders 4 = .ok (.iconst (-1), 1) := by decide +kernel
theorem dX8_gainInAllOrders_5 : decode cX8_gainInAllOrders 5 = .ok (.ixor, 1) := by decide +kernel
theorem dX8_gainInAllOrders_6 : decode cX8_gainInAllOrders 6 = .ok (.iand, 1) := by decide +kernel
theorem dX8_gainInAllOrders_7 : decode cX8_gainInAllOrders 7 = .ok (.istore 4, 2) := by decide +kernel
theorem dX8_gainInAllOrders_9 : decode cX8_gainInAllOrders 9 = .ok (.iload 4, 2) := by decide +kernel
theorem dX8_gainInAllOrders_11 : decode cX8_gainInAllOrders 11 = .ok (.invokestatic 221, 3) := by decide +kernel
theorem dX8_gainInAllOrders_14 : decode cX8_gainInAllOrders 14 = .ok (.istore 5, 2) := by decide +kernel
theorem dX8_gainInAllOrders_16 : decode cX8_gainInAllOrders 16 = .ok (.iload 5, 2) := by decide +kernel
theorem dX8_gainInAllOrders_18 : decode cX8_gainInAllOrders 18 = .ok (.getstatic 230, 3) := by decide +kernel
theorem dX8_gainInAllOrders_21 : decode cX8_gainInAllOrders 21 = .ok (.arraylength, 1) := by decide +kernel
theorem dX8_gainInAllOrders_22 : decode cX8_gainInAllOrders 22 = .ok (.if_icmp .lt 5, 3) := by decide +kernel
theorem dX8_gainInAllOrders_25 : decode cX8_gainInAllOrders 25 = .ok (.iconst 0, 1) := by decide +kernel
theorem dX8_gainInAllOrders_26 : decode cX8_gainInAllOrders 26 = .ok (.ireturn, 1) := by decide +kernel
theorem dX8_gainInAllOrders_27 : decode cX8_gainInAllOrders 27 = .ok (.iconst 0, 1) := by decide +kernel
theorem dX8_gainInAllOrders_28 : decode cX8_gainInAllOrders 28 = .ok (.istore 6, 2) := by decide +kernel
theorem dX8_gainInAllOrders_30 : decode cX8_gainInAllOrders 30 = .ok (.aload_n 0, 1) := by decide +kernel
theorem dX8_gainInAllOrders_31 : decode cX8_gainInAllOrders 31 = .ok (.getfield 65, 3) := by decide +kernel
theorem dX8_gainInAllOrders_34 : decode cX8_gainInAllOrders 34 = .ok (.aload_n 0, 1) := by decide +kernel
theorem dX8_gainInAllOrders_35 : decode cX8_gainInAllOrders 35 = .ok (.getfield 23, 3) := by decide +kernel
theorem dX8_gainInAllOrders_38 : decode cX8_gainInAllOrders 38 = .ok (.iload_n 3, 1) := by decide +kernel
theorem dX8_gainInAllOrders_39 : decode cX8_gainInAllOrders 39 = .ok (.invokevirtual 193, 3) := by decide +kernel
theorem dX8_gainInAllOrders_42 : decode cX8_gainInAllOrders 42 = .ok (.iconst 0, 1) := by decide +kernel
theorem dX8_gainInAllOrders_43 : decode cX8_gainInAllOrders 43 = .ok (.istore 7, 2) := by decide +kernel
theorem dX8_gainInAllOrders_45 : decode cX8_gainInAllOrders 45 = .ok (.iload 7, 2) := by decide +kernel
theorem dX8_gainInAllOrders_47 : decode cX8_gainInAllOrders 47 = .ok (.iload 4, 2) := by decide +kernel
theorem dX8_gainInAllOrders_49 : decode cX8_gainInAllOrders 49 = .ok (.if_icmp .gt 75, 3) := by decide +kernel
theorem dX8_gainInAllOrders_52 : decode cX8_gainInAllOrders 52 = .ok (.iload 7, 2) := by decide +kernel
theorem dX8_gainInAllOrders_54 : decode cX8_gainInAllOrders 54 = .ok (.iload 4, 2) := by decide +kernel
theorem dX8_gainInAllOrders_56 : decode cX8_gainInAllOrders 56 = .ok (.iand, 1) := by decide +kernel
theorem dX8_gainInAllOrders_57 : decode cX8_gainInAllOrders 57 = .ok (.iload 7, 2) := by decide +kernel
theorem dX8_gainInAllOrders_59 : decode cX8_gainInAllOrders 59 = .ok (.if_icmp .ne 59, 3) := by decide +kernel
theorem dX8_gainInAllOrders_62 : decode cX8_gainInAllOrders 62 = .ok (.iload 7, 2) := by decide +kernel
theorem dX8_gainInAllOrders_64 : decode cX8_gainInAllOrders 64 = .ok (.invokestatic 221, 3) := by decide +kernel
theorem dX8_gainInAllOrders_67 : decode cX8_gainInAllOrders 67 = .ok (.istore 8, 2) := by decide +kernel
theorem dX8_gainInAllOrders_69 : decode cX8_gainInAllOrders 69 = .ok (.getstatic 230, 3) := by decide +kernel
theorem dX8_gainInAllOrders_72 : decode cX8_gainInAllOrders 72 = .ok (.iload 8, 2) := by decide +kernel
theorem dX8_gainInAllOrders_74 : decode cX8_gainInAllOrders 74 = .ok (.iaload, 1) := by decide +kernel
theorem dX8_gainInAllOrders_75 : decode cX8_gainInAllOrders 75 = .ok (.getstatic 230, 3) := by decide +kernel
theorem dX8_gainInAllOrders_78 : decode cX8_gainInAllOrders 78 = .ok (.iload 5, 2) := by decide +kernel
theorem dX8_gainInAllOrders_80 : decode cX8_gainInAllOrders 80 = .ok (.iload 8, 2) := by decide +kernel
theorem dX8_gainInAllOrders_82 : decode cX8_gainInAllOrders 82 = .ok (.isub, 1) := by decide +kernel
theorem dX8_gainInAllOrders_83 : decode cX8_gainInAllOrders 83 = .ok (.iaload, 1) := by decide +kernel
theorem dX8_gainInAllOrders_84 : decode cX8_gainInAllOrders 84 = .ok (.imul, 1) := by decide +kernel
theorem dX8_gainInAllOrders_85 : decode cX8_gainInAllOrders 85 = .ok (.istore 9, 2) := by decide +kernel
theorem dX8_gainInAllOrders_87 : decode cX8_gainInAllOrders 87 = .ok (.iload 6, 2) := by decide +kernel
theorem dX8_gainInAllOrders_89 : decode cX8_gainInAllOrders 89 = .ok (.iload 9, 2) := by decide +kernel
theorem dX8_gainInAllOrders_91 : decode cX8_gainInAllOrders 91 = .ok (.aload_n 0, 1) := by decide +kernel
theorem dX8_gainInAllOrders_92 : decode cX8_gainInAllOrders 92 = .ok (.getfield 65, 3) := by decide +kernel
theorem dX8_gainInAllOrders_95 : decode cX8_gainInAllOrders 95 = .ok (.iload 7, 2) := by decide +kernel
theorem dX8_gainInAllOrders_97 : decode cX8_gainInAllOrders 97 = .ok (.iconst 1, 1) := by decide +kernel
theorem dX8_gainInAllOrders_98 : decode cX8_gainInAllOrders 98 = .ok (.iload_n 2, 1) := by decide +kernel
theorem dX8_gainInAllOrders_99 : decode cX8_gainInAllOrders 99 = .ok (.ishl, 1) := by decide +kernel
theorem dX8_gainInAllOrders_100 : decode cX8_gainInAllOrders 100 = .ok (.ior, 1) := by decide +kernel
theorem dX8_gainInAllOrders_101 : decode cX8_gainInAllOrders 101 = .ok (.invokevirtual 196, 3) := by decide +kernel
theorem dX8_gainInAllOrders_104 : decode cX8_gainInAllOrders 104 = .ok (.aload_n 0, 1) := by decide +kernel
theorem dX8_gainInAllOrders_105 : decode cX8_gainInAllOrders 105 = .ok (.getfield 65, 3) := by decide +kernel
theorem dX8_gainInAllOrders_108 : decode cX8_gainInAllOrders 108 = .ok (.iload 7, 2) := by decide +kernel
theorem dX8_gainInAllOrders_110 : decode cX8_gainInAllOrders 110 = .ok (.invokevirtual 196, 3) := by decide +kernel
theorem dX8_gainInAllOrders_113 : decode cX8_gainInAllOrders 113 = .ok (.isub, 1) := by decide +kernel
theorem dX8_gainInAllOrders_114 : decode cX8_gainInAllOrders 114 = .ok (.imul, 1) := by decide +kernel
theorem dX8_gainInAllOrders_115 : decode cX8_gainInAllOrders 115 = .ok (.iadd, 1) := by decide +kernel
theorem dX8_gainInAllOrders_116 : decode cX8_gainInAllOrders 116 = .ok (.istore 6, 2) := by decide +kernel
theorem dX8_gainInAllOrders_118 : decode cX8_gainInAllOrders 118 = .ok (.iinc 7 1, 3) := by decide +kernel
theorem dX8_gainInAllOrders_121 : decode cX8_gainInAllOrders 121 = .ok (.goto (-76), 3) := by decide +kernel
theorem dX8_gainInAllOrders_124 : decode cX8_gainInAllOrders 124 = .ok (.iload 6, 2) := by decide +kernel
theorem dX8_gainInAllOrders_126 : decode cX8_gainInAllOrders 126 = .ok (.ireturn, 1) := by decide +kernel
theorem dX8_muted_0 : decode cX8_muted 0 = .ok (.iload_n 1, 1) := by decide +kernel
theorem dX8_muted_1 : decode cX8_muted 1 = .ok (.bipush 11, 2) := by decide +kernel
theorem dX8_muted_3 : decode cX8_muted 3 = .ok (.invokestatic 108, 3) := by decide +kernel
theorem dX8_muted_6 : decode cX8_muted 6 = .ok (.ifCond .ne 6, 3) := by decide +kernel
theorem dX8_muted_9 : decode cX8_muted 9 = .ok (.bipush (-2), 2) := by decide +kernel
theorem dX8_muted_11 : decode cX8_muted 11 = .ok (.ireturn, 1) := by decide +kernel
theorem dX8_muted_12 : decode cX8_muted 12 = .ok (.aload_n 0, 1) := by decide +kernel
theorem dX8_muted_13 : decode cX8_muted 13 = .ok (.getfield 48, 3) := by decide +kernel
theorem dX8_muted_16 : decode cX8_muted 16 = .ok (.aload_n 0, 1) := by decide +kernel
theorem dX8_muted_17 : decode cX8_muted 17 = .ok (.getfield 23, 3) := by decide +kernel
theorem dX8_muted_20 : decode cX8_muted 20 = .ok (.aload_n 0, 1) := by decide +kernel
theorem dX8_muted_21 : decode cX8_muted 21 = .ok (.getfield 23, 3) := by decide +kernel
theorem dX8_muted_24 : decode cX8_muted 24 = .ok (.getfield 136, 3) := by decide +kernel
theorem dX8_muted_27 : decode cX8_muted 27 = .ok (.invokevirtual 146, 3) := by decide +kernel
theorem dX8_muted_30 : decode cX8_muted 30 = .ok (.aload_n 0, 1) := by decide +kernel
theorem dX8_muted_31 : decode cX8_muted 31 = .ok (.getfield 48, 3) := by decide +kernel
theorem dX8_muted_34 : decode cX8_muted 34 = .ok (.getfield 161, 3) := by decide +kernel
theorem dX8_muted_37 : decode cX8_muted 37 = .ok (.invokestatic 221, 3) := by decide +kernel
theorem dX8_muted_40 : decode cX8_muted 40 = .ok (.istore_n 3, 1) := by decide +kernel
theorem dX8_muted_41 : decode cX8_muted 41 = .ok (.iconst 1, 1) := by decide +kernel
theorem dX8_muted_42 : decode cX8_muted 42 = .ok (.istore 4, 2) := by decide +kernel
theorem dX8_muted_44 : decode cX8_muted 44 = .ok (.iconst 1, 1) := by decide +kernel
theorem dX8_muted_45 : decode cX8_muted 45 = .ok (.istore 5, 2) := by decide +kernel
theorem dX8_muted_47 : decode cX8_muted 47 = .ok (.iconst 0, 1) := by decide +kernel
theorem dX8_muted_48 : decode cX8_muted 48 = .ok (.istore 6, 2) := by decide +kernel
theorem dX8_muted_50 : decode cX8_muted 50 = .ok (.iload 6, 2) := by decide +kernel
theorem dX8_muted_52 : decode cX8_muted 52 = .ok (.iload_n 3, 1) := by decide +kernel
theorem dX8_muted_53 : decode cX8_muted 53 = .ok (.if_icmp .ge 22, 3) := by decide +kernel
theorem dX8_muted_56 : decode cX8_muted 56 = .ok (.iload 4, 2) := by decide +kernel
theorem dX8_muted_58 : decode cX8_muted 58 = .ok (.iload_n 1, 1) := by decide +kernel
theorem dX8_muted_59 : decode cX8_muted 59 = .ok (.imul, 1) := by decide +kernel
theorem dX8_muted_60 : decode cX8_muted 60 = .ok (.istore 4, 2) := by decide +kernel
theorem dX8_muted_62 : decode cX8_muted 62 = .ok (.iload 5, 2) := by decide +kernel
theorem dX8_muted_64 : decode cX8_muted 64 = .ok (.bipush 10, 2) := by decide +kernel
theorem dX8_muted_66 : decode cX8_muted 66 = .ok (.imul, 1) := by decide +kernel
theorem dX8_muted_67 : decode cX8_muted 67 = .ok (.istore 5, 2) := by decide +kernel
theorem dX8_muted_69 : decode cX8_muted 69 = .ok (.iinc 6 1, 3) := by decide +kernel
theorem dX8_muted_72 : decode cX8_muted 72 = .ok (.goto (-22), 3) := by decide +kernel
theorem dX8_muted_75 : decode cX8_muted 75 = .ok (.iload 4, 2) := by decide +kernel
theorem dX8_muted_77 : decode cX8_muted 77 = .ok (.iload 5, 2) := by decide +kernel
theorem dX8_muted_79 : decode cX8_muted 79 = .ok (.iload_n 2, 1) := by decide +kernel
theorem dX8_muted_80 : decode cX8_muted 80 = .ok (.invokestatic 233, 3) := by decide +kernel
theorem dX8_muted_83 : decode cX8_muted 83 = .ok (.ireturn, 1) := by decide +kernel
theorem dX8_seed_0 : decode cX8_seed 0 = .ok (.aload_n 0, 1) := by decide +kernel
theorem dX8_seed_1 : decode cX8_seed 1 = .ok (.getfield 83, 3) := by decide +kernel
theorem dX8_seed_4 : decode cX8_seed 4 = .ok (.lstore_n 3, 1) := by decide +kernel
theorem dX8_seed_5 : decode cX8_seed 5 = .ok (.aload_n 0, 1) := by decide +kernel
theorem dX8_seed_6 : decode cX8_seed 6 = .ok (.lload_n 1, 1) := by decide +kernel
theorem dX8_seed_7 : decode cX8_seed 7 = .ok (.putfield 83, 3) := by decide +kernel
theorem dX8_seed_10 : decode cX8_seed 10 = .ok (.lload_n 3, 1) := by decide +kernel
theorem dX8_seed_11 : decode cX8_seed 11 = .ok (.lreturn, 1) := by decide +kernel
theorem dX8_drawn_0 : decode cX8_drawn 0 = .ok (.iload_n 1, 1) := by decide +kernel
theorem dX8_drawn_1 : decode cX8_drawn 1 = .ok (.iconst 1, 1) := by decide +kernel
theorem dX8_drawn_2 : decode cX8_drawn 2 = .ok (.if_icmp .lt 9, 3) := by decide +kernel
theorem dX8_drawn_5 : decode cX8_drawn 5 = .ok (.iload_n 1, 1) := by decide +kernel
theorem dX8_drawn_6 : decode cX8_drawn 6 = .ok (.bipush 20, 2) := by decide +kernel
theorem dX8_drawn_8 : decode cX8_drawn 8 = .ok (.if_icmp .le 6, 3) := by decide +kernel
theorem dX8_drawn_11 : decode cX8_drawn 11 = .ok (.bipush (-2), 2) := by decide +kernel
theorem dX8_drawn_13 : decode cX8_drawn 13 = .ok (.ireturn, 1) := by decide +kernel
theorem dX8_drawn_14 : decode cX8_drawn 14 = .ok (.iconst 0, 1) := by decide +kernel
theorem dX8_drawn_15 : decode cX8_drawn 15 = .ok (.istore_n 2, 1) := by decide +kernel
theorem dX8_drawn_16 : decode cX8_drawn 16 = .ok (.iconst 0, 1) := by decide +kernel
theorem dX8_drawn_17 : decode cX8_drawn 17 = .ok (.istore_n 3, 1) := by decide +kernel
theorem dX8_drawn_18 : decode cX8_drawn 18 = .ok (.iload_n 3, 1) := by decide +kernel
theorem dX8_drawn_19 : decode cX8_drawn 19 = .ok (.iload_n 1, 1) := by decide +kernel
theorem dX8_drawn_20 : decode cX8_drawn 20 = .ok (.if_icmp .ge 103, 3) := by decide +kernel
theorem dX8_drawn_23 : decode cX8_drawn 23 = .ok (.aload_n 0, 1) := by decide +kernel
theorem dX8_drawn_24 : decode cX8_drawn 24 = .ok (.aload_n 0, 1) := by decide +kernel
theorem dX8_drawn_25 : decode cX8_drawn 25 = .ok (.getfield 83, 3) := by decide +kernel
theorem dX8_drawn_28 : decode cX8_drawn 28 = .ok (.ldc2_w 237, 3) := by decide +kernel
theorem dX8_drawn_31 : decode cX8_drawn 31 = .ok (.lmul, 1) := by decide +kernel
theorem dX8_drawn_32 : decode cX8_drawn 32 = .ok (.ldc2_w 239, 3) := by decide +kernel
theorem dX8_drawn_35 : decode cX8_drawn 35 = .ok (.ladd, 1) := by decide +kernel
theorem dX8_drawn_36 : decode cX8_drawn 36 = .ok (.putfield 83, 3) := by decide +kernel
