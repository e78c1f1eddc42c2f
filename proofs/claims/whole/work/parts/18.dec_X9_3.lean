theorem dX9_keep_35 : decode cX9_keep 35 = .ok (.iload_n 2, 1) := by decide +kernel
theorem dX9_keep_36 : decode cX9_keep 36 = .ok (.iadd, 1) := by decide +kernel
theorem dX9_keep_37 : decode cX9_keep 37 = .ok (.aload_n 0, 1) := by decide +kernel
theorem dX9_keep_38 : decode cX9_keep 38 = .ok (.getfield 7, 3) := by decide +kernel
theorem dX9_keep_41 : decode cX9_keep 41 = .ok (.iload_n 2, 1) := by decide +kernel
theorem dX9_keep_42 : decode cX9_keep 42 = .ok (.iaload, 1) := by decide +kernel
theorem dX9_keep_43 : decode cX9_keep 43 = .ok (.iastore, 1) := by decide +kernel
theorem dX9_keep_44 : decode cX9_keep 44 = .ok (.iinc 2 1, 3) := by decide +kernel
theorem dX9_keep_47 : decode cX9_keep 47 = .ok (.goto (-26), 3) := by decide +kernel
theorem dX9_keep_50 : decode cX9_keep 50 = .ok (.aload_n 0, 1) := by decide +kernel
theorem dX9_keep_51 : decode cX9_keep 51 = .ok (.getfield 105, 3) := by decide +kernel
theorem dX9_keep_54 : decode cX9_keep 54 = .ok (.ireturn, 1) := by decide +kernel
theorem dX9_again_0 : decode cX9_again 0 = .ok (.iload_n 1, 1) := by decide +kernel
theorem dX9_again_1 : decode cX9_again 1 = .ok (.i2l, 1) := by decide +kernel
theorem dX9_again_2 : decode cX9_again 2 = .ok (.lconst 0, 1) := by decide +kernel
theorem dX9_again_3 : decode cX9_again 3 = .ok (.lconst 1, 1) := by decide +kernel
theorem dX9_again_4 : decode cX9_again 4 = .ok (.invokestatic 60, 3) := by decide +kernel
theorem dX9_again_7 : decode cX9_again 7 = .ok (.ifCond .ne 5, 3) := by decide +kernel
theorem dX9_again_10 : decode cX9_again 10 = .ok (.iconst (-1), 1) := by decide +kernel
theorem dX9_again_11 : decode cX9_again 11 = .ok (.ireturn, 1) := by decide +kernel
theorem dX9_again_12 : decode cX9_again 12 = .ok (.aload_n 0, 1) := by decide +kernel
theorem dX9_again_13 : decode cX9_again 13 = .ok (.getfield 47, 3) := by decide +kernel
theorem dX9_again_16 : decode cX9_again 16 = .ok (.iload_n 1, 1) := by decide +kernel
theorem dX9_again_17 : decode cX9_again 17 = .ok (.baload, 1) := by decide +kernel
theorem dX9_again_18 : decode cX9_again 18 = .ok (.ifCond .ne 6, 3) := by decide +kernel
theorem dX9_again_21 : decode cX9_again 21 = .ok (.bipush (-3), 2) := by decide +kernel
theorem dX9_again_23 : decode cX9_again 23 = .ok (.ireturn, 1) := by decide +kernel
theorem dX9_again_24 : decode cX9_again 24 = .ok (.iconst 0, 1) := by decide +kernel
theorem dX9_again_25 : decode cX9_again 25 = .ok (.istore_n 2, 1) := by decide +kernel
theorem dX9_again_26 : decode cX9_again 26 = .ok (.iload_n 2, 1) := by decide +kernel
theorem dX9_again_27 : decode cX9_again 27 = .ok (.bipush 48, 2) := by decide +kernel
theorem dX9_again_29 : decode cX9_again 29 = .ok (.if_icmp .ge 26, 3) := by decide +kernel
theorem dX9_again_32 : decode cX9_again 32 = .ok (.aload_n 0, 1) := by decide +kernel
theorem dX9_again_33 : decode cX9_again 33 = .ok (.getfield 7, 3) := by decide +kernel
theorem dX9_again_36 : decode cX9_again 36 = .ok (.iload_n 2, 1) := by decide +kernel
theorem dX9_again_37 : decode cX9_again 37 = .ok (.aload_n 0, 1) := by decide +kernel
theorem dX9_again_38 : decode cX9_again 38 = .ok (.getfield 51, 3) := by decide +kernel
theorem dX9_again_41 : decode cX9_again 41 = .ok (.bipush 48, 2) := by decide +kernel
theorem dX9_again_43 : decode cX9_again 43 = .ok (.iload_n 1, 1) := by decide +kernel
theorem dX9_again_44 : decode cX9_again 44 = .ok (.imul, 1) := by decide +kernel
theorem dX9_again_45 : decode cX9_again 45 = .ok (.iload_n 2, 1) := by decide +kernel
theorem dX9_again_46 : decode cX9_again 46 = .ok (.iadd, 1) := by decide +kernel
theorem dX9_again_47 : decode cX9_again 47 = .ok (.iaload, 1) := by decide +kernel
theorem dX9_again_48 : decode cX9_again 48 = .ok (.iastore, 1) := by decide +kernel
theorem dX9_again_49 : decode cX9_again 49 = .ok (.iinc 2 1, 3) := by decide +kernel
theorem dX9_again_52 : decode cX9_again 52 = .ok (.goto (-26), 3) := by decide +kernel
theorem dX9_again_55 : decode cX9_again 55 = .ok (.aload_n 0, 1) := by decide +kernel
theorem dX9_again_56 : decode cX9_again 56 = .ok (.iconst 0, 1) := by decide +kernel
theorem dX9_again_57 : decode cX9_again 57 = .ok (.putfield 108, 3) := by decide +kernel
theorem dX9_again_60 : decode cX9_again 60 = .ok (.aload_n 0, 1) := by decide +kernel
theorem dX9_again_61 : decode cX9_again 61 = .ok (.getfield 105, 3) := by decide +kernel
theorem dX9_again_64 : decode cX9_again 64 = .ok (.ireturn, 1) := by decide +kernel
theorem dX9_freed_0 : decode cX9_freed 0 = .ok (.iconst 0, 1) := by decide +kernel
theorem dX9_freed_1 : decode cX9_freed 1 = .ok (.istore_n 1, 1) := by decide +kernel
theorem dX9_freed_2 : decode cX9_freed 2 = .ok (.iconst 0, 1) := by decide +kernel
theorem dX9_freed_3 : decode cX9_freed 3 = .ok (.istore_n 2, 1) := by decide +kernel
theorem dX9_freed_4 : decode cX9_freed 4 = .ok (.iload_n 2, 1) := by decide +kernel
theorem dX9_freed_5 : decode cX9_freed 5 = .ok (.aload_n 0, 1) := by decide +kernel
theorem dX9_freed_6 : decode cX9_freed 6 = .ok (.getfield 105, 3) := by decide +kernel
theorem dX9_freed_9 : decode cX9_freed 9 = .ok (.if_icmp .ge 41, 3) := by decide +kernel
theorem dX9_freed_12 : decode cX9_freed 12 = .ok (.iload_n 1, 1) := by decide +kernel
theorem dX9_freed_13 : decode cX9_freed 13 = .ok (.aload_n 0, 1) := by decide +kernel
theorem dX9_freed_14 : decode cX9_freed 14 = .ok (.getfield 132, 3) := by decide +kernel
theorem dX9_freed_17 : decode cX9_freed 17 = .ok (.iload_n 2, 1) := by decide +kernel
theorem dX9_freed_18 : decode cX9_freed 18 = .ok (.invokestatic 118, 3) := by decide +kernel
theorem dX9_freed_21 : decode cX9_freed 21 = .ok (.ifCond .eq 20, 3) := by decide +kernel
theorem dX9_freed_24 : decode cX9_freed 24 = .ok (.aload_n 0, 1) := by decide +kernel
theorem dX9_freed_25 : decode cX9_freed 25 = .ok (.getfield 7, 3) := by decide +kernel
theorem dX9_freed_28 : decode cX9_freed 28 = .ok (.iconst 0, 1) := by decide +kernel
theorem dX9_freed_29 : decode cX9_freed 29 = .ok (.iload_n 2, 1) := by decide +kernel
theorem dX9_freed_30 : decode cX9_freed 30 = .ok (.iadd, 1) := by decide +kernel
theorem dX9_freed_31 : decode cX9_freed 31 = .ok (.iaload, 1) := by decide +kernel
theorem dX9_freed_32 : decode cX9_freed 32 = .ok (.bipush 6, 2) := by decide +kernel
theorem dX9_freed_34 : decode cX9_freed 34 = .ok (.if_icmp .ne 7, 3) := by decide +kernel
theorem dX9_freed_37 : decode cX9_freed 37 = .ok (.iconst 1, 1) := by decide +kernel
theorem dX9_freed_38 : decode cX9_freed 38 = .ok (.goto 4, 3) := by decide +kernel
theorem dX9_freed_41 : decode cX9_freed 41 = .ok (.iconst 0, 1) := by decide +kernel
theorem dX9_freed_42 : decode cX9_freed 42 = .ok (.iadd, 1) := by decide +kernel
theorem dX9_freed_43 : decode cX9_freed 43 = .ok (.istore_n 1, 1) := by decide +kernel
theorem dX9_freed_44 : decode cX9_freed 44 = .ok (.iinc 2 1, 3) := by decide +kernel
theorem dX9_freed_47 : decode cX9_freed 47 = .ok (.goto (-43), 3) := by decide +kernel
theorem dX9_freed_50 : decode cX9_freed 50 = .ok (.iload_n 1, 1) := by decide +kernel
theorem dX9_freed_51 : decode cX9_freed 51 = .ok (.ireturn, 1) := by decide +kernel
theorem dX9_count_0 : decode cX9_count 0 = .ok (.aload_n 0, 1) := by decide +kernel
theorem dX9_count_1 : decode cX9_count 1 = .ok (.iconst 0, 1) := by decide +kernel
theorem dX9_count_2 : decode cX9_count 2 = .ok (.invokevirtual 54, 3) := by decide +kernel
theorem dX9_count_5 : decode cX9_count 5 = .ok (.iload_n 1, 1) := by decide +kernel
theorem dX9_count_6 : decode cX9_count 6 = .ok (.tableswitch 131 0 8 #[50, 55, 60, 65, 73, 78, 107, 121, 126], 50) := by decide +kernel
theorem dX9_count_56 : decode cX9_count 56 = .ok (.aload_n 0, 1) := by decide +kernel
theorem dX9_count_57 : decode cX9_count 57 = .ok (.getfield 64, 3) := by decide +kernel
theorem dX9_count_60 : decode cX9_count 60 = .ok (.ireturn, 1) := by decide +kernel
theorem dX9_count_61 : decode cX9_count 61 = .ok (.aload_n 0, 1) := by decide +kernel
theorem dX9_count_62 : decode cX9_count 62 = .ok (.getfield 105, 3) := by decide +kernel
theorem dX9_count_65 : decode cX9_count 65 = .ok (.ireturn, 1) := by decide +kernel
theorem dX9_count_66 : decode cX9_count 66 = .ok (.aload_n 0, 1) := by decide +kernel
theorem dX9_count_67 : decode cX9_count 67 = .ok (.getfield 132, 3) := by decide +kernel
theorem dX9_count_70 : decode cX9_count 70 = .ok (.ireturn, 1) := by decide +kernel
theorem dX9_count_71 : decode cX9_count 71 = .ok (.aload_n 0, 1) := by decide +kernel
theorem dX9_count_72 : decode cX9_count 72 = .ok (.invokevirtual 218, 3) := by decide +kernel
theorem dX9_count_75 : decode cX9_count 75 = .ok (.invokestatic 221, 3) := by decide +kernel
theorem dX9_count_78 : decode cX9_count 78 = .ok (.ireturn, 1) := by decide +kernel
theorem dX9_count_79 : decode cX9_count 79 = .ok (.aload_n 0, 1) := by decide +kernel
theorem dX9_count_80 : decode cX9_count 80 = .ok (.invokevirtual 242, 3) := by decide +kernel
theorem dX9_count_83 : decode cX9_count 83 = .ok (.ireturn, 1) := by decide +kernel
theorem dX9_count_84 : decode cX9_count 84 = .ok (.aload_n 0, 1) := by decide +kernel
theorem dX9_count_85 : decode cX9_count 85 = .ok (.getfield 7, 3) := by decide +kernel
theorem dX9_count_88 : decode cX9_count 88 = .ok (.bipush 45, 2) := by decide +kernel
theorem dX9_count_90 : decode cX9_count 90 = .ok (.iaload, 1) := by decide +kernel
theorem dX9_count_91 : decode cX9_count 91 = .ok (.iconst 4, 1) := by decide +kernel
theorem dX9_count_92 : decode cX9_count 92 = .ok (.aload_n 0, 1) := by decide +kernel
theorem dX9_count_93 : decode cX9_count 93 = .ok (.getfield 7, 3) := by decide +kernel
theorem dX9_count_96 : decode cX9_count 96 = .ok (.bipush 46, 2) := by decide +kernel
theorem dX9_count_98 : decode cX9_count 98 = .ok (.iaload, 1) := by decide +kernel
theorem dX9_count_99 : decode cX9_count 99 = .ok (.imul, 1) := by decide +kernel
theorem dX9_count_100 : decode cX9_count 100 = .ok (.iadd, 1) := by decide +kernel
theorem dX9_count_101 : decode cX9_count 101 = .ok (.bipush 16, 2) := by decide +kernel
theorem dX9_count_103 : decode cX9_count 103 = .ok (.aload_n 0, 1) := by decide +kernel
theorem dX9_count_104 : decode cX9_count 104 = .ok (.getfield 7, 3) := by decide +kernel
theorem dX9_count_107 : decode cX9_count 107 = .ok (.bipush 47, 2) := by decide +kernel
theorem dX9_count_109 : decode cX9_count 109 = .ok (.iaload, 1) := by decide +kernel
theorem dX9_count_110 : decode cX9_count 110 = .ok (.imul, 1) := by decide +kernel
theorem dX9_count_111 : decode cX9_count 111 = .ok (.iadd, 1) := by decide +kernel
theorem dX9_count_112 : decode cX9_count 112 = .ok (.ireturn, 1) := by decide +kernel
theorem dX9_count_113 : decode cX9_count 113 = .ok (.aload_n 0, 1) := by decide +kernel
theorem dX9_count_114 : decode cX9_count 114 = .ok (.iconst 0, 1) := by decide +kernel
theorem dX9_count_115 : decode cX9_count 115 = .ok (.invokevirtual 152, 3) := by decide +kernel
theorem dX9_count_118 : decode cX9_count 118 = .ok (.ifCond .ne 7, 3) := by decide +kernel
theorem dX9_count_121 : decode cX9_count 121 = .ok (.iconst 1, 1) := by decide +kernel
theorem dX9_count_122 : decode cX9_count 122 = .ok (.goto 4, 3) := by decide +kernel
theorem dX9_count_125 : decode cX9_count 125 = .ok (.iconst 0, 1) := by decide +kernel
theorem dX9_count_126 : decode cX9_count 126 = .ok (.ireturn, 1) := by decide +kernel
theorem dX9_count_127 : decode cX9_count 127 = .ok (.aload_n 0, 1) := by decide +kernel
theorem dX9_count_128 : decode cX9_count 128 = .ok (.getfield 108, 3) := by decide +kernel
theorem dX9_count_131 : decode cX9_count 131 = .ok (.ireturn, 1) := by decide +kernel
theorem dX9_count_132 : decode cX9_count 132 = .ok (.aload_n 0, 1) := by decide +kernel
theorem dX9_count_133 : decode cX9_count 133 = .ok (.getfield 215, 3) := by decide +kernel
theorem dX9_count_136 : decode cX9_count 136 = .ok (.ireturn, 1) := by decide +kernel
theorem dX9_count_137 : decode cX9_count 137 = .ok (.bipush (-2), 2) := by decide +kernel
theorem dX9_count_139 : decode cX9_count 139 = .ok (.ireturn, 1) := by decide +kernel
