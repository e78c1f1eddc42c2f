theorem dX1_init_0 : decode cX1_init 0 = .ok (.aload_n 0, 1) := by decide +kernel
theorem dX1_init_1 : decode cX1_init 1 = .ok (.invokespecial 3, 3) := by decide +kernel
theorem dX1_init_4 : decode cX1_init 4 = .ok (.aload_n 0, 1) := by decide +kernel
theorem dX1_init_5 : decode cX1_init 5 = .ok (.iconst 0, 1) := by decide +kernel
theorem dX1_init_6 : decode cX1_init 6 = .ok (.putfield 9, 3) := by decide +kernel
theorem dX1_init_9 : decode cX1_init 9 = .ok (.aload_n 0, 1) := by decide +kernel
theorem dX1_init_10 : decode cX1_init 10 = .ok (.iconst 0, 1) := by decide +kernel
theorem dX1_init_11 : decode cX1_init 11 = .ok (.putfield 15, 3) := by decide +kernel
theorem dX1_init_14 : decode cX1_init 14 = .ok (.aload_n 0, 1) := by decide +kernel
theorem dX1_init_15 : decode cX1_init 15 = .ok (.bipush 9, 2) := by decide +kernel
theorem dX1_init_17 : decode cX1_init 17 = .ok (.newarray .int, 2) := by decide +kernel
theorem dX1_init_19 : decode cX1_init 19 = .ok (.putfield 18, 3) := by decide +kernel
theorem dX1_init_22 : decode cX1_init 22 = .ok (.aload_n 0, 1) := by decide +kernel
theorem dX1_init_23 : decode cX1_init 23 = .ok (.bipush 9, 2) := by decide +kernel
theorem dX1_init_25 : decode cX1_init 25 = .ok (.newarray .int, 2) := by decide +kernel
theorem dX1_init_27 : decode cX1_init 27 = .ok (.putfield 22, 3) := by decide +kernel
theorem dX1_init_30 : decode cX1_init 30 = .ok (.aload_n 0, 1) := by decide +kernel
theorem dX1_init_31 : decode cX1_init 31 = .ok (.bipush 9, 2) := by decide +kernel
theorem dX1_init_33 : decode cX1_init 33 = .ok (.iconst 5, 1) := by decide +kernel
theorem dX1_init_34 : decode cX1_init 34 = .ok (.multianewarray 25 2, 4) := by decide +kernel
theorem dX1_init_38 : decode cX1_init 38 = .ok (.putfield 27, 3) := by decide +kernel
theorem dX1_init_41 : decode cX1_init 41 = .ok (.aload_n 0, 1) := by decide +kernel
theorem dX1_init_42 : decode cX1_init 42 = .ok (.bipush 10, 2) := by decide +kernel
theorem dX1_init_44 : decode cX1_init 44 = .ok (.newarray .int, 2) := by decide +kernel
theorem dX1_init_46 : decode cX1_init 46 = .ok (.putfield 30, 3) := by decide +kernel
theorem dX1_init_49 : decode cX1_init 49 = .ok (.aload_n 0, 1) := by decide +kernel
theorem dX1_init_50 : decode cX1_init 50 = .ok (.bipush 10, 2) := by decide +kernel
theorem dX1_init_52 : decode cX1_init 52 = .ok (.newarray .int, 2) := by decide +kernel
theorem dX1_init_54 : decode cX1_init 54 = .ok (.putfield 33, 3) := by decide +kernel
theorem dX1_init_57 : decode cX1_init 57 = .ok (.aload_n 0, 1) := by decide +kernel
theorem dX1_init_58 : decode cX1_init 58 = .ok (.iconst 5, 1) := by decide +kernel
theorem dX1_init_59 : decode cX1_init 59 = .ok (.newarray .int, 2) := by decide +kernel
theorem dX1_init_61 : decode cX1_init 61 = .ok (.putfield 36, 3) := by decide +kernel
theorem dX1_init_64 : decode cX1_init 64 = .ok (.return_, 1) := by decide +kernel
theorem dX1_isReached_0 : decode cX1_isReached 0 = .ok (.aload_n 0, 1) := by decide +kernel
theorem dX1_isReached_1 : decode cX1_isReached 1 = .ok (.getfield 9, 3) := by decide +kernel
theorem dX1_isReached_4 : decode cX1_isReached 4 = .ok (.iload_n 1, 1) := by decide +kernel
theorem dX1_isReached_5 : decode cX1_isReached 5 = .ok (.ishr, 1) := by decide +kernel
theorem dX1_isReached_6 : decode cX1_isReached 6 = .ok (.iconst 1, 1) := by decide +kernel
theorem dX1_isReached_7 : decode cX1_isReached 7 = .ok (.iand, 1) := by decide +kernel
theorem dX1_isReached_8 : decode cX1_isReached 8 = .ok (.iconst 1, 1) := by decide +kernel
theorem dX1_isReached_9 : decode cX1_isReached 9 = .ok (.if_icmp .ne 7, 3) := by decide +kernel
theorem dX1_isReached_12 : decode cX1_isReached 12 = .ok (.iconst 1, 1) := by decide +kernel
theorem dX1_isReached_13 : decode cX1_isReached 13 = .ok (.goto 4, 3) := by decide +kernel
theorem dX1_isReached_16 : decode cX1_isReached 16 = .ok (.iconst 0, 1) := by decide +kernel
theorem dX1_isReached_17 : decode cX1_isReached 17 = .ok (.ireturn, 1) := by decide +kernel
theorem dX1_read_0 : decode cX1_read 0 = .ok (.aload_n 0, 1) := by decide +kernel
theorem dX1_read_1 : decode cX1_read 1 = .ok (.aload_n 1, 1) := by decide +kernel
theorem dX1_read_2 : decode cX1_read 2 = .ok (.invokevirtual 39, 3) := by decide +kernel
theorem dX1_read_5 : decode cX1_read 5 = .ok (.aload_n 0, 1) := by decide +kernel
theorem dX1_read_6 : decode cX1_read 6 = .ok (.aload_n 2, 1) := by decide +kernel
theorem dX1_read_7 : decode cX1_read 7 = .ok (.invokevirtual 43, 3) := by decide +kernel
theorem dX1_read_10 : decode cX1_read 10 = .ok (.aload_n 0, 1) := by decide +kernel
theorem dX1_read_11 : decode cX1_read 11 = .ok (.aload_n 1, 1) := by decide +kernel
theorem dX1_read_12 : decode cX1_read 12 = .ok (.getfield 47, 3) := by decide +kernel
theorem dX1_read_15 : decode cX1_read 15 = .ok (.ifCond .le 7, 3) := by decide +kernel
theorem dX1_read_18 : decode cX1_read 18 = .ok (.iconst 1, 1) := by decide +kernel
theorem dX1_read_19 : decode cX1_read 19 = .ok (.goto 4, 3) := by decide +kernel
theorem dX1_read_22 : decode cX1_read 22 = .ok (.iconst 0, 1) := by decide +kernel
theorem dX1_read_23 : decode cX1_read 23 = .ok (.putfield 9, 3) := by decide +kernel
theorem dX1_read_26 : decode cX1_read 26 = .ok (.aload_n 0, 1) := by decide +kernel
theorem dX1_read_27 : decode cX1_read 27 = .ok (.iconst 0, 1) := by decide +kernel
theorem dX1_read_28 : decode cX1_read 28 = .ok (.putfield 15, 3) := by decide +kernel
theorem dX1_read_31 : decode cX1_read 31 = .ok (.iconst 0, 1) := by decide +kernel
theorem dX1_read_32 : decode cX1_read 32 = .ok (.istore_n 3, 1) := by decide +kernel
theorem dX1_read_33 : decode cX1_read 33 = .ok (.iload_n 3, 1) := by decide +kernel
theorem dX1_read_34 : decode cX1_read 34 = .ok (.aload_n 1, 1) := by decide +kernel
theorem dX1_read_35 : decode cX1_read 35 = .ok (.getfield 47, 3) := by decide +kernel
theorem dX1_read_38 : decode cX1_read 38 = .ok (.if_icmp .ge 80, 3) := by decide +kernel
theorem dX1_read_41 : decode cX1_read 41 = .ok (.aload_n 0, 1) := by decide +kernel
theorem dX1_read_42 : decode cX1_read 42 = .ok (.iload_n 3, 1) := by decide +kernel
theorem dX1_read_43 : decode cX1_read 43 = .ok (.invokevirtual 52, 3) := by decide +kernel
theorem dX1_read_46 : decode cX1_read 46 = .ok (.ifCond .eq 66, 3) := by decide +kernel
theorem dX1_read_49 : decode cX1_read 49 = .ok (.aload_n 0, 1) := by decide +kernel
theorem dX1_read_50 : decode cX1_read 50 = .ok (.getfield 22, 3) := by decide +kernel
theorem dX1_read_53 : decode cX1_read 53 = .ok (.iload_n 3, 1) := by decide +kernel
theorem dX1_read_54 : decode cX1_read 54 = .ok (.aload_n 0, 1) := by decide +kernel
theorem dX1_read_55 : decode cX1_read 55 = .ok (.aload_n 1, 1) := by decide +kernel
theorem dX1_read_56 : decode cX1_read 56 = .ok (.iload_n 3, 1) := by decide +kernel
theorem dX1_read_57 : decode cX1_read 57 = .ok (.invokevirtual 56, 3) := by decide +kernel
theorem dX1_read_60 : decode cX1_read 60 = .ok (.iastore, 1) := by decide +kernel
theorem dX1_read_61 : decode cX1_read 61 = .ok (.aload_n 0, 1) := by decide +kernel
theorem dX1_read_62 : decode cX1_read 62 = .ok (.aload_n 1, 1) := by decide +kernel
theorem dX1_read_63 : decode cX1_read 63 = .ok (.iload_n 3, 1) := by decide +kernel
theorem dX1_read_64 : decode cX1_read 64 = .ok (.invokevirtual 60, 3) := by decide +kernel
theorem dX1_read_67 : decode cX1_read 67 = .ok (.aload_n 1, 1) := by decide +kernel
theorem dX1_read_68 : decode cX1_read 68 = .ok (.getfield 64, 3) := by decide +kernel
theorem dX1_read_71 : decode cX1_read 71 = .ok (.iload_n 3, 1) := by decide +kernel
theorem dX1_read_72 : decode cX1_read 72 = .ok (.aaload, 1) := by decide +kernel
theorem dX1_read_73 : decode cX1_read 73 = .ok (.iconst 4, 1) := by decide +kernel
theorem dX1_read_74 : decode cX1_read 74 = .ok (.iaload, 1) := by decide +kernel
theorem dX1_read_75 : decode cX1_read 75 = .ok (.bipush (-9), 2) := by decide +kernel
theorem dX1_read_77 : decode cX1_read 77 = .ok (.if_icmp .eq 9, 3) := by decide +kernel
theorem dX1_read_80 : decode cX1_read 80 = .ok (.aload_n 0, 1) := by decide +kernel
theorem dX1_read_81 : decode cX1_read 81 = .ok (.aload_n 1, 1) := by decide +kernel
theorem dX1_read_82 : decode cX1_read 82 = .ok (.iload_n 3, 1) := by decide +kernel
theorem dX1_read_83 : decode cX1_read 83 = .ok (.invokevirtual 67, 3) := by decide +kernel
theorem dX1_read_86 : decode cX1_read 86 = .ok (.aload_n 0, 1) := by decide +kernel
theorem dX1_read_87 : decode cX1_read 87 = .ok (.aload_n 1, 1) := by decide +kernel
theorem dX1_read_88 : decode cX1_read 88 = .ok (.getfield 64, 3) := by decide +kernel
theorem dX1_read_91 : decode cX1_read 91 = .ok (.iload_n 3, 1) := by decide +kernel
theorem dX1_read_92 : decode cX1_read 92 = .ok (.aaload, 1) := by decide +kernel
theorem dX1_read_93 : decode cX1_read 93 = .ok (.iload_n 3, 1) := by decide +kernel
theorem dX1_read_94 : decode cX1_read 94 = .ok (.invokevirtual 70, 3) := by decide +kernel
theorem dX1_read_97 : decode cX1_read 97 = .ok (.ifCond .eq 15, 3) := by decide +kernel
theorem dX1_read_100 : decode cX1_read 100 = .ok (.aload_n 0, 1) := by decide +kernel
theorem dX1_read_101 : decode cX1_read 101 = .ok (.dup, 1) := by decide +kernel
theorem dX1_read_102 : decode cX1_read 102 = .ok (.getfield 15, 3) := by decide +kernel
theorem dX1_read_105 : decode cX1_read 105 = .ok (.iconst 1, 1) := by decide +kernel
theorem dX1_read_106 : decode cX1_read 106 = .ok (.iload_n 3, 1) := by decide +kernel
theorem dX1_read_107 : decode cX1_read 107 = .ok (.ishl, 1) := by decide +kernel
theorem dX1_read_108 : decode cX1_read 108 = .ok (.ior, 1) := by decide +kernel
theorem dX1_read_109 : decode cX1_read 109 = .ok (.putfield 15, 3) := by decide +kernel
theorem dX1_read_112 : decode cX1_read 112 = .ok (.iinc 3 1, 3) := by decide +kernel
theorem dX1_read_115 : decode cX1_read 115 = .ok (.goto (-82), 3) := by decide +kernel
theorem dX1_read_118 : decode cX1_read 118 = .ok (.return_, 1) := by decide +kernel
theorem dX1_readWays_0 : decode cX1_readWays 0 = .ok (.aload_n 1, 1) := by decide +kernel
theorem dX1_readWays_1 : decode cX1_readWays 1 = .ok (.getfield 47, 3) := by decide +kernel
theorem dX1_readWays_4 : decode cX1_readWays 4 = .ok (.istore_n 2, 1) := by decide +kernel
theorem dX1_readWays_5 : decode cX1_readWays 5 = .ok (.aload_n 0, 1) := by decide +kernel
theorem dX1_readWays_6 : decode cX1_readWays 6 = .ok (.getfield 30, 3) := by decide +kernel
theorem dX1_readWays_9 : decode cX1_readWays 9 = .ok (.iload_n 2, 1) := by decide +kernel
theorem dX1_readWays_10 : decode cX1_readWays 10 = .ok (.iconst 1, 1) := by decide +kernel
theorem dX1_readWays_11 : decode cX1_readWays 11 = .ok (.iload_n 2, 1) := by decide +kernel
theorem dX1_readWays_12 : decode cX1_readWays 12 = .ok (.ishl, 1) := by decide +kernel
theorem dX1_readWays_13 : decode cX1_readWays 13 = .ok (.iastore, 1) := by decide +kernel
theorem dX1_readWays_14 : decode cX1_readWays 14 = .ok (.aload_n 0, 1) := by decide +kernel
theorem dX1_readWays_15 : decode cX1_readWays 15 = .ok (.getfield 33, 3) := by decide +kernel
theorem dX1_readWays_18 : decode cX1_readWays 18 = .ok (.iload_n 2, 1) := by decide +kernel
theorem dX1_readWays_19 : decode cX1_readWays 19 = .ok (.iconst 1, 1) := by decide +kernel
theorem dX1_readWays_20 : decode cX1_readWays 20 = .ok (.iload_n 2, 1) := by decide +kernel
theorem dX1_readWays_21 : decode cX1_readWays 21 = .ok (.ishl, 1) := by decide +kernel
theorem dX1_readWays_22 : decode cX1_readWays 22 = .ok (.iastore, 1) := by decide +kernel
theorem dX1_readWays_23 : decode cX1_readWays 23 = .ok (.iload_n 2, 1) := by decide +kernel
theorem dX1_readWays_24 : decode cX1_readWays 24 = .ok (.iconst 1, 1) := by decide +kernel
theorem dX1_readWays_25 : decode cX1_readWays 25 = .ok (.isub, 1) := by decide +kernel
theorem dX1_readWays_26 : decode cX1_readWays 26 = .ok (.istore_n 3, 1) := by decide +kernel
theorem dX1_readWays_27 : decode cX1_readWays 27 = .ok (.iload_n 3, 1) := by decide +kernel
theorem dX1_readWays_28 : decode cX1_readWays 28 = .ok (.ifCond .lt 83, 3) := by decide +kernel
theorem dX1_readWays_31 : decode cX1_readWays 31 = .ok (.aload_n 1, 1) := by decide +kernel
theorem dX1_readWays_32 : decode cX1_readWays 32 = .ok (.iload_n 3, 1) := by decide +kernel
theorem dX1_readWays_33 : decode cX1_readWays 33 = .ok (.invokevirtual 74, 3) := by decide +kernel
theorem dX1_readWays_36 : decode cX1_readWays 36 = .ok (.istore 4, 2) := by decide +kernel
theorem dX1_readWays_38 : decode cX1_readWays 38 = .ok (.aload_n 0, 1) := by decide +kernel
theorem dX1_readWays_39 : decode cX1_readWays 39 = .ok (.getfield 33, 3) := by decide +kernel
theorem dX1_readWays_42 : decode cX1_readWays 42 = .ok (.iload_n 3, 1) := by decide +kernel
theorem dX1_readWays_43 : decode cX1_readWays 43 = .ok (.iconst 1, 1) := by decide +kernel
theorem dX1_readWays_44 : decode cX1_readWays 44 = .ok (.iadd, 1) := by decide +kernel
theorem dX1_readWays_45 : decode cX1_readWays 45 = .ok (.iaload, 1) := by decide +kernel
theorem dX1_readWays_46 : decode cX1_readWays 46 = .ok (.aload_n 0, 1) := by decide +kernel
theorem dX1_readWays_47 : decode cX1_readWays 47 = .ok (.getfield 33, 3) := by decide +kernel
theorem dX1_readWays_50 : decode cX1_readWays 50 = .ok (.iload 4, 2) := by decide +kernel
theorem dX1_readWays_52 : decode cX1_readWays 52 = .ok (.iaload, 1) := by decide +kernel
theorem dX1_readWays_53 : decode cX1_readWays 53 = .ok (.iand, 1) := by decide +kernel
theorem dX1_readWays_54 : decode cX1_readWays 54 = .ok (.istore 5, 2) := by decide +kernel
theorem dX1_readWays_56 : decode cX1_readWays 56 = .ok (.aload_n 0, 1) := by decide +kernel
theorem dX1_readWays_57 : decode cX1_readWays 57 = .ok (.getfield 18, 3) := by decide +kernel
theorem dX1_readWays_60 : decode cX1_readWays 60 = .ok (.iload_n 3, 1) := by decide +kernel
theorem dX1_readWays_61 : decode cX1_readWays 61 = .ok (.iload 5, 2) := by decide +kernel
theorem dX1_readWays_63 : decode cX1_readWays 63 = .ok (.invokestatic 78, 3) := by decide +kernel
theorem dX1_readWays_66 : decode cX1_readWays 66 = .ok (.iastore, 1) := by decide +kernel
theorem dX1_readWays_67 : decode cX1_readWays 67 = .ok (.aload_n 0, 1) := by decide +kernel
theorem dX1_readWays_68 : decode cX1_readWays 68 = .ok (.getfield 33, 3) := by decide +kernel
theorem dX1_readWays_71 : decode cX1_readWays 71 = .ok (.iload_n 3, 1) := by decide +kernel
theorem dX1_readWays_72 : decode cX1_readWays 72 = .ok (.iload 5, 2) := by decide +kernel
theorem dX1_readWays_74 : decode cX1_readWays 74 = .ok (.iconst 1, 1) := by decide +kernel
theorem dX1_readWays_75 : decode cX1_readWays 75 = .ok (.iload_n 3, 1) := by decide +kernel
theorem dX1_readWays_76 : decode cX1_readWays 76 = .ok (.ishl, 1) := by decide +kernel
theorem dX1_readWays_77 : decode cX1_readWays 77 = .ok (.ior, 1) := by decide +kernel
theorem dX1_readWays_78 : decode cX1_readWays 78 = .ok (.iastore, 1) := by decide +kernel
theorem dX1_readWays_79 : decode cX1_readWays 79 = .ok (.aload_n 0, 1) := by decide +kernel
theorem dX1_readWays_80 : decode cX1_readWays 80 = .ok (.getfield 30, 3) := by decide +kernel
theorem dX1_readWays_83 : decode cX1_readWays 83 = .ok (.iload_n 3, 1) := by decide +kernel
theorem dX1_readWays_84 : decode cX1_readWays 84 = .ok (.aload_n 0, 1) := by decide +kernel
theorem dX1_readWays_85 : decode cX1_readWays 85 = .ok (.getfield 30, 3) := by decide +kernel
theorem dX1_readWays_88 : decode cX1_readWays 88 = .ok (.iload_n 3, 1) := by decide +kernel
theorem dX1_readWays_89 : decode cX1_readWays 89 = .ok (.iconst 1, 1) := by decide +kernel
theorem dX1_readWays_90 : decode cX1_readWays 90 = .ok (.iadd, 1) := by decide +kernel
theorem dX1_readWays_91 : decode cX1_readWays 91 = .ok (.iaload, 1) := by decide +kernel
theorem dX1_readWays_92 : decode cX1_readWays 92 = .ok (.aload_n 0, 1) := by decide +kernel
theorem dX1_readWays_93 : decode cX1_readWays 93 = .ok (.getfield 30, 3) := by decide +kernel
theorem dX1_readWays_96 : decode cX1_readWays 96 = .ok (.iload 4, 2) := by decide +kernel
theorem dX1_readWays_98 : decode cX1_readWays 98 = .ok (.iaload, 1) := by decide +kernel
theorem dX1_readWays_99 : decode cX1_readWays 99 = .ok (.ior, 1) := by decide +kernel
theorem dX1_readWays_100 : decode cX1_readWays 100 = .ok (.iconst 1, 1) := by decide +kernel
theorem dX1_readWays_101 : decode cX1_readWays 101 = .ok (.iload_n 3, 1) := by decide +kernel
theorem dX1_readWays_102 : decode cX1_readWays 102 = .ok (.ishl, 1) := by decide +kernel
theorem dX1_readWays_103 : decode cX1_readWays 103 = .ok (.ior, 1) := by decide +kernel
theorem dX1_readWays_104 : decode cX1_readWays 104 = .ok (.iastore, 1) := by decide +kernel
theorem dX1_readWays_105 : decode cX1_readWays 105 = .ok (.iinc 3 (-1), 3) := by decide +kernel
theorem dX1_readWays_108 : decode cX1_readWays 108 = .ok (.goto (-81), 3) := by decide +kernel
theorem dX1_readWays_111 : decode cX1_readWays 111 = .ok (.return_, 1) := by decide +kernel
theorem dX1_clearLabels_0 : decode cX1_clearLabels 0 = .ok (.iconst 0, 1) := by decide +kernel
theorem dX1_clearLabels_1 : decode cX1_clearLabels 1 = .ok (.istore_n 2, 1) := by decide +kernel
theorem dX1_clearLabels_2 : decode cX1_clearLabels 2 = .ok (.iload_n 2, 1) := by decide +kernel
theorem dX1_clearLabels_3 : decode cX1_clearLabels 3 = .ok (.bipush 9, 2) := by decide +kernel
theorem dX1_clearLabels_5 : decode cX1_clearLabels 5 = .ok (.if_icmp .ge 19, 3) := by decide +kernel
theorem dX1_clearLabels_8 : decode cX1_clearLabels 8 = .ok (.aload_n 0, 1) := by decide +kernel
theorem dX1_clearLabels_9 : decode cX1_clearLabels 9 = .ok (.getfield 27, 3) := by decide +kernel
theorem dX1_clearLabels_12 : decode cX1_clearLabels 12 = .ok (.iload_n 2, 1) := by decide +kernel
theorem dX1_clearLabels_13 : decode cX1_clearLabels 13 = .ok (.aaload, 1) := by decide +kernel
theorem dX1_clearLabels_14 : decode cX1_clearLabels 14 = .ok (.iconst 0, 1) := by decide +kernel
theorem dX1_clearLabels_15 : decode cX1_clearLabels 15 = .ok (.invokestatic 83, 3) := by decide +kernel
theorem dX1_clearLabels_18 : decode cX1_clearLabels 18 = .ok (.iinc 2 1, 3) := by decide +kernel
theorem dX1_clearLabels_21 : decode cX1_clearLabels 21 = .ok (.goto (-19), 3) := by decide +kernel
theorem dX1_clearLabels_24 : decode cX1_clearLabels 24 = .ok (.aload_n 1, 1) := by decide +kernel
theorem dX1_clearLabels_25 : decode cX1_clearLabels 25 = .ok (.iconst 0, 1) := by decide +kernel
theorem dX1_clearLabels_26 : decode cX1_clearLabels 26 = .ok (.aload_n 0, 1) := by decide +kernel
theorem dX1_clearLabels_27 : decode cX1_clearLabels 27 = .ok (.getfield 27, 3) := by decide +kernel
theorem dX1_clearLabels_30 : decode cX1_clearLabels 30 = .ok (.iconst 0, 1) := by decide +kernel
theorem dX1_clearLabels_31 : decode cX1_clearLabels 31 = .ok (.aaload, 1) := by decide +kernel
theorem dX1_clearLabels_32 : decode cX1_clearLabels 32 = .ok (.iconst 0, 1) := by decide +kernel
theorem dX1_clearLabels_33 : decode cX1_clearLabels 33 = .ok (.iconst 3, 1) := by decide +kernel
theorem dX1_clearLabels_34 : decode cX1_clearLabels 34 = .ok (.invokestatic 89, 3) := by decide +kernel
theorem dX1_clearLabels_37 : decode cX1_clearLabels 37 = .ok (.return_, 1) := by decide +kernel
theorem dX1_contextOf_0 : decode cX1_contextOf 0 = .ok (.iconst 0, 1) := by decide +kernel
theorem dX1_contextOf_1 : decode cX1_contextOf 1 = .ok (.istore_n 3, 1) := by decide +kernel
theorem dX1_contextOf_2 : decode cX1_contextOf 2 = .ok (.iconst 0, 1) := by decide +kernel
theorem dX1_contextOf_3 : decode cX1_contextOf 3 = .ok (.istore 4, 2) := by decide +kernel
theorem dX1_contextOf_5 : decode cX1_contextOf 5 = .ok (.iload 4, 2) := by decide +kernel
theorem dX1_contextOf_7 : decode cX1_contextOf 7 = .ok (.iload_n 2, 1) := by decide +kernel
theorem dX1_contextOf_8 : decode cX1_contextOf 8 = .ok (.if_icmp .ge 60, 3) := by decide +kernel
theorem dX1_contextOf_11 : decode cX1_contextOf 11 = .ok (.aload_n 0, 1) := by decide +kernel
theorem dX1_contextOf_12 : decode cX1_contextOf 12 = .ok (.iload 4, 2) := by decide +kernel
theorem dX1_contextOf_14 : decode cX1_contextOf 14 = .ok (.invokevirtual 52, 3) := by decide +kernel
theorem dX1_contextOf_17 : decode cX1_contextOf 17 = .ok (.ifCond .eq 45, 3) := by decide +kernel
theorem dX1_contextOf_20 : decode cX1_contextOf 20 = .ok (.aload_n 0, 1) := by decide +kernel
theorem dX1_contextOf_21 : decode cX1_contextOf 21 = .ok (.getfield 30, 3) := by decide +kernel
theorem dX1_contextOf_24 : decode cX1_contextOf 24 = .ok (.iload 4, 2) := by decide +kernel
theorem dX1_contextOf_26 : decode cX1_contextOf 26 = .ok (.iaload, 1) := by decide +kernel
theorem dX1_contextOf_27 : decode cX1_contextOf 27 = .ok (.iload_n 2, 1) := by decide +kernel
theorem dX1_contextOf_28 : decode cX1_contextOf 28 = .ok (.ishr, 1) := by decide +kernel
theorem dX1_contextOf_29 : decode cX1_contextOf 29 = .ok (.iconst 1, 1) := by decide +kernel
theorem dX1_contextOf_30 : decode cX1_contextOf 30 = .ok (.iand, 1) := by decide +kernel
theorem dX1_contextOf_31 : decode cX1_contextOf 31 = .ok (.iconst 1, 1) := by decide +kernel
theorem dX1_contextOf_32 : decode cX1_contextOf 32 = .ok (.if_icmp .ne 30, 3) := by decide +kernel
theorem dX1_contextOf_35 : decode cX1_contextOf 35 = .ok (.iload_n 2, 1) := by decide +kernel
theorem dX1_contextOf_36 : decode cX1_contextOf 36 = .ok (.aload_n 0, 1) := by decide +kernel
theorem dX1_contextOf_37 : decode cX1_contextOf 37 = .ok (.getfield 18, 3) := by decide +kernel
theorem dX1_contextOf_40 : decode cX1_contextOf 40 = .ok (.iload 4, 2) := by decide +kernel
theorem dX1_contextOf_42 : decode cX1_contextOf 42 = .ok (.iaload, 1) := by decide +kernel
theorem dX1_contextOf_43 : decode cX1_contextOf 43 = .ok (.if_icmp .ge 19, 3) := by decide +kernel
theorem dX1_contextOf_46 : decode cX1_contextOf 46 = .ok (.iload_n 3, 1) := by decide +kernel
theorem dX1_contextOf_47 : decode cX1_contextOf 47 = .ok (.aload_n 0, 1) := by decide +kernel
theorem dX1_contextOf_48 : decode cX1_contextOf 48 = .ok (.aload_n 1, 1) := by decide +kernel
theorem dX1_contextOf_49 : decode cX1_contextOf 49 = .ok (.getfield 64, 3) := by decide +kernel
theorem dX1_contextOf_52 : decode cX1_contextOf 52 = .ok (.iload 4, 2) := by decide +kernel
theorem dX1_contextOf_54 : decode cX1_contextOf 54 = .ok (.aaload, 1) := by decide +kernel
theorem dX1_contextOf_55 : decode cX1_contextOf 55 = .ok (.iload 4, 2) := by decide +kernel
theorem dX1_contextOf_57 : decode cX1_contextOf 57 = .ok (.invokevirtual 95, 3) := by decide +kernel
theorem dX1_contextOf_60 : decode cX1_contextOf 60 = .ok (.ior, 1) := by decide +kernel
theorem dX1_contextOf_61 : decode cX1_contextOf 61 = .ok (.istore_n 3, 1) := by decide +kernel
theorem dX1_contextOf_62 : decode cX1_contextOf 62 = .ok (.iinc 4 1, 3) := by decide +kernel
theorem dX1_contextOf_65 : decode cX1_contextOf 65 = .ok (.goto (-60), 3) := by decide +kernel
theorem dX1_contextOf_68 : decode cX1_contextOf 68 = .ok (.iload_n 3, 1) := by decide +kernel
theorem dX1_contextOf_69 : decode cX1_contextOf 69 = .ok (.ireturn, 1) := by decide +kernel
theorem dX1_lookedAt_0 : decode cX1_lookedAt 0 = .ok (.aload_n 1, 1) := by decide +kernel
theorem dX1_lookedAt_1 : decode cX1_lookedAt 1 = .ok (.iconst 0, 1) := by decide +kernel
theorem dX1_lookedAt_2 : decode cX1_lookedAt 2 = .ok (.iaload, 1) := by decide +kernel
theorem dX1_lookedAt_3 : decode cX1_lookedAt 3 = .ok (.tableswitch 47 2 4 #[25, 36, 36], 25) := by decide +kernel
theorem dX1_lookedAt_28 : decode cX1_lookedAt 28 = .ok (.aload_n 0, 1) := by decide +kernel
theorem dX1_lookedAt_29 : decode cX1_lookedAt 29 = .ok (.getfield 27, 3) := by decide +kernel
theorem dX1_lookedAt_32 : decode cX1_lookedAt 32 = .ok (.iload_n 2, 1) := by decide +kernel
theorem dX1_lookedAt_33 : decode cX1_lookedAt 33 = .ok (.aaload, 1) := by decide +kernel
theorem dX1_lookedAt_34 : decode cX1_lookedAt 34 = .ok (.aload_n 1, 1) := by decide +kernel
theorem dX1_lookedAt_35 : decode cX1_lookedAt 35 = .ok (.iconst 3, 1) := by decide +kernel
theorem dX1_lookedAt_36 : decode cX1_lookedAt 36 = .ok (.iaload, 1) := by decide +kernel
theorem dX1_lookedAt_37 : decode cX1_lookedAt 37 = .ok (.iaload, 1) := by decide +kernel
theorem dX1_lookedAt_38 : decode cX1_lookedAt 38 = .ok (.ireturn, 1) := by decide +kernel
theorem dX1_lookedAt_39 : decode cX1_lookedAt 39 = .ok (.aload_n 0, 1) := by decide +kernel
theorem dX1_lookedAt_40 : decode cX1_lookedAt 40 = .ok (.getfield 27, 3) := by decide +kernel
theorem dX1_lookedAt_43 : decode cX1_lookedAt 43 = .ok (.iload_n 2, 1) := by decide +kernel
theorem dX1_lookedAt_44 : decode cX1_lookedAt 44 = .ok (.aaload, 1) := by decide +kernel
theorem dX1_lookedAt_45 : decode cX1_lookedAt 45 = .ok (.aload_n 1, 1) := by decide +kernel
theorem dX1_lookedAt_46 : decode cX1_lookedAt 46 = .ok (.iconst 1, 1) := by decide +kernel
theorem dX1_lookedAt_47 : decode cX1_lookedAt 47 = .ok (.iaload, 1) := by decide +kernel
theorem dX1_lookedAt_48 : decode cX1_lookedAt 48 = .ok (.iaload, 1) := by decide +kernel
theorem dX1_lookedAt_49 : decode cX1_lookedAt 49 = .ok (.ireturn, 1) := by decide +kernel
theorem dX1_lookedAt_50 : decode cX1_lookedAt 50 = .ok (.iconst 0, 1) := by decide +kernel
theorem dX1_lookedAt_51 : decode cX1_lookedAt 51 = .ok (.ireturn, 1) := by decide +kernel
theorem dX1_leaveByNext_0 : decode cX1_leaveByNext 0 = .ok (.aload_n 1, 1) := by decide +kernel
theorem dX1_leaveByNext_1 : decode cX1_leaveByNext 1 = .ok (.getfield 64, 3) := by decide +kernel
theorem dX1_leaveByNext_4 : decode cX1_leaveByNext 4 = .ok (.iload_n 2, 1) := by decide +kernel
theorem dX1_leaveByNext_5 : decode cX1_leaveByNext 5 = .ok (.aaload, 1) := by decide +kernel
theorem dX1_leaveByNext_6 : decode cX1_leaveByNext 6 = .ok (.astore_n 3, 1) := by decide +kernel
theorem dX1_leaveByNext_7 : decode cX1_leaveByNext 7 = .ok (.aload_n 0, 1) := by decide +kernel
theorem dX1_leaveByNext_8 : decode cX1_leaveByNext 8 = .ok (.getfield 27, 3) := by decide +kernel
theorem dX1_leaveByNext_11 : decode cX1_leaveByNext 11 = .ok (.iload_n 2, 1) := by decide +kernel
theorem dX1_leaveByNext_12 : decode cX1_leaveByNext 12 = .ok (.aaload, 1) := by decide +kernel
theorem dX1_leaveByNext_13 : decode cX1_leaveByNext 13 = .ok (.astore 4, 2) := by decide +kernel
theorem dX1_leaveByNext_15 : decode cX1_leaveByNext 15 = .ok (.aload 4, 2) := by decide +kernel
theorem dX1_leaveByNext_17 : decode cX1_leaveByNext 17 = .ok (.iconst 0, 1) := by decide +kernel
theorem dX1_leaveByNext_18 : decode cX1_leaveByNext 18 = .ok (.aload_n 0, 1) := by decide +kernel
theorem dX1_leaveByNext_19 : decode cX1_leaveByNext 19 = .ok (.getfield 36, 3) := by decide +kernel
theorem dX1_leaveByNext_22 : decode cX1_leaveByNext 22 = .ok (.iconst 0, 1) := by decide +kernel
theorem dX1_leaveByNext_23 : decode cX1_leaveByNext 23 = .ok (.iconst 5, 1) := by decide +kernel
theorem dX1_leaveByNext_24 : decode cX1_leaveByNext 24 = .ok (.invokestatic 89, 3) := by decide +kernel
theorem dX1_leaveByNext_27 : decode cX1_leaveByNext 27 = .ok (.aload_n 3, 1) := by decide +kernel
theorem dX1_leaveByNext_28 : decode cX1_leaveByNext 28 = .ok (.iconst 0, 1) := by decide +kernel
theorem dX1_leaveByNext_29 : decode cX1_leaveByNext 29 = .ok (.iaload, 1) := by decide +kernel
theorem dX1_leaveByNext_30 : decode cX1_leaveByNext 30 = .ok (.tableswitch 90 0 6 #[42, 59, 59, 90, 90, 90, 42], 42) := by decide +kernel
theorem dX1_leaveByNext_72 : decode cX1_leaveByNext 72 = .ok (.aload_n 0, 1) := by decide +kernel
theorem dX1_leaveByNext_73 : decode cX1_leaveByNext 73 = .ok (.getfield 36, 3) := by decide +kernel
theorem dX1_leaveByNext_76 : decode cX1_leaveByNext 76 = .ok (.aload_n 3, 1) := by decide +kernel
theorem dX1_leaveByNext_77 : decode cX1_leaveByNext 77 = .ok (.iconst 1, 1) := by decide +kernel
theorem dX1_leaveByNext_78 : decode cX1_leaveByNext 78 = .ok (.iaload, 1) := by decide +kernel
theorem dX1_leaveByNext_79 : decode cX1_leaveByNext 79 = .ok (.aload_n 0, 1) := by decide +kernel
theorem dX1_leaveByNext_80 : decode cX1_leaveByNext 80 = .ok (.getfield 22, 3) := by decide +kernel
theorem dX1_leaveByNext_83 : decode cX1_leaveByNext 83 = .ok (.iload_n 2, 1) := by decide +kernel
theorem dX1_leaveByNext_84 : decode cX1_leaveByNext 84 = .ok (.iaload, 1) := by decide +kernel
theorem dX1_leaveByNext_85 : decode cX1_leaveByNext 85 = .ok (.iastore, 1) := by decide +kernel
theorem dX1_leaveByNext_86 : decode cX1_leaveByNext 86 = .ok (.goto 34, 3) := by decide +kernel
theorem dX1_leaveByNext_89 : decode cX1_leaveByNext 89 = .ok (.aload_n 0, 1) := by decide +kernel
theorem dX1_leaveByNext_90 : decode cX1_leaveByNext 90 = .ok (.getfield 36, 3) := by decide +kernel
theorem dX1_leaveByNext_93 : decode cX1_leaveByNext 93 = .ok (.aload_n 3, 1) := by decide +kernel
theorem dX1_leaveByNext_94 : decode cX1_leaveByNext 94 = .ok (.iconst 1, 1) := by decide +kernel
theorem dX1_leaveByNext_95 : decode cX1_leaveByNext 95 = .ok (.iaload, 1) := by decide +kernel
theorem dX1_leaveByNext_96 : decode cX1_leaveByNext 96 = .ok (.aload 4, 2) := by decide +kernel
theorem dX1_leaveByNext_98 : decode cX1_leaveByNext 98 = .ok (.aload_n 3, 1) := by decide +kernel
theorem dX1_leaveByNext_99 : decode cX1_leaveByNext 99 = .ok (.iconst 2, 1) := by decide +kernel
theorem dX1_leaveByNext_100 : decode cX1_leaveByNext 100 = .ok (.iaload, 1) := by decide +kernel
theorem dX1_leaveByNext_101 : decode cX1_leaveByNext 101 = .ok (.iaload, 1) := by decide +kernel
theorem dX1_leaveByNext_102 : decode cX1_leaveByNext 102 = .ok (.aload 4, 2) := by decide +kernel
theorem dX1_leaveByNext_104 : decode cX1_leaveByNext 104 = .ok (.aload_n 3, 1) := by decide +kernel
theorem dX1_leaveByNext_105 : decode cX1_leaveByNext 105 = .ok (.iconst 3, 1) := by decide +kernel
theorem dX1_leaveByNext_106 : decode cX1_leaveByNext 106 = .ok (.iaload, 1) := by decide +kernel
theorem dX1_leaveByNext_107 : decode cX1_leaveByNext 107 = .ok (.iaload, 1) := by decide +kernel
theorem dX1_leaveByNext_108 : decode cX1_leaveByNext 108 = .ok (.ior, 1) := by decide +kernel
theorem dX1_leaveByNext_109 : decode cX1_leaveByNext 109 = .ok (.aload_n 0, 1) := by decide +kernel
theorem dX1_leaveByNext_110 : decode cX1_leaveByNext 110 = .ok (.getfield 22, 3) := by decide +kernel
theorem dX1_leaveByNext_113 : decode cX1_leaveByNext 113 = .ok (.iload_n 2, 1) := by decide +kernel
theorem dX1_leaveByNext_114 : decode cX1_leaveByNext 114 = .ok (.iaload, 1) := by decide +kernel
theorem dX1_leaveByNext_115 : decode cX1_leaveByNext 115 = .ok (.ior, 1) := by decide +kernel
theorem dX1_leaveByNext_116 : decode cX1_leaveByNext 116 = .ok (.iastore, 1) := by decide +kernel
theorem dX1_leaveByNext_117 : decode cX1_leaveByNext 117 = .ok (.goto 3, 3) := by decide +kernel
theorem dX1_leaveByNext_120 : decode cX1_leaveByNext 120 = .ok (.aload_n 0, 1) := by decide +kernel
theorem dX1_leaveByNext_121 : decode cX1_leaveByNext 121 = .ok (.iload_n 2, 1) := by decide +kernel
theorem dX1_leaveByNext_122 : decode cX1_leaveByNext 122 = .ok (.iconst 1, 1) := by decide +kernel
theorem dX1_leaveByNext_123 : decode cX1_leaveByNext 123 = .ok (.iadd, 1) := by decide +kernel
theorem dX1_leaveByNext_124 : decode cX1_leaveByNext 124 = .ok (.aload_n 1, 1) := by decide +kernel
theorem dX1_leaveByNext_125 : decode cX1_leaveByNext 125 = .ok (.getfield 47, 3) := by decide +kernel
theorem dX1_leaveByNext_128 : decode cX1_leaveByNext 128 = .ok (.invokevirtual 99, 3) := by decide +kernel
theorem dX1_leaveByNext_131 : decode cX1_leaveByNext 131 = .ok (.return_, 1) := by decide +kernel
theorem dX1_leaveByTarget_0 : decode cX1_leaveByTarget 0 = .ok (.aload_n 1, 1) := by decide +kernel
theorem dX1_leaveByTarget_1 : decode cX1_leaveByTarget 1 = .ok (.getfield 64, 3) := by decide +kernel
theorem dX1_leaveByTarget_4 : decode cX1_leaveByTarget 4 = .ok (.iload_n 2, 1) := by decide +kernel
theorem dX1_leaveByTarget_5 : decode cX1_leaveByTarget 5 = .ok (.aaload, 1) := by decide +kernel
theorem dX1_leaveByTarget_6 : decode cX1_leaveByTarget 6 = .ok (.astore_n 3, 1) := by decide +kernel
theorem dX1_leaveByTarget_7 : decode cX1_leaveByTarget 7 = .ok (.aload_n 0, 1) := by decide +kernel
theorem dX1_leaveByTarget_8 : decode cX1_leaveByTarget 8 = .ok (.getfield 27, 3) := by decide +kernel
theorem dX1_leaveByTarget_11 : decode cX1_leaveByTarget 11 = .ok (.iload_n 2, 1) := by decide +kernel
theorem dX1_leaveByTarget_12 : decode cX1_leaveByTarget 12 = .ok (.aaload, 1) := by decide +kernel
theorem dX1_leaveByTarget_13 : decode cX1_leaveByTarget 13 = .ok (.iconst 0, 1) := by decide +kernel
theorem dX1_leaveByTarget_14 : decode cX1_leaveByTarget 14 = .ok (.aload_n 0, 1) := by decide +kernel
theorem dX1_leaveByTarget_15 : decode cX1_leaveByTarget 15 = .ok (.getfield 36, 3) := by decide +kernel
theorem dX1_leaveByTarget_18 : decode cX1_leaveByTarget 18 = .ok (.iconst 0, 1) := by decide +kernel
theorem dX1_leaveByTarget_19 : decode cX1_leaveByTarget 19 = .ok (.iconst 5, 1) := by decide +kernel
theorem dX1_leaveByTarget_20 : decode cX1_leaveByTarget 20 = .ok (.invokestatic 89, 3) := by decide +kernel
theorem dX1_leaveByTarget_23 : decode cX1_leaveByTarget 23 = .ok (.aload_n 3, 1) := by decide +kernel
theorem dX1_leaveByTarget_24 : decode cX1_leaveByTarget 24 = .ok (.iconst 0, 1) := by decide +kernel
theorem dX1_leaveByTarget_25 : decode cX1_leaveByTarget 25 = .ok (.iaload, 1) := by decide +kernel
theorem dX1_leaveByTarget_26 : decode cX1_leaveByTarget 26 = .ok (.iconst 3, 1) := by decide +kernel
theorem dX1_leaveByTarget_27 : decode cX1_leaveByTarget 27 = .ok (.if_icmp .eq 22, 3) := by decide +kernel
theorem dX1_leaveByTarget_30 : decode cX1_leaveByTarget 30 = .ok (.aload_n 0, 1) := by decide +kernel
theorem dX1_leaveByTarget_31 : decode cX1_leaveByTarget 31 = .ok (.getfield 36, 3) := by decide +kernel
theorem dX1_leaveByTarget_34 : decode cX1_leaveByTarget 34 = .ok (.iconst 4, 1) := by decide +kernel
theorem dX1_leaveByTarget_35 : decode cX1_leaveByTarget 35 = .ok (.aload_n 0, 1) := by decide +kernel
theorem dX1_leaveByTarget_36 : decode cX1_leaveByTarget 36 = .ok (.aload_n 3, 1) := by decide +kernel
theorem dX1_leaveByTarget_37 : decode cX1_leaveByTarget 37 = .ok (.iload_n 2, 1) := by decide +kernel
theorem dX1_leaveByTarget_38 : decode cX1_leaveByTarget 38 = .ok (.invokevirtual 95, 3) := by decide +kernel
theorem dX1_leaveByTarget_41 : decode cX1_leaveByTarget 41 = .ok (.aload_n 0, 1) := by decide +kernel
theorem dX1_leaveByTarget_42 : decode cX1_leaveByTarget 42 = .ok (.getfield 22, 3) := by decide +kernel
theorem dX1_leaveByTarget_45 : decode cX1_leaveByTarget 45 = .ok (.iload_n 2, 1) := by decide +kernel
theorem dX1_leaveByTarget_46 : decode cX1_leaveByTarget 46 = .ok (.iaload, 1) := by decide +kernel
theorem dX1_leaveByTarget_47 : decode cX1_leaveByTarget 47 = .ok (.ior, 1) := by decide +kernel
theorem dX1_leaveByTarget_48 : decode cX1_leaveByTarget 48 = .ok (.iastore, 1) := by decide +kernel
theorem dX1_leaveByTarget_49 : decode cX1_leaveByTarget 49 = .ok (.aload_n 0, 1) := by decide +kernel
theorem dX1_leaveByTarget_50 : decode cX1_leaveByTarget 50 = .ok (.aload_n 1, 1) := by decide +kernel
theorem dX1_leaveByTarget_51 : decode cX1_leaveByTarget 51 = .ok (.iload_n 2, 1) := by decide +kernel
theorem dX1_leaveByTarget_52 : decode cX1_leaveByTarget 52 = .ok (.invokevirtual 74, 3) := by decide +kernel
theorem dX1_leaveByTarget_55 : decode cX1_leaveByTarget 55 = .ok (.aload_n 1, 1) := by decide +kernel
theorem dX1_leaveByTarget_56 : decode cX1_leaveByTarget 56 = .ok (.getfield 47, 3) := by decide +kernel
theorem dX1_leaveByTarget_59 : decode cX1_leaveByTarget 59 = .ok (.invokevirtual 99, 3) := by decide +kernel
theorem dX1_leaveByTarget_62 : decode cX1_leaveByTarget 62 = .ok (.return_, 1) := by decide +kernel
theorem dX1_comeTo_0 : decode cX1_comeTo 0 = .ok (.iload_n 1, 1) := by decide +kernel
theorem dX1_comeTo_1 : decode cX1_comeTo 1 = .ok (.iload_n 2, 1) := by decide +kernel
theorem dX1_comeTo_2 : decode cX1_comeTo 2 = .ok (.if_icmp .lt 4, 3) := by decide +kernel
theorem dX1_comeTo_5 : decode cX1_comeTo 5 = .ok (.return_, 1) := by decide +kernel
theorem dX1_comeTo_6 : decode cX1_comeTo 6 = .ok (.aload_n 0, 1) := by decide +kernel
theorem dX1_comeTo_7 : decode cX1_comeTo 7 = .ok (.dup, 1) := by decide +kernel
theorem dX1_comeTo_8 : decode cX1_comeTo 8 = .ok (.getfield 9, 3) := by decide +kernel
theorem dX1_comeTo_11 : decode cX1_comeTo 11 = .ok (.iconst 1, 1) := by decide +kernel
theorem dX1_comeTo_12 : decode cX1_comeTo 12 = .ok (.iload_n 1, 1) := by decide +kernel
theorem dX1_comeTo_13 : decode cX1_comeTo 13 = .ok (.ishl, 1) := by decide +kernel
theorem dX1_comeTo_14 : decode cX1_comeTo 14 = .ok (.ior, 1) := by decide +kernel
theorem dX1_comeTo_15 : decode cX1_comeTo 15 = .ok (.putfield 9, 3) := by decide +kernel
theorem dX1_comeTo_18 : decode cX1_comeTo 18 = .ok (.iconst 0, 1) := by decide +kernel
theorem dX1_comeTo_19 : decode cX1_comeTo 19 = .ok (.istore_n 3, 1) := by decide +kernel
theorem dX1_comeTo_20 : decode cX1_comeTo 20 = .ok (.iload_n 3, 1) := by decide +kernel
theorem dX1_comeTo_21 : decode cX1_comeTo 21 = .ok (.iconst 5, 1) := by decide +kernel
theorem dX1_comeTo_22 : decode cX1_comeTo 22 = .ok (.if_icmp .ge 26, 3) := by decide +kernel
theorem dX1_comeTo_25 : decode cX1_comeTo 25 = .ok (.aload_n 0, 1) := by decide +kernel
theorem dX1_comeTo_26 : decode cX1_comeTo 26 = .ok (.getfield 27, 3) := by decide +kernel
theorem dX1_comeTo_29 : decode cX1_comeTo 29 = .ok (.iload_n 1, 1) := by decide +kernel
theorem dX1_comeTo_30 : decode cX1_comeTo 30 = .ok (.aaload, 1) := by decide +kernel
theorem dX1_comeTo_31 : decode cX1_comeTo 31 = .ok (.iload_n 3, 1) := by decide +kernel
theorem dX1_comeTo_32 : decode cX1_comeTo 32 = .ok (.dup2, 1) := by decide +kernel
theorem dX1_comeTo_33 : decode cX1_comeTo 33 = .ok (.iaload, 1) := by decide +kernel
theorem dX1_comeTo_34 : decode cX1_comeTo 34 = .ok (.aload_n 0, 1) := by decide +kernel
theorem dX1_comeTo_35 : decode cX1_comeTo 35 = .ok (.getfield 36, 3) := by decide +kernel
theorem dX1_comeTo_38 : decode cX1_comeTo 38 = .ok (.iload_n 3, 1) := by decide +kernel
theorem dX1_comeTo_39 : decode cX1_comeTo 39 = .ok (.iaload, 1) := by decide +kernel
theorem dX1_comeTo_40 : decode cX1_comeTo 40 = .ok (.ior, 1) := by decide +kernel
theorem dX1_comeTo_41 : decode cX1_comeTo 41 = .ok (.iastore, 1) := by decide +kernel
theorem dX1_comeTo_42 : decode cX1_comeTo 42 = .ok (.iinc 3 1, 3) := by decide +kernel
theorem dX1_comeTo_45 : decode cX1_comeTo 45 = .ok (.goto (-25), 3) := by decide +kernel
theorem dX1_comeTo_48 : decode cX1_comeTo 48 = .ok (.return_, 1) := by decide +kernel
theorem dX1_isSpokenWrong_0 : decode cX1_isSpokenWrong 0 = .ok (.aload_n 1, 1) := by decide +kernel
theorem dX1_isSpokenWrong_1 : decode cX1_isSpokenWrong 1 = .ok (.iconst 0, 1) := by decide +kernel
theorem dX1_isSpokenWrong_2 : decode cX1_isSpokenWrong 2 = .ok (.iaload, 1) := by decide +kernel
theorem dX1_isSpokenWrong_3 : decode cX1_isSpokenWrong 3 = .ok (.iconst 5, 1) := by decide +kernel
theorem dX1_isSpokenWrong_4 : decode cX1_isSpokenWrong 4 = .ok (.if_icmp .ne 27, 3) := by decide +kernel
theorem dX1_isSpokenWrong_7 : decode cX1_isSpokenWrong 7 = .ok (.aload_n 0, 1) := by decide +kernel
theorem dX1_isSpokenWrong_8 : decode cX1_isSpokenWrong 8 = .ok (.getfield 27, 3) := by decide +kernel
theorem dX1_isSpokenWrong_11 : decode cX1_isSpokenWrong 11 = .ok (.iload_n 2, 1) := by decide +kernel
theorem dX1_isSpokenWrong_12 : decode cX1_isSpokenWrong 12 = .ok (.aaload, 1) := by decide +kernel
theorem dX1_isSpokenWrong_13 : decode cX1_isSpokenWrong 13 = .ok (.aload_n 1, 1) := by decide +kernel
theorem dX1_isSpokenWrong_14 : decode cX1_isSpokenWrong 14 = .ok (.iconst 1, 1) := by decide +kernel
theorem dX1_isSpokenWrong_15 : decode cX1_isSpokenWrong 15 = .ok (.iaload, 1) := by decide +kernel
theorem dX1_isSpokenWrong_16 : decode cX1_isSpokenWrong 16 = .ok (.iaload, 1) := by decide +kernel
theorem dX1_isSpokenWrong_17 : decode cX1_isSpokenWrong 17 = .ok (.aload_n 0, 1) := by decide +kernel
theorem dX1_isSpokenWrong_18 : decode cX1_isSpokenWrong 18 = .ok (.getfield 22, 3) := by decide +kernel
theorem dX1_isSpokenWrong_21 : decode cX1_isSpokenWrong 21 = .ok (.iload_n 2, 1) := by decide +kernel
theorem dX1_isSpokenWrong_22 : decode cX1_isSpokenWrong 22 = .ok (.iaload, 1) := by decide +kernel
theorem dX1_isSpokenWrong_23 : decode cX1_isSpokenWrong 23 = .ok (.ior, 1) := by decide +kernel
theorem dX1_isSpokenWrong_24 : decode cX1_isSpokenWrong 24 = .ok (.ifCond .eq 7, 3) := by decide +kernel
theorem dX1_isSpokenWrong_27 : decode cX1_isSpokenWrong 27 = .ok (.iconst 1, 1) := by decide +kernel
theorem dX1_isSpokenWrong_28 : decode cX1_isSpokenWrong 28 = .ok (.goto 4, 3) := by decide +kernel
theorem dX1_isSpokenWrong_31 : decode cX1_isSpokenWrong 31 = .ok (.iconst 0, 1) := by decide +kernel
theorem dX1_isSpokenWrong_32 : decode cX1_isSpokenWrong 32 = .ok (.ireturn, 1) := by decide +kernel
