theorem dX2_init_0 : decode cX2_init 0 = .ok (.aload_n 0, 1) := by decide +kernel
theorem dX2_init_1 : decode cX2_init 1 = .ok (.invokespecial 3, 3) := by decide +kernel
theorem dX2_init_4 : decode cX2_init 4 = .ok (.aload_n 0, 1) := by decide +kernel
theorem dX2_init_5 : decode cX2_init 5 = .ok (.iconst 0, 1) := by decide +kernel
theorem dX2_init_6 : decode cX2_init 6 = .ok (.putfield 9, 3) := by decide +kernel
theorem dX2_init_9 : decode cX2_init 9 = .ok (.aload_n 0, 1) := by decide +kernel
theorem dX2_init_10 : decode cX2_init 10 = .ok (.bipush 6, 2) := by decide +kernel
theorem dX2_init_12 : decode cX2_init 12 = .ok (.iconst 4, 1) := by decide +kernel
theorem dX2_init_13 : decode cX2_init 13 = .ok (.multianewarray 15 2, 4) := by decide +kernel
theorem dX2_init_17 : decode cX2_init 17 = .ok (.putfield 17, 3) := by decide +kernel
theorem dX2_init_20 : decode cX2_init 20 = .ok (.return_, 1) := by decide +kernel
theorem dX2_add_0 : decode cX2_add 0 = .ok (.aload_n 0, 1) := by decide +kernel
theorem dX2_add_1 : decode cX2_add 1 = .ok (.getfield 9, 3) := by decide +kernel
theorem dX2_add_4 : decode cX2_add 4 = .ok (.bipush 6, 2) := by decide +kernel
theorem dX2_add_6 : decode cX2_add 6 = .ok (.if_icmp .lt 5, 3) := by decide +kernel
theorem dX2_add_9 : decode cX2_add 9 = .ok (.iconst 0, 1) := by decide +kernel
theorem dX2_add_10 : decode cX2_add 10 = .ok (.ireturn, 1) := by decide +kernel
theorem dX2_add_11 : decode cX2_add 11 = .ok (.aload_n 0, 1) := by decide +kernel
theorem dX2_add_12 : decode cX2_add 12 = .ok (.getfield 17, 3) := by decide +kernel
theorem dX2_add_15 : decode cX2_add 15 = .ok (.aload_n 0, 1) := by decide +kernel
theorem dX2_add_16 : decode cX2_add 16 = .ok (.getfield 9, 3) := by decide +kernel
theorem dX2_add_19 : decode cX2_add 19 = .ok (.aaload, 1) := by decide +kernel
theorem dX2_add_20 : decode cX2_add 20 = .ok (.iconst 0, 1) := by decide +kernel
theorem dX2_add_21 : decode cX2_add 21 = .ok (.iload_n 1, 1) := by decide +kernel
theorem dX2_add_22 : decode cX2_add 22 = .ok (.iastore, 1) := by decide +kernel
theorem dX2_add_23 : decode cX2_add 23 = .ok (.aload_n 0, 1) := by decide +kernel
theorem dX2_add_24 : decode cX2_add 24 = .ok (.getfield 17, 3) := by decide +kernel
theorem dX2_add_27 : decode cX2_add 27 = .ok (.aload_n 0, 1) := by decide +kernel
theorem dX2_add_28 : decode cX2_add 28 = .ok (.getfield 9, 3) := by decide +kernel
theorem dX2_add_31 : decode cX2_add 31 = .ok (.aaload, 1) := by decide +kernel
theorem dX2_add_32 : decode cX2_add 32 = .ok (.iconst 1, 1) := by decide +kernel
theorem dX2_add_33 : decode cX2_add 33 = .ok (.iload_n 2, 1) := by decide +kernel
theorem dX2_add_34 : decode cX2_add 34 = .ok (.iastore, 1) := by decide +kernel
theorem dX2_add_35 : decode cX2_add 35 = .ok (.aload_n 0, 1) := by decide +kernel
theorem dX2_add_36 : decode cX2_add 36 = .ok (.getfield 17, 3) := by decide +kernel
theorem dX2_add_39 : decode cX2_add 39 = .ok (.aload_n 0, 1) := by decide +kernel
theorem dX2_add_40 : decode cX2_add 40 = .ok (.getfield 9, 3) := by decide +kernel
theorem dX2_add_43 : decode cX2_add 43 = .ok (.aaload, 1) := by decide +kernel
theorem dX2_add_44 : decode cX2_add 44 = .ok (.iconst 2, 1) := by decide +kernel
theorem dX2_add_45 : decode cX2_add 45 = .ok (.iload_n 3, 1) := by decide +kernel
theorem dX2_add_46 : decode cX2_add 46 = .ok (.iastore, 1) := by decide +kernel
theorem dX2_add_47 : decode cX2_add 47 = .ok (.aload_n 0, 1) := by decide +kernel
theorem dX2_add_48 : decode cX2_add 48 = .ok (.getfield 17, 3) := by decide +kernel
theorem dX2_add_51 : decode cX2_add 51 = .ok (.aload_n 0, 1) := by decide +kernel
theorem dX2_add_52 : decode cX2_add 52 = .ok (.getfield 9, 3) := by decide +kernel
theorem dX2_add_55 : decode cX2_add 55 = .ok (.aaload, 1) := by decide +kernel
theorem dX2_add_56 : decode cX2_add 56 = .ok (.iconst 3, 1) := by decide +kernel
theorem dX2_add_57 : decode cX2_add 57 = .ok (.iload 4, 2) := by decide +kernel
theorem dX2_add_59 : decode cX2_add 59 = .ok (.iastore, 1) := by decide +kernel
theorem dX2_add_60 : decode cX2_add 60 = .ok (.aload_n 0, 1) := by decide +kernel
theorem dX2_add_61 : decode cX2_add 61 = .ok (.dup, 1) := by decide +kernel
theorem dX2_add_62 : decode cX2_add 62 = .ok (.getfield 9, 3) := by decide +kernel
theorem dX2_add_65 : decode cX2_add 65 = .ok (.iconst 1, 1) := by decide +kernel
theorem dX2_add_66 : decode cX2_add 66 = .ok (.iadd, 1) := by decide +kernel
theorem dX2_add_67 : decode cX2_add 67 = .ok (.putfield 9, 3) := by decide +kernel
theorem dX2_add_70 : decode cX2_add 70 = .ok (.iconst 1, 1) := by decide +kernel
theorem dX2_add_71 : decode cX2_add 71 = .ok (.ireturn, 1) := by decide +kernel
theorem dX2_isAllSo_0 : decode cX2_isAllSo 0 = .ok (.iconst 0, 1) := by decide +kernel
theorem dX2_isAllSo_1 : decode cX2_isAllSo 1 = .ok (.istore 5, 2) := by decide +kernel
theorem dX2_isAllSo_3 : decode cX2_isAllSo 3 = .ok (.iload 5, 2) := by decide +kernel
theorem dX2_isAllSo_5 : decode cX2_isAllSo 5 = .ok (.aload_n 0, 1) := by decide +kernel
theorem dX2_isAllSo_6 : decode cX2_isAllSo 6 = .ok (.getfield 9, 3) := by decide +kernel
theorem dX2_isAllSo_9 : decode cX2_isAllSo 9 = .ok (.if_icmp .ge 72, 3) := by decide +kernel
theorem dX2_isAllSo_12 : decode cX2_isAllSo 12 = .ok (.aload_n 0, 1) := by decide +kernel
theorem dX2_isAllSo_13 : decode cX2_isAllSo 13 = .ok (.getfield 17, 3) := by decide +kernel
theorem dX2_isAllSo_16 : decode cX2_isAllSo 16 = .ok (.iload 5, 2) := by decide +kernel
theorem dX2_isAllSo_18 : decode cX2_isAllSo 18 = .ok (.aaload, 1) := by decide +kernel
theorem dX2_isAllSo_19 : decode cX2_isAllSo 19 = .ok (.astore 6, 2) := by decide +kernel
theorem dX2_isAllSo_21 : decode cX2_isAllSo 21 = .ok (.aload_n 2, 1) := by decide +kernel
theorem dX2_isAllSo_22 : decode cX2_isAllSo 22 = .ok (.aload_n 1, 1) := by decide +kernel
theorem dX2_isAllSo_23 : decode cX2_isAllSo 23 = .ok (.aload 6, 2) := by decide +kernel
theorem dX2_isAllSo_25 : decode cX2_isAllSo 25 = .ok (.iconst 0, 1) := by decide +kernel
theorem dX2_isAllSo_26 : decode cX2_isAllSo 26 = .ok (.iaload, 1) := by decide +kernel
theorem dX2_isAllSo_27 : decode cX2_isAllSo 27 = .ok (.iload_n 3, 1) := by decide +kernel
theorem dX2_isAllSo_28 : decode cX2_isAllSo 28 = .ok (.iload 4, 2) := by decide +kernel
theorem dX2_isAllSo_30 : decode cX2_isAllSo 30 = .ok (.invokevirtual 20, 3) := by decide +kernel
theorem dX2_isAllSo_33 : decode cX2_isAllSo 33 = .ok (.aload_n 2, 1) := by decide +kernel
theorem dX2_isAllSo_34 : decode cX2_isAllSo 34 = .ok (.aload 6, 2) := by decide +kernel
theorem dX2_isAllSo_36 : decode cX2_isAllSo 36 = .ok (.iconst 1, 1) := by decide +kernel
theorem dX2_isAllSo_37 : decode cX2_isAllSo 37 = .ok (.iaload, 1) := by decide +kernel
theorem dX2_isAllSo_38 : decode cX2_isAllSo 38 = .ok (.invokevirtual 26, 3) := by decide +kernel
theorem dX2_isAllSo_41 : decode cX2_isAllSo 41 = .ok (.aload 6, 2) := by decide +kernel
theorem dX2_isAllSo_43 : decode cX2_isAllSo 43 = .ok (.iconst 2, 1) := by decide +kernel
theorem dX2_isAllSo_44 : decode cX2_isAllSo 44 = .ok (.iaload, 1) := by decide +kernel
theorem dX2_isAllSo_45 : decode cX2_isAllSo 45 = .ok (.if_icmp .ne 7, 3) := by decide +kernel
theorem dX2_isAllSo_48 : decode cX2_isAllSo 48 = .ok (.iconst 1, 1) := by decide +kernel
theorem dX2_isAllSo_49 : decode cX2_isAllSo 49 = .ok (.goto 4, 3) := by decide +kernel
theorem dX2_isAllSo_52 : decode cX2_isAllSo 52 = .ok (.iconst 0, 1) := by decide +kernel
theorem dX2_isAllSo_53 : decode cX2_isAllSo 53 = .ok (.istore 7, 2) := by decide +kernel
theorem dX2_isAllSo_55 : decode cX2_isAllSo 55 = .ok (.iload 7, 2) := by decide +kernel
theorem dX2_isAllSo_57 : decode cX2_isAllSo 57 = .ok (.aload 6, 2) := by decide +kernel
theorem dX2_isAllSo_59 : decode cX2_isAllSo 59 = .ok (.iconst 3, 1) := by decide +kernel
theorem dX2_isAllSo_60 : decode cX2_isAllSo 60 = .ok (.iaload, 1) := by decide +kernel
theorem dX2_isAllSo_61 : decode cX2_isAllSo 61 = .ok (.iconst 1, 1) := by decide +kernel
theorem dX2_isAllSo_62 : decode cX2_isAllSo 62 = .ok (.if_icmp .ne 7, 3) := by decide +kernel
theorem dX2_isAllSo_65 : decode cX2_isAllSo 65 = .ok (.iconst 1, 1) := by decide +kernel
theorem dX2_isAllSo_66 : decode cX2_isAllSo 66 = .ok (.goto 4, 3) := by decide +kernel
theorem dX2_isAllSo_69 : decode cX2_isAllSo 69 = .ok (.iconst 0, 1) := by decide +kernel
theorem dX2_isAllSo_70 : decode cX2_isAllSo 70 = .ok (.if_icmp .eq 5, 3) := by decide +kernel
theorem dX2_isAllSo_73 : decode cX2_isAllSo 73 = .ok (.iconst 0, 1) := by decide +kernel
theorem dX2_isAllSo_74 : decode cX2_isAllSo 74 = .ok (.ireturn, 1) := by decide +kernel
theorem dX2_isAllSo_75 : decode cX2_isAllSo 75 = .ok (.iinc 5 1, 3) := by decide +kernel
theorem dX2_isAllSo_78 : decode cX2_isAllSo 78 = .ok (.goto (-75), 3) := by decide +kernel
theorem dX2_isAllSo_81 : decode cX2_isAllSo 81 = .ok (.iconst 1, 1) := by decide +kernel
theorem dX2_isAllSo_82 : decode cX2_isAllSo 82 = .ok (.ireturn, 1) := by decide +kernel
