theorem dX5_init_0 : decode cX5_init 0 = .ok (.aload_n 0, 1) := by decide +kernel
theorem dX5_init_1 : decode cX5_init 1 = .ok (.invokespecial 3, 3) := by decide +kernel
theorem dX5_init_4 : decode cX5_init 4 = .ok (.aload_n 0, 1) := by decide +kernel
theorem dX5_init_5 : decode cX5_init 5 = .ok (.new 9, 3) := by decide +kernel
theorem dX5_init_8 : decode cX5_init 8 = .ok (.dup, 1) := by decide +kernel
theorem dX5_init_9 : decode cX5_init 9 = .ok (.invokespecial 11, 3) := by decide +kernel
theorem dX5_init_12 : decode cX5_init 12 = .ok (.putfield 12, 3) := by decide +kernel
theorem dX5_init_15 : decode cX5_init 15 = .ok (.aload_n 0, 1) := by decide +kernel
theorem dX5_init_16 : decode cX5_init 16 = .ok (.sipush 900, 3) := by decide +kernel
theorem dX5_init_19 : decode cX5_init 19 = .ok (.newarray .int, 2) := by decide +kernel
theorem dX5_init_21 : decode cX5_init 21 = .ok (.putfield 18, 3) := by decide +kernel
theorem dX5_init_24 : decode cX5_init 24 = .ok (.aload_n 0, 1) := by decide +kernel
theorem dX5_init_25 : decode cX5_init 25 = .ok (.sipush 257, 3) := by decide +kernel
theorem dX5_init_28 : decode cX5_init 28 = .ok (.newarray .int, 2) := by decide +kernel
theorem dX5_init_30 : decode cX5_init 30 = .ok (.putfield 22, 3) := by decide +kernel
theorem dX5_init_33 : decode cX5_init 33 = .ok (.return_, 1) := by decide +kernel
theorem dX5_listen_0 : decode cX5_listen 0 = .ok (.aload_n 0, 1) := by decide +kernel
theorem dX5_listen_1 : decode cX5_listen 1 = .ok (.getfield 18, 3) := by decide +kernel
theorem dX5_listen_4 : decode cX5_listen 4 = .ok (.iconst (-1), 1) := by decide +kernel
theorem dX5_listen_5 : decode cX5_listen 5 = .ok (.invokestatic 25, 3) := by decide +kernel
theorem dX5_listen_8 : decode cX5_listen 8 = .ok (.iconst 0, 1) := by decide +kernel
theorem dX5_listen_9 : decode cX5_listen 9 = .ok (.istore_n 3, 1) := by decide +kernel
theorem dX5_listen_10 : decode cX5_listen 10 = .ok (.iload_n 3, 1) := by decide +kernel
theorem dX5_listen_11 : decode cX5_listen 11 = .ok (.bipush 100, 2) := by decide +kernel
theorem dX5_listen_13 : decode cX5_listen 13 = .ok (.if_icmp .ge 77, 3) := by decide +kernel
theorem dX5_listen_16 : decode cX5_listen 16 = .ok (.aload_n 0, 1) := by decide +kernel
theorem dX5_listen_17 : decode cX5_listen 17 = .ok (.getfield 12, 3) := by decide +kernel
theorem dX5_listen_20 : decode cX5_listen 20 = .ok (.aload_n 1, 1) := by decide +kernel
theorem dX5_listen_21 : decode cX5_listen 21 = .ok (.iload_n 2, 1) := by decide +kernel
theorem dX5_listen_22 : decode cX5_listen 22 = .ok (.iload_n 3, 1) := by decide +kernel
theorem dX5_listen_23 : decode cX5_listen 23 = .ok (.bipush 10, 2) := by decide +kernel
theorem dX5_listen_25 : decode cX5_listen 25 = .ok (.idiv, 1) := by decide +kernel
theorem dX5_listen_26 : decode cX5_listen 26 = .ok (.iload_n 3, 1) := by decide +kernel
theorem dX5_listen_27 : decode cX5_listen 27 = .ok (.bipush 10, 2) := by decide +kernel
theorem dX5_listen_29 : decode cX5_listen 29 = .ok (.irem, 1) := by decide +kernel
theorem dX5_listen_30 : decode cX5_listen 30 = .ok (.invokevirtual 31, 3) := by decide +kernel
theorem dX5_listen_33 : decode cX5_listen 33 = .ok (.iconst 0, 1) := by decide +kernel
theorem dX5_listen_34 : decode cX5_listen 34 = .ok (.istore 4, 2) := by decide +kernel
theorem dX5_listen_36 : decode cX5_listen 36 = .ok (.iload 4, 2) := by decide +kernel
theorem dX5_listen_38 : decode cX5_listen 38 = .ok (.aload_n 0, 1) := by decide +kernel
theorem dX5_listen_39 : decode cX5_listen 39 = .ok (.getfield 12, 3) := by decide +kernel
theorem dX5_listen_42 : decode cX5_listen 42 = .ok (.getfield 35, 3) := by decide +kernel
theorem dX5_listen_45 : decode cX5_listen 45 = .ok (.if_icmp .ge 39, 3) := by decide +kernel
theorem dX5_listen_48 : decode cX5_listen 48 = .ok (.aload_n 0, 1) := by decide +kernel
theorem dX5_listen_49 : decode cX5_listen 49 = .ok (.getfield 18, 3) := by decide +kernel
theorem dX5_listen_52 : decode cX5_listen 52 = .ok (.iload_n 3, 1) := by decide +kernel
theorem dX5_listen_53 : decode cX5_listen 53 = .ok (.bipush 9, 2) := by decide +kernel
theorem dX5_listen_55 : decode cX5_listen 55 = .ok (.imul, 1) := by decide +kernel
theorem dX5_listen_56 : decode cX5_listen 56 = .ok (.aload_n 0, 1) := by decide +kernel
theorem dX5_listen_57 : decode cX5_listen 57 = .ok (.getfield 12, 3) := by decide +kernel
theorem dX5_listen_60 : decode cX5_listen 60 = .ok (.getfield 39, 3) := by decide +kernel
theorem dX5_listen_63 : decode cX5_listen 63 = .ok (.iload 4, 2) := by decide +kernel
theorem dX5_listen_65 : decode cX5_listen 65 = .ok (.iaload, 1) := by decide +kernel
theorem dX5_listen_66 : decode cX5_listen 66 = .ok (.iadd, 1) := by decide +kernel
theorem dX5_listen_67 : decode cX5_listen 67 = .ok (.aload_n 0, 1) := by decide +kernel
theorem dX5_listen_68 : decode cX5_listen 68 = .ok (.getfield 12, 3) := by decide +kernel
theorem dX5_listen_71 : decode cX5_listen 71 = .ok (.getfield 42, 3) := by decide +kernel
theorem dX5_listen_74 : decode cX5_listen 74 = .ok (.iload 4, 2) := by decide +kernel
theorem dX5_listen_76 : decode cX5_listen 76 = .ok (.iaload, 1) := by decide +kernel
theorem dX5_listen_77 : decode cX5_listen 77 = .ok (.iastore, 1) := by decide +kernel
theorem dX5_listen_78 : decode cX5_listen 78 = .ok (.iinc 4 1, 3) := by decide +kernel
theorem dX5_listen_81 : decode cX5_listen 81 = .ok (.goto (-45), 3) := by decide +kernel
theorem dX5_listen_84 : decode cX5_listen 84 = .ok (.iinc 3 1, 3) := by decide +kernel
theorem dX5_listen_87 : decode cX5_listen 87 = .ok (.goto (-77), 3) := by decide +kernel
theorem dX5_listen_90 : decode cX5_listen 90 = .ok (.return_, 1) := by decide +kernel
theorem dX5_rowOf_0 : decode cX5_rowOf 0 = .ok (.iconst 1, 1) := by decide +kernel
theorem dX5_rowOf_1 : decode cX5_rowOf 1 = .ok (.istore_n 3, 1) := by decide +kernel
theorem dX5_rowOf_2 : decode cX5_rowOf 2 = .ok (.iconst 0, 1) := by decide +kernel
theorem dX5_rowOf_3 : decode cX5_rowOf 3 = .ok (.istore 4, 2) := by decide +kernel
theorem dX5_rowOf_5 : decode cX5_rowOf 5 = .ok (.iload 4, 2) := by decide +kernel
theorem dX5_rowOf_7 : decode cX5_rowOf 7 = .ok (.bipush 9, 2) := by decide +kernel
theorem dX5_rowOf_9 : decode cX5_rowOf 9 = .ok (.if_icmp .ge 47, 3) := by decide +kernel
theorem dX5_rowOf_12 : decode cX5_rowOf 12 = .ok (.aload_n 0, 1) := by decide +kernel
theorem dX5_rowOf_13 : decode cX5_rowOf 13 = .ok (.getfield 18, 3) := by decide +kernel
theorem dX5_rowOf_16 : decode cX5_rowOf 16 = .ok (.iload_n 1, 1) := by decide +kernel
theorem dX5_rowOf_17 : decode cX5_rowOf 17 = .ok (.bipush 9, 2) := by decide +kernel
theorem dX5_rowOf_19 : decode cX5_rowOf 19 = .ok (.imul, 1) := by decide +kernel
theorem dX5_rowOf_20 : decode cX5_rowOf 20 = .ok (.iload 4, 2) := by decide +kernel
theorem dX5_rowOf_22 : decode cX5_rowOf 22 = .ok (.iadd, 1) := by decide +kernel
theorem dX5_rowOf_23 : decode cX5_rowOf 23 = .ok (.iaload, 1) := by decide +kernel
theorem dX5_rowOf_24 : decode cX5_rowOf 24 = .ok (.istore 5, 2) := by decide +kernel
theorem dX5_rowOf_26 : decode cX5_rowOf 26 = .ok (.iload 5, 2) := by decide +kernel
theorem dX5_rowOf_28 : decode cX5_rowOf 28 = .ok (.iconst (-1), 1) := by decide +kernel
theorem dX5_rowOf_29 : decode cX5_rowOf 29 = .ok (.if_icmp .eq 21, 3) := by decide +kernel
theorem dX5_rowOf_32 : decode cX5_rowOf 32 = .ok (.iload_n 2, 1) := by decide +kernel
theorem dX5_rowOf_33 : decode cX5_rowOf 33 = .ok (.iload 4, 2) := by decide +kernel
theorem dX5_rowOf_35 : decode cX5_rowOf 35 = .ok (.ishr, 1) := by decide +kernel
theorem dX5_rowOf_36 : decode cX5_rowOf 36 = .ok (.iconst 1, 1) := by decide +kernel
theorem dX5_rowOf_37 : decode cX5_rowOf 37 = .ok (.iand, 1) := by decide +kernel
theorem dX5_rowOf_38 : decode cX5_rowOf 38 = .ok (.iconst 1, 1) := by decide +kernel
theorem dX5_rowOf_39 : decode cX5_rowOf 39 = .ok (.if_icmp .ne 11, 3) := by decide +kernel
theorem dX5_rowOf_42 : decode cX5_rowOf 42 = .ok (.iload_n 3, 1) := by decide +kernel
theorem dX5_rowOf_43 : decode cX5_rowOf 43 = .ok (.bipush 10, 2) := by decide +kernel
theorem dX5_rowOf_45 : decode cX5_rowOf 45 = .ok (.imul, 1) := by decide +kernel
theorem dX5_rowOf_46 : decode cX5_rowOf 46 = .ok (.iload 5, 2) := by decide +kernel
theorem dX5_rowOf_48 : decode cX5_rowOf 48 = .ok (.iadd, 1) := by decide +kernel
theorem dX5_rowOf_49 : decode cX5_rowOf 49 = .ok (.istore_n 3, 1) := by decide +kernel
theorem dX5_rowOf_50 : decode cX5_rowOf 50 = .ok (.iinc 4 1, 3) := by decide +kernel
theorem dX5_rowOf_53 : decode cX5_rowOf 53 = .ok (.goto (-48), 3) := by decide +kernel
theorem dX5_rowOf_56 : decode cX5_rowOf 56 = .ok (.iload_n 3, 1) := by decide +kernel
theorem dX5_rowOf_57 : decode cX5_rowOf 57 = .ok (.ireturn, 1) := by decide +kernel
theorem dX5_unlikeRows_0 : decode cX5_unlikeRows 0 = .ok (.aload_n 0, 1) := by decide +kernel
theorem dX5_unlikeRows_1 : decode cX5_unlikeRows 1 = .ok (.getfield 22, 3) := by decide +kernel
theorem dX5_unlikeRows_4 : decode cX5_unlikeRows 4 = .ok (.iconst 0, 1) := by decide +kernel
theorem dX5_unlikeRows_5 : decode cX5_unlikeRows 5 = .ok (.invokestatic 25, 3) := by decide +kernel
theorem dX5_unlikeRows_8 : decode cX5_unlikeRows 8 = .ok (.iconst 0, 1) := by decide +kernel
theorem dX5_unlikeRows_9 : decode cX5_unlikeRows 9 = .ok (.istore_n 2, 1) := by decide +kernel
theorem dX5_unlikeRows_10 : decode cX5_unlikeRows 10 = .ok (.iconst 0, 1) := by decide +kernel
theorem dX5_unlikeRows_11 : decode cX5_unlikeRows 11 = .ok (.istore_n 3, 1) := by decide +kernel
theorem dX5_unlikeRows_12 : decode cX5_unlikeRows 12 = .ok (.iload_n 3, 1) := by decide +kernel
theorem dX5_unlikeRows_13 : decode cX5_unlikeRows 13 = .ok (.bipush 100, 2) := by decide +kernel
theorem dX5_unlikeRows_15 : decode cX5_unlikeRows 15 = .ok (.if_icmp .ge 47, 3) := by decide +kernel
theorem dX5_unlikeRows_18 : decode cX5_unlikeRows 18 = .ok (.aload_n 0, 1) := by decide +kernel
theorem dX5_unlikeRows_19 : decode cX5_unlikeRows 19 = .ok (.iload_n 3, 1) := by decide +kernel
theorem dX5_unlikeRows_20 : decode cX5_unlikeRows 20 = .ok (.iload_n 1, 1) := by decide +kernel
theorem dX5_unlikeRows_21 : decode cX5_unlikeRows 21 = .ok (.invokevirtual 45, 3) := by decide +kernel
theorem dX5_unlikeRows_24 : decode cX5_unlikeRows 24 = .ok (.istore 4, 2) := by decide +kernel
theorem dX5_unlikeRows_26 : decode cX5_unlikeRows 26 = .ok (.aload_n 0, 1) := by decide +kernel
theorem dX5_unlikeRows_27 : decode cX5_unlikeRows 27 = .ok (.iload 4, 2) := by decide +kernel
theorem dX5_unlikeRows_29 : decode cX5_unlikeRows 29 = .ok (.invokevirtual 49, 3) := by decide +kernel
theorem dX5_unlikeRows_32 : decode cX5_unlikeRows 32 = .ok (.istore 5, 2) := by decide +kernel
theorem dX5_unlikeRows_34 : decode cX5_unlikeRows 34 = .ok (.aload_n 0, 1) := by decide +kernel
theorem dX5_unlikeRows_35 : decode cX5_unlikeRows 35 = .ok (.getfield 22, 3) := by decide +kernel
theorem dX5_unlikeRows_38 : decode cX5_unlikeRows 38 = .ok (.iload 5, 2) := by decide +kernel
theorem dX5_unlikeRows_40 : decode cX5_unlikeRows 40 = .ok (.iaload, 1) := by decide +kernel
theorem dX5_unlikeRows_41 : decode cX5_unlikeRows 41 = .ok (.ifCond .ne 15, 3) := by decide +kernel
theorem dX5_unlikeRows_44 : decode cX5_unlikeRows 44 = .ok (.aload_n 0, 1) := by decide +kernel
theorem dX5_unlikeRows_45 : decode cX5_unlikeRows 45 = .ok (.getfield 22, 3) := by decide +kernel
theorem dX5_unlikeRows_48 : decode cX5_unlikeRows 48 = .ok (.iload 5, 2) := by decide +kernel
theorem dX5_unlikeRows_50 : decode cX5_unlikeRows 50 = .ok (.iload 4, 2) := by decide +kernel
theorem dX5_unlikeRows_52 : decode cX5_unlikeRows 52 = .ok (.iastore, 1) := by decide +kernel
theorem dX5_unlikeRows_53 : decode cX5_unlikeRows 53 = .ok (.iinc 2 1, 3) := by decide +kernel
theorem dX5_unlikeRows_56 : decode cX5_unlikeRows 56 = .ok (.iinc 3 1, 3) := by decide +kernel
theorem dX5_unlikeRows_59 : decode cX5_unlikeRows 59 = .ok (.goto (-47), 3) := by decide +kernel
theorem dX5_unlikeRows_62 : decode cX5_unlikeRows 62 = .ok (.iload_n 2, 1) := by decide +kernel
theorem dX5_unlikeRows_63 : decode cX5_unlikeRows 63 = .ok (.ireturn, 1) := by decide +kernel
theorem dX5_placeOf_0 : decode cX5_placeOf 0 = .ok (.iload_n 1, 1) := by decide +kernel
theorem dX5_placeOf_1 : decode cX5_placeOf 1 = .ok (.sipush 257, 3) := by decide +kernel
theorem dX5_placeOf_4 : decode cX5_placeOf 4 = .ok (.irem, 1) := by decide +kernel
theorem dX5_placeOf_5 : decode cX5_placeOf 5 = .ok (.istore_n 2, 1) := by decide +kernel
theorem dX5_placeOf_6 : decode cX5_placeOf 6 = .ok (.iconst 0, 1) := by decide +kernel
theorem dX5_placeOf_7 : decode cX5_placeOf 7 = .ok (.istore_n 3, 1) := by decide +kernel
theorem dX5_placeOf_8 : decode cX5_placeOf 8 = .ok (.iload_n 3, 1) := by decide +kernel
theorem dX5_placeOf_9 : decode cX5_placeOf 9 = .ok (.sipush 257, 3) := by decide +kernel
theorem dX5_placeOf_12 : decode cX5_placeOf 12 = .ok (.if_icmp .ge 36, 3) := by decide +kernel
theorem dX5_placeOf_15 : decode cX5_placeOf 15 = .ok (.aload_n 0, 1) := by decide +kernel
theorem dX5_placeOf_16 : decode cX5_placeOf 16 = .ok (.getfield 22, 3) := by decide +kernel
theorem dX5_placeOf_19 : decode cX5_placeOf 19 = .ok (.iload_n 2, 1) := by decide +kernel
theorem dX5_placeOf_20 : decode cX5_placeOf 20 = .ok (.iaload, 1) := by decide +kernel
theorem dX5_placeOf_21 : decode cX5_placeOf 21 = .ok (.ifCond .eq 27, 3) := by decide +kernel
theorem dX5_placeOf_24 : decode cX5_placeOf 24 = .ok (.aload_n 0, 1) := by decide +kernel
theorem dX5_placeOf_25 : decode cX5_placeOf 25 = .ok (.getfield 22, 3) := by decide +kernel
theorem dX5_placeOf_28 : decode cX5_placeOf 28 = .ok (.iload_n 2, 1) := by decide +kernel
theorem dX5_placeOf_29 : decode cX5_placeOf 29 = .ok (.iaload, 1) := by decide +kernel
theorem dX5_placeOf_30 : decode cX5_placeOf 30 = .ok (.iload_n 1, 1) := by decide +kernel
theorem dX5_placeOf_31 : decode cX5_placeOf 31 = .ok (.if_icmp .eq 17, 3) := by decide +kernel
theorem dX5_placeOf_34 : decode cX5_placeOf 34 = .ok (.iload_n 2, 1) := by decide +kernel
theorem dX5_placeOf_35 : decode cX5_placeOf 35 = .ok (.iconst 1, 1) := by decide +kernel
theorem dX5_placeOf_36 : decode cX5_placeOf 36 = .ok (.iadd, 1) := by decide +kernel
theorem dX5_placeOf_37 : decode cX5_placeOf 37 = .ok (.sipush 257, 3) := by decide +kernel
theorem dX5_placeOf_40 : decode cX5_placeOf 40 = .ok (.irem, 1) := by decide +kernel
theorem dX5_placeOf_41 : decode cX5_placeOf 41 = .ok (.istore_n 2, 1) := by decide +kernel
theorem dX5_placeOf_42 : decode cX5_placeOf 42 = .ok (.iinc 3 1, 3) := by decide +kernel
theorem dX5_placeOf_45 : decode cX5_placeOf 45 = .ok (.goto (-37), 3) := by decide +kernel
theorem dX5_placeOf_48 : decode cX5_placeOf 48 = .ok (.iload_n 2, 1) := by decide +kernel
theorem dX5_placeOf_49 : decode cX5_placeOf 49 = .ok (.ireturn, 1) := by decide +kernel
theorem dX5_rowsLike_0 : decode cX5_rowsLike 0 = .ok (.aload_n 0, 1) := by decide +kernel
theorem dX5_rowsLike_1 : decode cX5_rowsLike 1 = .ok (.iload_n 1, 1) := by decide +kernel
theorem dX5_rowsLike_2 : decode cX5_rowsLike 2 = .ok (.sipush 511, 3) := by decide +kernel
theorem dX5_rowsLike_5 : decode cX5_rowsLike 5 = .ok (.invokevirtual 45, 3) := by decide +kernel
theorem dX5_rowsLike_8 : decode cX5_rowsLike 8 = .ok (.istore_n 2, 1) := by decide +kernel
theorem dX5_rowsLike_9 : decode cX5_rowsLike 9 = .ok (.iconst 0, 1) := by decide +kernel
theorem dX5_rowsLike_10 : decode cX5_rowsLike 10 = .ok (.istore_n 3, 1) := by decide +kernel
theorem dX5_rowsLike_11 : decode cX5_rowsLike 11 = .ok (.iconst 0, 1) := by decide +kernel
theorem dX5_rowsLike_12 : decode cX5_rowsLike 12 = .ok (.istore 4, 2) := by decide +kernel
theorem dX5_rowsLike_14 : decode cX5_rowsLike 14 = .ok (.iload 4, 2) := by decide +kernel
theorem dX5_rowsLike_16 : decode cX5_rowsLike 16 = .ok (.bipush 100, 2) := by decide +kernel
theorem dX5_rowsLike_18 : decode cX5_rowsLike 18 = .ok (.if_icmp .ge 25, 3) := by decide +kernel
theorem dX5_rowsLike_21 : decode cX5_rowsLike 21 = .ok (.aload_n 0, 1) := by decide +kernel
theorem dX5_rowsLike_22 : decode cX5_rowsLike 22 = .ok (.iload 4, 2) := by decide +kernel
theorem dX5_rowsLike_24 : decode cX5_rowsLike 24 = .ok (.sipush 511, 3) := by decide +kernel
theorem dX5_rowsLike_27 : decode cX5_rowsLike 27 = .ok (.invokevirtual 45, 3) := by decide +kernel
theorem dX5_rowsLike_30 : decode cX5_rowsLike 30 = .ok (.iload_n 2, 1) := by decide +kernel
theorem dX5_rowsLike_31 : decode cX5_rowsLike 31 = .ok (.if_icmp .ne 6, 3) := by decide +kernel
theorem dX5_rowsLike_34 : decode cX5_rowsLike 34 = .ok (.iinc 3 1, 3) := by decide +kernel
theorem dX5_rowsLike_37 : decode cX5_rowsLike 37 = .ok (.iinc 4 1, 3) := by decide +kernel
theorem dX5_rowsLike_40 : decode cX5_rowsLike 40 = .ok (.goto (-26), 3) := by decide +kernel
theorem dX5_rowsLike_43 : decode cX5_rowsLike 43 = .ok (.iload_n 3, 1) := by decide +kernel
theorem dX5_rowsLike_44 : decode cX5_rowsLike 44 = .ok (.ireturn, 1) := by decide +kernel
