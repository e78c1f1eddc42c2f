theorem dX4_init_0 : decode cX4_init 0 = .ok (.aload_n 0, 1) := by decide +kernel
theorem dX4_init_1 : decode cX4_init 1 = .ok (.invokespecial 3, 3) := by decide +kernel
theorem dX4_init_4 : decode cX4_init 4 = .ok (.aload_n 0, 1) := by decide +kernel
theorem dX4_init_5 : decode cX4_init 5 = .ok (.iconst 0, 1) := by decide +kernel
theorem dX4_init_6 : decode cX4_init 6 = .ok (.putfield 9, 3) := by decide +kernel
theorem dX4_init_9 : decode cX4_init 9 = .ok (.aload_n 0, 1) := by decide +kernel
theorem dX4_init_10 : decode cX4_init 10 = .ok (.bipush 9, 2) := by decide +kernel
theorem dX4_init_12 : decode cX4_init 12 = .ok (.iconst 5, 1) := by decide +kernel
theorem dX4_init_13 : decode cX4_init 13 = .ok (.multianewarray 15 2, 4) := by decide +kernel
theorem dX4_init_17 : decode cX4_init 17 = .ok (.putfield 17, 3) := by decide +kernel
theorem dX4_init_20 : decode cX4_init 20 = .ok (.aload_n 0, 1) := by decide +kernel
theorem dX4_init_21 : decode cX4_init 21 = .ok (.iconst 3, 1) := by decide +kernel
theorem dX4_init_22 : decode cX4_init 22 = .ok (.newarray .int, 2) := by decide +kernel
theorem dX4_init_24 : decode cX4_init 24 = .ok (.dup, 1) := by decide +kernel
theorem dX4_init_25 : decode cX4_init 25 = .ok (.iconst 0, 1) := by decide +kernel
theorem dX4_init_26 : decode cX4_init 26 = .ok (.iconst 0, 1) := by decide +kernel
theorem dX4_init_27 : decode cX4_init 27 = .ok (.iastore, 1) := by decide +kernel
theorem dX4_init_28 : decode cX4_init 28 = .ok (.dup, 1) := by decide +kernel
theorem dX4_init_29 : decode cX4_init 29 = .ok (.iconst 1, 1) := by decide +kernel
theorem dX4_init_30 : decode cX4_init 30 = .ok (.iconst 1, 1) := by decide +kernel
theorem dX4_init_31 : decode cX4_init 31 = .ok (.iastore, 1) := by decide +kernel
theorem dX4_init_32 : decode cX4_init 32 = .ok (.dup, 1) := by decide +kernel
theorem dX4_init_33 : decode cX4_init 33 = .ok (.iconst 2, 1) := by decide +kernel
theorem dX4_init_34 : decode cX4_init 34 = .ok (.iconst 2, 1) := by decide +kernel
theorem dX4_init_35 : decode cX4_init 35 = .ok (.iastore, 1) := by decide +kernel
theorem dX4_init_36 : decode cX4_init 36 = .ok (.putfield 20, 3) := by decide +kernel
theorem dX4_init_39 : decode cX4_init 39 = .ok (.return_, 1) := by decide +kernel
theorem dX4_has_0 : decode cX4_has 0 = .ok (.iload_n 1, 1) := by decide +kernel
theorem dX4_has_1 : decode cX4_has 1 = .ok (.aload_n 0, 1) := by decide +kernel
theorem dX4_has_2 : decode cX4_has 2 = .ok (.getfield 9, 3) := by decide +kernel
theorem dX4_has_5 : decode cX4_has 5 = .ok (.invokestatic 24, 3) := by decide +kernel
theorem dX4_has_8 : decode cX4_has 8 = .ok (.ireturn, 1) := by decide +kernel
theorem dX4_clear_0 : decode cX4_clear 0 = .ok (.aload_n 0, 1) := by decide +kernel
theorem dX4_clear_1 : decode cX4_clear 1 = .ok (.iconst 0, 1) := by decide +kernel
theorem dX4_clear_2 : decode cX4_clear 2 = .ok (.putfield 9, 3) := by decide +kernel
theorem dX4_clear_5 : decode cX4_clear 5 = .ok (.aload_n 0, 1) := by decide +kernel
theorem dX4_clear_6 : decode cX4_clear 6 = .ok (.getfield 20, 3) := by decide +kernel
theorem dX4_clear_9 : decode cX4_clear 9 = .ok (.iconst 0, 1) := by decide +kernel
theorem dX4_clear_10 : decode cX4_clear 10 = .ok (.iconst 0, 1) := by decide +kernel
theorem dX4_clear_11 : decode cX4_clear 11 = .ok (.iastore, 1) := by decide +kernel
theorem dX4_clear_12 : decode cX4_clear 12 = .ok (.aload_n 0, 1) := by decide +kernel
theorem dX4_clear_13 : decode cX4_clear 13 = .ok (.getfield 20, 3) := by decide +kernel
theorem dX4_clear_16 : decode cX4_clear 16 = .ok (.iconst 1, 1) := by decide +kernel
theorem dX4_clear_17 : decode cX4_clear 17 = .ok (.iconst 1, 1) := by decide +kernel
theorem dX4_clear_18 : decode cX4_clear 18 = .ok (.iastore, 1) := by decide +kernel
theorem dX4_clear_19 : decode cX4_clear 19 = .ok (.aload_n 0, 1) := by decide +kernel
theorem dX4_clear_20 : decode cX4_clear 20 = .ok (.getfield 20, 3) := by decide +kernel
theorem dX4_clear_23 : decode cX4_clear 23 = .ok (.iconst 2, 1) := by decide +kernel
theorem dX4_clear_24 : decode cX4_clear 24 = .ok (.iconst 2, 1) := by decide +kernel
theorem dX4_clear_25 : decode cX4_clear 25 = .ok (.iastore, 1) := by decide +kernel
theorem dX4_clear_26 : decode cX4_clear 26 = .ok (.return_, 1) := by decide +kernel
theorem dX4_copy_0 : decode cX4_copy 0 = .ok (.aload_n 0, 1) := by decide +kernel
theorem dX4_copy_1 : decode cX4_copy 1 = .ok (.aload_n 1, 1) := by decide +kernel
theorem dX4_copy_2 : decode cX4_copy 2 = .ok (.getfield 9, 3) := by decide +kernel
theorem dX4_copy_5 : decode cX4_copy 5 = .ok (.putfield 9, 3) := by decide +kernel
theorem dX4_copy_8 : decode cX4_copy 8 = .ok (.iconst 0, 1) := by decide +kernel
theorem dX4_copy_9 : decode cX4_copy 9 = .ok (.istore_n 2, 1) := by decide +kernel
theorem dX4_copy_10 : decode cX4_copy 10 = .ok (.iload_n 2, 1) := by decide +kernel
theorem dX4_copy_11 : decode cX4_copy 11 = .ok (.bipush 9, 2) := by decide +kernel
theorem dX4_copy_13 : decode cX4_copy 13 = .ok (.if_icmp .ge 27, 3) := by decide +kernel
theorem dX4_copy_16 : decode cX4_copy 16 = .ok (.aload_n 1, 1) := by decide +kernel
theorem dX4_copy_17 : decode cX4_copy 17 = .ok (.getfield 17, 3) := by decide +kernel
theorem dX4_copy_20 : decode cX4_copy 20 = .ok (.iload_n 2, 1) := by decide +kernel
theorem dX4_copy_21 : decode cX4_copy 21 = .ok (.aaload, 1) := by decide +kernel
theorem dX4_copy_22 : decode cX4_copy 22 = .ok (.iconst 0, 1) := by decide +kernel
theorem dX4_copy_23 : decode cX4_copy 23 = .ok (.aload_n 0, 1) := by decide +kernel
theorem dX4_copy_24 : decode cX4_copy 24 = .ok (.getfield 17, 3) := by decide +kernel
theorem dX4_copy_27 : decode cX4_copy 27 = .ok (.iload_n 2, 1) := by decide +kernel
theorem dX4_copy_28 : decode cX4_copy 28 = .ok (.aaload, 1) := by decide +kernel
theorem dX4_copy_29 : decode cX4_copy 29 = .ok (.iconst 0, 1) := by decide +kernel
theorem dX4_copy_30 : decode cX4_copy 30 = .ok (.iconst 5, 1) := by decide +kernel
theorem dX4_copy_31 : decode cX4_copy 31 = .ok (.invokestatic 28, 3) := by decide +kernel
theorem dX4_copy_34 : decode cX4_copy 34 = .ok (.iinc 2 1, 3) := by decide +kernel
theorem dX4_copy_37 : decode cX4_copy 37 = .ok (.goto (-27), 3) := by decide +kernel
theorem dX4_copy_40 : decode cX4_copy 40 = .ok (.aload_n 1, 1) := by decide +kernel
theorem dX4_copy_41 : decode cX4_copy 41 = .ok (.getfield 20, 3) := by decide +kernel
theorem dX4_copy_44 : decode cX4_copy 44 = .ok (.iconst 0, 1) := by decide +kernel
theorem dX4_copy_45 : decode cX4_copy 45 = .ok (.aload_n 0, 1) := by decide +kernel
theorem dX4_copy_46 : decode cX4_copy 46 = .ok (.getfield 20, 3) := by decide +kernel
theorem dX4_copy_49 : decode cX4_copy 49 = .ok (.iconst 0, 1) := by decide +kernel
theorem dX4_copy_50 : decode cX4_copy 50 = .ok (.iconst 3, 1) := by decide +kernel
theorem dX4_copy_51 : decode cX4_copy 51 = .ok (.invokestatic 28, 3) := by decide +kernel
theorem dX4_copy_54 : decode cX4_copy 54 = .ok (.return_, 1) := by decide +kernel
theorem dX4_hasPart_0 : decode cX4_hasPart 0 = .ok (.iload_n 0, 1) := by decide +kernel
theorem dX4_hasPart_1 : decode cX4_hasPart 1 = .ok (.bipush 7, 2) := by decide +kernel
theorem dX4_hasPart_3 : decode cX4_hasPart 3 = .ok (.invokestatic 24, 3) := by decide +kernel
theorem dX4_hasPart_6 : decode cX4_hasPart 6 = .ok (.ifCond .eq 20, 3) := by decide +kernel
theorem dX4_hasPart_9 : decode cX4_hasPart 9 = .ok (.getstatic 34, 3) := by decide +kernel
theorem dX4_hasPart_12 : decode cX4_hasPart 12 = .ok (.iload_n 0, 1) := by decide +kernel
theorem dX4_hasPart_13 : decode cX4_hasPart 13 = .ok (.iaload, 1) := by decide +kernel
theorem dX4_hasPart_14 : decode cX4_hasPart 14 = .ok (.iload_n 1, 1) := by decide +kernel
theorem dX4_hasPart_15 : decode cX4_hasPart 15 = .ok (.ishr, 1) := by decide +kernel
theorem dX4_hasPart_16 : decode cX4_hasPart 16 = .ok (.iconst 1, 1) := by decide +kernel
theorem dX4_hasPart_17 : decode cX4_hasPart 17 = .ok (.iand, 1) := by decide +kernel
theorem dX4_hasPart_18 : decode cX4_hasPart 18 = .ok (.iconst 1, 1) := by decide +kernel
theorem dX4_hasPart_19 : decode cX4_hasPart 19 = .ok (.if_icmp .ne 7, 3) := by decide +kernel
theorem dX4_hasPart_22 : decode cX4_hasPart 22 = .ok (.iconst 1, 1) := by decide +kernel
theorem dX4_hasPart_23 : decode cX4_hasPart 23 = .ok (.goto 4, 3) := by decide +kernel
theorem dX4_hasPart_26 : decode cX4_hasPart 26 = .ok (.iconst 0, 1) := by decide +kernel
theorem dX4_hasPart_27 : decode cX4_hasPart 27 = .ok (.ireturn, 1) := by decide +kernel
theorem dX4_fits_0 : decode cX4_fits 0 = .ok (.iload_n 1, 1) := by decide +kernel
theorem dX4_fits_1 : decode cX4_fits 1 = .ok (.iconst 4, 1) := by decide +kernel
theorem dX4_fits_2 : decode cX4_fits 2 = .ok (.if_icmp .ne 25, 3) := by decide +kernel
theorem dX4_fits_5 : decode cX4_fits 5 = .ok (.iload_n 2, 1) := by decide +kernel
theorem dX4_fits_6 : decode cX4_fits 6 = .ok (.iconst (-1), 1) := by decide +kernel
theorem dX4_fits_7 : decode cX4_fits 7 = .ok (.if_icmp .eq 14, 3) := by decide +kernel
theorem dX4_fits_10 : decode cX4_fits 10 = .ok (.iload_n 2, 1) := by decide +kernel
theorem dX4_fits_11 : decode cX4_fits 11 = .ok (.iload_n 3, 1) := by decide +kernel
theorem dX4_fits_12 : decode cX4_fits 12 = .ok (.if_icmp .le 13, 3) := by decide +kernel
theorem dX4_fits_15 : decode cX4_fits 15 = .ok (.iload_n 2, 1) := by decide +kernel
theorem dX4_fits_16 : decode cX4_fits 16 = .ok (.iload 4, 2) := by decide +kernel
theorem dX4_fits_18 : decode cX4_fits 18 = .ok (.if_icmp .gt 7, 3) := by decide +kernel
theorem dX4_fits_21 : decode cX4_fits 21 = .ok (.iconst 1, 1) := by decide +kernel
theorem dX4_fits_22 : decode cX4_fits 22 = .ok (.goto 4, 3) := by decide +kernel
theorem dX4_fits_25 : decode cX4_fits 25 = .ok (.iconst 0, 1) := by decide +kernel
theorem dX4_fits_26 : decode cX4_fits 26 = .ok (.ireturn, 1) := by decide +kernel
theorem dX4_fits_27 : decode cX4_fits 27 = .ok (.iload_n 2, 1) := by decide +kernel
theorem dX4_fits_28 : decode cX4_fits 28 = .ok (.iload_n 0, 1) := by decide +kernel
theorem dX4_fits_29 : decode cX4_fits 29 = .ok (.ifCond .ne 13, 3) := by decide +kernel
theorem dX4_fits_32 : decode cX4_fits 32 = .ok (.iload_n 1, 1) := by decide +kernel
theorem dX4_fits_33 : decode cX4_fits 33 = .ok (.iconst 2, 1) := by decide +kernel
theorem dX4_fits_34 : decode cX4_fits 34 = .ok (.if_icmp .ne 8, 3) := by decide +kernel
theorem dX4_fits_37 : decode cX4_fits 37 = .ok (.bipush 10, 2) := by decide +kernel
theorem dX4_fits_39 : decode cX4_fits 39 = .ok (.goto 4, 3) := by decide +kernel
theorem dX4_fits_42 : decode cX4_fits 42 = .ok (.iconst 5, 1) := by decide +kernel
theorem dX4_fits_43 : decode cX4_fits 43 = .ok (.invokestatic 24, 3) := by decide +kernel
theorem dX4_fits_46 : decode cX4_fits 46 = .ok (.ireturn, 1) := by decide +kernel
theorem dX4_targetOf_0 : decode cX4_targetOf 0 = .ok (.aload_n 0, 1) := by decide +kernel
theorem dX4_targetOf_1 : decode cX4_targetOf 1 = .ok (.getfield 17, 3) := by decide +kernel
theorem dX4_targetOf_4 : decode cX4_targetOf 4 = .ok (.iload_n 1, 1) := by decide +kernel
theorem dX4_targetOf_5 : decode cX4_targetOf 5 = .ok (.aaload, 1) := by decide +kernel
theorem dX4_targetOf_6 : decode cX4_targetOf 6 = .ok (.iconst 4, 1) := by decide +kernel
theorem dX4_targetOf_7 : decode cX4_targetOf 7 = .ok (.iaload, 1) := by decide +kernel
theorem dX4_targetOf_8 : decode cX4_targetOf 8 = .ok (.istore_n 2, 1) := by decide +kernel
theorem dX4_targetOf_9 : decode cX4_targetOf 9 = .ok (.iload_n 2, 1) := by decide +kernel
theorem dX4_targetOf_10 : decode cX4_targetOf 10 = .ok (.bipush (-9), 2) := by decide +kernel
theorem dX4_targetOf_12 : decode cX4_targetOf 12 = .ok (.if_icmp .ne 9, 3) := by decide +kernel
theorem dX4_targetOf_15 : decode cX4_targetOf 15 = .ok (.iload_n 1, 1) := by decide +kernel
theorem dX4_targetOf_16 : decode cX4_targetOf 16 = .ok (.iconst 1, 1) := by decide +kernel
theorem dX4_targetOf_17 : decode cX4_targetOf 17 = .ok (.iadd, 1) := by decide +kernel
theorem dX4_targetOf_18 : decode cX4_targetOf 18 = .ok (.goto 16, 3) := by decide +kernel
theorem dX4_targetOf_21 : decode cX4_targetOf 21 = .ok (.iload_n 2, 1) := by decide +kernel
theorem dX4_targetOf_22 : decode cX4_targetOf 22 = .ok (.iconst (-1), 1) := by decide +kernel
theorem dX4_targetOf_23 : decode cX4_targetOf 23 = .ok (.if_icmp .ne 10, 3) := by decide +kernel
theorem dX4_targetOf_26 : decode cX4_targetOf 26 = .ok (.aload_n 0, 1) := by decide +kernel
theorem dX4_targetOf_27 : decode cX4_targetOf 27 = .ok (.getfield 9, 3) := by decide +kernel
theorem dX4_targetOf_30 : decode cX4_targetOf 30 = .ok (.goto 4, 3) := by decide +kernel
theorem dX4_targetOf_33 : decode cX4_targetOf 33 = .ok (.iload_n 2, 1) := by decide +kernel
theorem dX4_targetOf_34 : decode cX4_targetOf 34 = .ok (.ireturn, 1) := by decide +kernel
theorem dX4_linesOfKind_0 : decode cX4_linesOfKind 0 = .ok (.iconst 0, 1) := by decide +kernel
theorem dX4_linesOfKind_1 : decode cX4_linesOfKind 1 = .ok (.istore_n 2, 1) := by decide +kernel
theorem dX4_linesOfKind_2 : decode cX4_linesOfKind 2 = .ok (.iconst 0, 1) := by decide +kernel
theorem dX4_linesOfKind_3 : decode cX4_linesOfKind 3 = .ok (.istore_n 3, 1) := by decide +kernel
theorem dX4_linesOfKind_4 : decode cX4_linesOfKind 4 = .ok (.iload_n 3, 1) := by decide +kernel
theorem dX4_linesOfKind_5 : decode cX4_linesOfKind 5 = .ok (.aload_n 0, 1) := by decide +kernel
theorem dX4_linesOfKind_6 : decode cX4_linesOfKind 6 = .ok (.getfield 9, 3) := by decide +kernel
theorem dX4_linesOfKind_9 : decode cX4_linesOfKind 9 = .ok (.if_icmp .ge 27, 3) := by decide +kernel
theorem dX4_linesOfKind_12 : decode cX4_linesOfKind 12 = .ok (.aload_n 0, 1) := by decide +kernel
theorem dX4_linesOfKind_13 : decode cX4_linesOfKind 13 = .ok (.getfield 17, 3) := by decide +kernel
theorem dX4_linesOfKind_16 : decode cX4_linesOfKind 16 = .ok (.iload_n 3, 1) := by decide +kernel
theorem dX4_linesOfKind_17 : decode cX4_linesOfKind 17 = .ok (.aaload, 1) := by decide +kernel
theorem dX4_linesOfKind_18 : decode cX4_linesOfKind 18 = .ok (.iconst 0, 1) := by decide +kernel
theorem dX4_linesOfKind_19 : decode cX4_linesOfKind 19 = .ok (.iaload, 1) := by decide +kernel
theorem dX4_linesOfKind_20 : decode cX4_linesOfKind 20 = .ok (.iload_n 1, 1) := by decide +kernel
theorem dX4_linesOfKind_21 : decode cX4_linesOfKind 21 = .ok (.if_icmp .ne 9, 3) := by decide +kernel
theorem dX4_linesOfKind_24 : decode cX4_linesOfKind 24 = .ok (.iload_n 2, 1) := by decide +kernel
theorem dX4_linesOfKind_25 : decode cX4_linesOfKind 25 = .ok (.iconst 1, 1) := by decide +kernel
theorem dX4_linesOfKind_26 : decode cX4_linesOfKind 26 = .ok (.iload_n 3, 1) := by decide +kernel
theorem dX4_linesOfKind_27 : decode cX4_linesOfKind 27 = .ok (.ishl, 1) := by decide +kernel
theorem dX4_linesOfKind_28 : decode cX4_linesOfKind 28 = .ok (.ior, 1) := by decide +kernel
theorem dX4_linesOfKind_29 : decode cX4_linesOfKind 29 = .ok (.istore_n 2, 1) := by decide +kernel
theorem dX4_linesOfKind_30 : decode cX4_linesOfKind 30 = .ok (.iinc 3 1, 3) := by decide +kernel
theorem dX4_linesOfKind_33 : decode cX4_linesOfKind 33 = .ok (.goto (-29), 3) := by decide +kernel
theorem dX4_linesOfKind_36 : decode cX4_linesOfKind 36 = .ok (.iload_n 2, 1) := by decide +kernel
theorem dX4_linesOfKind_37 : decode cX4_linesOfKind 37 = .ok (.ireturn, 1) := by decide +kernel
