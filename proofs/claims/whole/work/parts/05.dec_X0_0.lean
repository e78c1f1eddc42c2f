theorem dX0_init_0 : decode cX0_init 0 = .ok (.aload_n 0, 1) := by decide +kernel
theorem dX0_init_1 : decode cX0_init 1 = .ok (.invokespecial 3, 3) := by decide +kernel
theorem dX0_init_4 : decode cX0_init 4 = .ok (.aload_n 0, 1) := by decide +kernel
theorem dX0_init_5 : decode cX0_init 5 = .ok (.iconst 0, 1) := by decide +kernel
theorem dX0_init_6 : decode cX0_init 6 = .ok (.putfield 9, 3) := by decide +kernel
theorem dX0_init_9 : decode cX0_init 9 = .ok (.aload_n 0, 1) := by decide +kernel
theorem dX0_init_10 : decode cX0_init 10 = .ok (.bipush 84, 2) := by decide +kernel
theorem dX0_init_12 : decode cX0_init 12 = .ok (.newarray .int, 2) := by decide +kernel
theorem dX0_init_14 : decode cX0_init 14 = .ok (.putfield 15, 3) := by decide +kernel
theorem dX0_init_17 : decode cX0_init 17 = .ok (.return_, 1) := by decide +kernel
theorem dX0_addTold_0 : decode cX0_addTold 0 = .ok (.aload_n 0, 1) := by decide +kernel
theorem dX0_addTold_1 : decode cX0_addTold 1 = .ok (.invokevirtual 19, 3) := by decide +kernel
theorem dX0_addTold_4 : decode cX0_addTold 4 = .ok (.istore_n 3, 1) := by decide +kernel
theorem dX0_addTold_5 : decode cX0_addTold 5 = .ok (.aload_n 0, 1) := by decide +kernel
theorem dX0_addTold_6 : decode cX0_addTold 6 = .ok (.getfield 15, 3) := by decide +kernel
theorem dX0_addTold_9 : decode cX0_addTold 9 = .ok (.iload_n 3, 1) := by decide +kernel
theorem dX0_addTold_10 : decode cX0_addTold 10 = .ok (.iload_n 2, 1) := by decide +kernel
theorem dX0_addTold_11 : decode cX0_addTold 11 = .ok (.iastore, 1) := by decide +kernel
theorem dX0_addTold_12 : decode cX0_addTold 12 = .ok (.aload_n 1, 1) := by decide +kernel
theorem dX0_addTold_13 : decode cX0_addTold 13 = .ok (.getfield 23, 3) := by decide +kernel
theorem dX0_addTold_16 : decode cX0_addTold 16 = .ok (.iload_n 2, 1) := by decide +kernel
theorem dX0_addTold_17 : decode cX0_addTold 17 = .ok (.aaload, 1) := by decide +kernel
theorem dX0_addTold_18 : decode cX0_addTold 18 = .ok (.iconst 0, 1) := by decide +kernel
theorem dX0_addTold_19 : decode cX0_addTold 19 = .ok (.aload_n 0, 1) := by decide +kernel
theorem dX0_addTold_20 : decode cX0_addTold 20 = .ok (.getfield 15, 3) := by decide +kernel
theorem dX0_addTold_23 : decode cX0_addTold 23 = .ok (.iload_n 3, 1) := by decide +kernel
theorem dX0_addTold_24 : decode cX0_addTold 24 = .ok (.iconst 1, 1) := by decide +kernel
theorem dX0_addTold_25 : decode cX0_addTold 25 = .ok (.iadd, 1) := by decide +kernel
theorem dX0_addTold_26 : decode cX0_addTold 26 = .ok (.iconst 5, 1) := by decide +kernel
theorem dX0_addTold_27 : decode cX0_addTold 27 = .ok (.invokestatic 29, 3) := by decide +kernel
theorem dX0_addTold_30 : decode cX0_addTold 30 = .ok (.return_, 1) := by decide +kernel
theorem dX0_addLabelled_0 : decode cX0_addLabelled 0 = .ok (.aload_n 0, 1) := by decide +kernel
theorem dX0_addLabelled_1 : decode cX0_addLabelled 1 = .ok (.invokevirtual 19, 3) := by decide +kernel
theorem dX0_addLabelled_4 : decode cX0_addLabelled 4 = .ok (.istore_n 3, 1) := by decide +kernel
theorem dX0_addLabelled_5 : decode cX0_addLabelled 5 = .ok (.aload_n 0, 1) := by decide +kernel
theorem dX0_addLabelled_6 : decode cX0_addLabelled 6 = .ok (.getfield 15, 3) := by decide +kernel
theorem dX0_addLabelled_9 : decode cX0_addLabelled 9 = .ok (.iload_n 3, 1) := by decide +kernel
theorem dX0_addLabelled_10 : decode cX0_addLabelled 10 = .ok (.bipush 9, 2) := by decide +kernel
theorem dX0_addLabelled_12 : decode cX0_addLabelled 12 = .ok (.iload_n 2, 1) := by decide +kernel
theorem dX0_addLabelled_13 : decode cX0_addLabelled 13 = .ok (.iadd, 1) := by decide +kernel
theorem dX0_addLabelled_14 : decode cX0_addLabelled 14 = .ok (.iastore, 1) := by decide +kernel
theorem dX0_addLabelled_15 : decode cX0_addLabelled 15 = .ok (.aload_n 0, 1) := by decide +kernel
theorem dX0_addLabelled_16 : decode cX0_addLabelled 16 = .ok (.getfield 15, 3) := by decide +kernel
theorem dX0_addLabelled_19 : decode cX0_addLabelled 19 = .ok (.iload_n 3, 1) := by decide +kernel
theorem dX0_addLabelled_20 : decode cX0_addLabelled 20 = .ok (.iconst 1, 1) := by decide +kernel
theorem dX0_addLabelled_21 : decode cX0_addLabelled 21 = .ok (.iadd, 1) := by decide +kernel
theorem dX0_addLabelled_22 : decode cX0_addLabelled 22 = .ok (.aload_n 1, 1) := by decide +kernel
theorem dX0_addLabelled_23 : decode cX0_addLabelled 23 = .ok (.getfield 35, 3) := by decide +kernel
theorem dX0_addLabelled_26 : decode cX0_addLabelled 26 = .ok (.iload_n 2, 1) := by decide +kernel
theorem dX0_addLabelled_27 : decode cX0_addLabelled 27 = .ok (.iaload, 1) := by decide +kernel
theorem dX0_addLabelled_28 : decode cX0_addLabelled 28 = .ok (.iastore, 1) := by decide +kernel
theorem dX0_addLabelled_29 : decode cX0_addLabelled 29 = .ok (.return_, 1) := by decide +kernel
theorem dX0_placeForOne_0 : decode cX0_placeForOne 0 = .ok (.aload_n 0, 1) := by decide +kernel
theorem dX0_placeForOne_1 : decode cX0_placeForOne 1 = .ok (.getfield 9, 3) := by decide +kernel
theorem dX0_placeForOne_4 : decode cX0_placeForOne 4 = .ok (.bipush 14, 2) := by decide +kernel
theorem dX0_placeForOne_6 : decode cX0_placeForOne 6 = .ok (.if_icmp .lt 25, 3) := by decide +kernel
theorem dX0_placeForOne_9 : decode cX0_placeForOne 9 = .ok (.aload_n 0, 1) := by decide +kernel
theorem dX0_placeForOne_10 : decode cX0_placeForOne 10 = .ok (.getfield 15, 3) := by decide +kernel
theorem dX0_placeForOne_13 : decode cX0_placeForOne 13 = .ok (.bipush 6, 2) := by decide +kernel
theorem dX0_placeForOne_15 : decode cX0_placeForOne 15 = .ok (.aload_n 0, 1) := by decide +kernel
theorem dX0_placeForOne_16 : decode cX0_placeForOne 16 = .ok (.getfield 15, 3) := by decide +kernel
theorem dX0_placeForOne_19 : decode cX0_placeForOne 19 = .ok (.iconst 0, 1) := by decide +kernel
theorem dX0_placeForOne_20 : decode cX0_placeForOne 20 = .ok (.bipush 78, 2) := by decide +kernel
theorem dX0_placeForOne_22 : decode cX0_placeForOne 22 = .ok (.invokestatic 29, 3) := by decide +kernel
theorem dX0_placeForOne_25 : decode cX0_placeForOne 25 = .ok (.aload_n 0, 1) := by decide +kernel
theorem dX0_placeForOne_26 : decode cX0_placeForOne 26 = .ok (.bipush 13, 2) := by decide +kernel
theorem dX0_placeForOne_28 : decode cX0_placeForOne 28 = .ok (.putfield 9, 3) := by decide +kernel
theorem dX0_placeForOne_31 : decode cX0_placeForOne 31 = .ok (.aload_n 0, 1) := by decide +kernel
theorem dX0_placeForOne_32 : decode cX0_placeForOne 32 = .ok (.dup, 1) := by decide +kernel
theorem dX0_placeForOne_33 : decode cX0_placeForOne 33 = .ok (.getfield 9, 3) := by decide +kernel
theorem dX0_placeForOne_36 : decode cX0_placeForOne 36 = .ok (.iconst 1, 1) := by decide +kernel
theorem dX0_placeForOne_37 : decode cX0_placeForOne 37 = .ok (.iadd, 1) := by decide +kernel
theorem dX0_placeForOne_38 : decode cX0_placeForOne 38 = .ok (.putfield 9, 3) := by decide +kernel
theorem dX0_placeForOne_41 : decode cX0_placeForOne 41 = .ok (.aload_n 0, 1) := by decide +kernel
theorem dX0_placeForOne_42 : decode cX0_placeForOne 42 = .ok (.getfield 9, 3) := by decide +kernel
theorem dX0_placeForOne_45 : decode cX0_placeForOne 45 = .ok (.iconst 1, 1) := by decide +kernel
theorem dX0_placeForOne_46 : decode cX0_placeForOne 46 = .ok (.isub, 1) := by decide +kernel
theorem dX0_placeForOne_47 : decode cX0_placeForOne 47 = .ok (.bipush 6, 2) := by decide +kernel
theorem dX0_placeForOne_49 : decode cX0_placeForOne 49 = .ok (.imul, 1) := by decide +kernel
theorem dX0_placeForOne_50 : decode cX0_placeForOne 50 = .ok (.ireturn, 1) := by decide +kernel
theorem dX0_takeBack_0 : decode cX0_takeBack 0 = .ok (.aload_n 0, 1) := by decide +kernel
theorem dX0_takeBack_1 : decode cX0_takeBack 1 = .ok (.getfield 9, 3) := by decide +kernel
theorem dX0_takeBack_4 : decode cX0_takeBack 4 = .ok (.ifCond .ne 5, 3) := by decide +kernel
theorem dX0_takeBack_7 : decode cX0_takeBack 7 = .ok (.iconst 0, 1) := by decide +kernel
theorem dX0_takeBack_8 : decode cX0_takeBack 8 = .ok (.ireturn, 1) := by decide +kernel
theorem dX0_takeBack_9 : decode cX0_takeBack 9 = .ok (.aload_n 0, 1) := by decide +kernel
theorem dX0_takeBack_10 : decode cX0_takeBack 10 = .ok (.dup, 1) := by decide +kernel
theorem dX0_takeBack_11 : decode cX0_takeBack 11 = .ok (.getfield 9, 3) := by decide +kernel
theorem dX0_takeBack_14 : decode cX0_takeBack 14 = .ok (.iconst 1, 1) := by decide +kernel
theorem dX0_takeBack_15 : decode cX0_takeBack 15 = .ok (.isub, 1) := by decide +kernel
theorem dX0_takeBack_16 : decode cX0_takeBack 16 = .ok (.putfield 9, 3) := by decide +kernel
theorem dX0_takeBack_19 : decode cX0_takeBack 19 = .ok (.aload_n 0, 1) := by decide +kernel
theorem dX0_takeBack_20 : decode cX0_takeBack 20 = .ok (.getfield 9, 3) := by decide +kernel
theorem dX0_takeBack_23 : decode cX0_takeBack 23 = .ok (.bipush 6, 2) := by decide +kernel
theorem dX0_takeBack_25 : decode cX0_takeBack 25 = .ok (.imul, 1) := by decide +kernel
theorem dX0_takeBack_26 : decode cX0_takeBack 26 = .ok (.istore_n 2, 1) := by decide +kernel
theorem dX0_takeBack_27 : decode cX0_takeBack 27 = .ok (.aload_n 0, 1) := by decide +kernel
theorem dX0_takeBack_28 : decode cX0_takeBack 28 = .ok (.getfield 15, 3) := by decide +kernel
theorem dX0_takeBack_31 : decode cX0_takeBack 31 = .ok (.iload_n 2, 1) := by decide +kernel
theorem dX0_takeBack_32 : decode cX0_takeBack 32 = .ok (.iaload, 1) := by decide +kernel
theorem dX0_takeBack_33 : decode cX0_takeBack 33 = .ok (.istore_n 3, 1) := by decide +kernel
theorem dX0_takeBack_34 : decode cX0_takeBack 34 = .ok (.iload_n 3, 1) := by decide +kernel
theorem dX0_takeBack_35 : decode cX0_takeBack 35 = .ok (.bipush 9, 2) := by decide +kernel
theorem dX0_takeBack_37 : decode cX0_takeBack 37 = .ok (.if_icmp .ge 24, 3) := by decide +kernel
theorem dX0_takeBack_40 : decode cX0_takeBack 40 = .ok (.aload_n 0, 1) := by decide +kernel
theorem dX0_takeBack_41 : decode cX0_takeBack 41 = .ok (.getfield 15, 3) := by decide +kernel
theorem dX0_takeBack_44 : decode cX0_takeBack 44 = .ok (.iload_n 2, 1) := by decide +kernel
theorem dX0_takeBack_45 : decode cX0_takeBack 45 = .ok (.iconst 1, 1) := by decide +kernel
theorem dX0_takeBack_46 : decode cX0_takeBack 46 = .ok (.iadd, 1) := by decide +kernel
theorem dX0_takeBack_47 : decode cX0_takeBack 47 = .ok (.aload_n 1, 1) := by decide +kernel
theorem dX0_takeBack_48 : decode cX0_takeBack 48 = .ok (.getfield 23, 3) := by decide +kernel
theorem dX0_takeBack_51 : decode cX0_takeBack 51 = .ok (.iload_n 3, 1) := by decide +kernel
theorem dX0_takeBack_52 : decode cX0_takeBack 52 = .ok (.aaload, 1) := by decide +kernel
theorem dX0_takeBack_53 : decode cX0_takeBack 53 = .ok (.iconst 0, 1) := by decide +kernel
theorem dX0_takeBack_54 : decode cX0_takeBack 54 = .ok (.iconst 5, 1) := by decide +kernel
theorem dX0_takeBack_55 : decode cX0_takeBack 55 = .ok (.invokestatic 29, 3) := by decide +kernel
theorem dX0_takeBack_58 : decode cX0_takeBack 58 = .ok (.goto 20, 3) := by decide +kernel
theorem dX0_takeBack_61 : decode cX0_takeBack 61 = .ok (.aload_n 1, 1) := by decide +kernel
theorem dX0_takeBack_62 : decode cX0_takeBack 62 = .ok (.getfield 35, 3) := by decide +kernel
theorem dX0_takeBack_65 : decode cX0_takeBack 65 = .ok (.iload_n 3, 1) := by decide +kernel
theorem dX0_takeBack_66 : decode cX0_takeBack 66 = .ok (.bipush 9, 2) := by decide +kernel
theorem dX0_takeBack_68 : decode cX0_takeBack 68 = .ok (.isub, 1) := by decide +kernel
theorem dX0_takeBack_69 : decode cX0_takeBack 69 = .ok (.aload_n 0, 1) := by decide +kernel
theorem dX0_takeBack_70 : decode cX0_takeBack 70 = .ok (.getfield 15, 3) := by decide +kernel
theorem dX0_takeBack_73 : decode cX0_takeBack 73 = .ok (.iload_n 2, 1) := by decide +kernel
theorem dX0_takeBack_74 : decode cX0_takeBack 74 = .ok (.iconst 1, 1) := by decide +kernel
theorem dX0_takeBack_75 : decode cX0_takeBack 75 = .ok (.iadd, 1) := by decide +kernel
theorem dX0_takeBack_76 : decode cX0_takeBack 76 = .ok (.iaload, 1) := by decide +kernel
theorem dX0_takeBack_77 : decode cX0_takeBack 77 = .ok (.iastore, 1) := by decide +kernel
theorem dX0_takeBack_78 : decode cX0_takeBack 78 = .ok (.iconst 1, 1) := by decide +kernel
theorem dX0_takeBack_79 : decode cX0_takeBack 79 = .ok (.ireturn, 1) := by decide +kernel
