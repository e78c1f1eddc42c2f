theorem dX9_firstUnlike_22 : decode cX9_firstUnlike 22 = .ok (.invokevirtual 191, 3) := by decide +kernel
theorem dX9_firstUnlike_25 : decode cX9_firstUnlike 25 = .ok (.aload_n 0, 1) := by decide +kernel
theorem dX9_firstUnlike_26 : decode cX9_firstUnlike 26 = .ok (.iload_n 1, 1) := by decide +kernel
theorem dX9_firstUnlike_27 : decode cX9_firstUnlike 27 = .ok (.iload_n 3, 1) := by decide +kernel
theorem dX9_firstUnlike_28 : decode cX9_firstUnlike 28 = .ok (.bipush 10, 2) := by decide +kernel
theorem dX9_firstUnlike_30 : decode cX9_firstUnlike 30 = .ok (.idiv, 1) := by decide +kernel
theorem dX9_firstUnlike_31 : decode cX9_firstUnlike 31 = .ok (.iload_n 3, 1) := by decide +kernel
theorem dX9_firstUnlike_32 : decode cX9_firstUnlike 32 = .ok (.bipush 10, 2) := by decide +kernel
theorem dX9_firstUnlike_34 : decode cX9_firstUnlike 34 = .ok (.irem, 1) := by decide +kernel
theorem dX9_firstUnlike_35 : decode cX9_firstUnlike 35 = .ok (.iload 4, 2) := by decide +kernel
theorem dX9_firstUnlike_37 : decode cX9_firstUnlike 37 = .ok (.invokevirtual 191, 3) := by decide +kernel
theorem dX9_firstUnlike_40 : decode cX9_firstUnlike 40 = .ok (.if_icmp .eq 6, 3) := by decide +kernel
theorem dX9_firstUnlike_43 : decode cX9_firstUnlike 43 = .ok (.iload 4, 2) := by decide +kernel
theorem dX9_firstUnlike_45 : decode cX9_firstUnlike 45 = .ok (.ireturn, 1) := by decide +kernel
theorem dX9_firstUnlike_46 : decode cX9_firstUnlike 46 = .ok (.iinc 4 1, 3) := by decide +kernel
theorem dX9_firstUnlike_49 : decode cX9_firstUnlike 49 = .ok (.goto (-46), 3) := by decide +kernel
theorem dX9_firstUnlike_52 : decode cX9_firstUnlike 52 = .ok (.bipush (-9), 2) := by decide +kernel
theorem dX9_firstUnlike_54 : decode cX9_firstUnlike 54 = .ok (.ireturn, 1) := by decide +kernel
theorem dX9_leak_0 : decode cX9_leak 0 = .ok (.iload_n 1, 1) := by decide +kernel
theorem dX9_leak_1 : decode cX9_leak 1 = .ok (.i2l, 1) := by decide +kernel
theorem dX9_leak_2 : decode cX9_leak 2 = .ok (.lconst 0, 1) := by decide +kernel
theorem dX9_leak_3 : decode cX9_leak 3 = .ok (.ldc2_w 169, 3) := by decide +kernel
theorem dX9_leak_6 : decode cX9_leak 6 = .ok (.invokestatic 60, 3) := by decide +kernel
theorem dX9_leak_9 : decode cX9_leak 9 = .ok (.ifCond .ne 6, 3) := by decide +kernel
theorem dX9_leak_12 : decode cX9_leak 12 = .ok (.bipush (-2), 2) := by decide +kernel
theorem dX9_leak_14 : decode cX9_leak 14 = .ok (.ireturn, 1) := by decide +kernel
theorem dX9_leak_15 : decode cX9_leak 15 = .ok (.iconst 0, 1) := by decide +kernel
theorem dX9_leak_16 : decode cX9_leak 16 = .ok (.istore_n 2, 1) := by decide +kernel
theorem dX9_leak_17 : decode cX9_leak 17 = .ok (.iload_n 2, 1) := by decide +kernel
theorem dX9_leak_18 : decode cX9_leak 18 = .ok (.bipush 10, 2) := by decide +kernel
theorem dX9_leak_20 : decode cX9_leak 20 = .ok (.if_icmp .ge 81, 3) := by decide +kernel
theorem dX9_leak_23 : decode cX9_leak 23 = .ok (.aload_n 0, 1) := by decide +kernel
theorem dX9_leak_24 : decode cX9_leak 24 = .ok (.iload_n 2, 1) := by decide +kernel
theorem dX9_leak_25 : decode cX9_leak 25 = .ok (.sipush 511, 3) := by decide +kernel
theorem dX9_leak_28 : decode cX9_leak 28 = .ok (.invokevirtual 195, 3) := by decide +kernel
theorem dX9_leak_31 : decode cX9_leak 31 = .ok (.iconst 1, 1) := by decide +kernel
theorem dX9_leak_32 : decode cX9_leak 32 = .ok (.istore_n 3, 1) := by decide +kernel
theorem dX9_leak_33 : decode cX9_leak 33 = .ok (.iload_n 3, 1) := by decide +kernel
theorem dX9_leak_34 : decode cX9_leak 34 = .ok (.bipush 100, 2) := by decide +kernel
theorem dX9_leak_36 : decode cX9_leak 36 = .ok (.if_icmp .ge 59, 3) := by decide +kernel
theorem dX9_leak_39 : decode cX9_leak 39 = .ok (.aload_n 0, 1) := by decide +kernel
theorem dX9_leak_40 : decode cX9_leak 40 = .ok (.getfield 31, 3) := by decide +kernel
theorem dX9_leak_43 : decode cX9_leak 43 = .ok (.iload_n 3, 1) := by decide +kernel
theorem dX9_leak_44 : decode cX9_leak 44 = .ok (.laload, 1) := by decide +kernel
theorem dX9_leak_45 : decode cX9_leak 45 = .ok (.aload_n 0, 1) := by decide +kernel
theorem dX9_leak_46 : decode cX9_leak 46 = .ok (.getfield 31, 3) := by decide +kernel
theorem dX9_leak_49 : decode cX9_leak 49 = .ok (.iconst 0, 1) := by decide +kernel
theorem dX9_leak_50 : decode cX9_leak 50 = .ok (.laload, 1) := by decide +kernel
theorem dX9_leak_51 : decode cX9_leak 51 = .ok (.lcmp, 1) := by decide +kernel
theorem dX9_leak_52 : decode cX9_leak 52 = .ok (.ifCond .eq 37, 3) := by decide +kernel
theorem dX9_leak_55 : decode cX9_leak 55 = .ok (.iload_n 1, 1) := by decide +kernel
theorem dX9_leak_56 : decode cX9_leak 56 = .ok (.ifCond .ne 7, 3) := by decide +kernel
theorem dX9_leak_59 : decode cX9_leak 59 = .ok (.iload_n 2, 1) := by decide +kernel
theorem dX9_leak_60 : decode cX9_leak 60 = .ok (.goto 28, 3) := by decide +kernel
theorem dX9_leak_63 : decode cX9_leak 63 = .ok (.iload_n 1, 1) := by decide +kernel
theorem dX9_leak_64 : decode cX9_leak 64 = .ok (.iconst 1, 1) := by decide +kernel
theorem dX9_leak_65 : decode cX9_leak 65 = .ok (.if_icmp .ne 7, 3) := by decide +kernel
theorem dX9_leak_68 : decode cX9_leak 68 = .ok (.iconst 0, 1) := by decide +kernel
theorem dX9_leak_69 : decode cX9_leak 69 = .ok (.goto 19, 3) := by decide +kernel
theorem dX9_leak_72 : decode cX9_leak 72 = .ok (.iload_n 1, 1) := by decide +kernel
theorem dX9_leak_73 : decode cX9_leak 73 = .ok (.iconst 2, 1) := by decide +kernel
theorem dX9_leak_74 : decode cX9_leak 74 = .ok (.if_icmp .ne 7, 3) := by decide +kernel
theorem dX9_leak_77 : decode cX9_leak 77 = .ok (.iload_n 3, 1) := by decide +kernel
theorem dX9_leak_78 : decode cX9_leak 78 = .ok (.goto 10, 3) := by decide +kernel
theorem dX9_leak_81 : decode cX9_leak 81 = .ok (.aload_n 0, 1) := by decide +kernel
theorem dX9_leak_82 : decode cX9_leak 82 = .ok (.iload_n 2, 1) := by decide +kernel
theorem dX9_leak_83 : decode cX9_leak 83 = .ok (.iconst 0, 1) := by decide +kernel
theorem dX9_leak_84 : decode cX9_leak 84 = .ok (.iload_n 3, 1) := by decide +kernel
theorem dX9_leak_85 : decode cX9_leak 85 = .ok (.invokevirtual 198, 3) := by decide +kernel
theorem dX9_leak_88 : decode cX9_leak 88 = .ok (.ireturn, 1) := by decide +kernel
theorem dX9_leak_89 : decode cX9_leak 89 = .ok (.iinc 3 1, 3) := by decide +kernel
theorem dX9_leak_92 : decode cX9_leak 92 = .ok (.goto (-59), 3) := by decide +kernel
theorem dX9_leak_95 : decode cX9_leak 95 = .ok (.iinc 2 1, 3) := by decide +kernel
theorem dX9_leak_98 : decode cX9_leak 98 = .ok (.goto (-81), 3) := by decide +kernel
theorem dX9_leak_101 : decode cX9_leak 101 = .ok (.bipush (-9), 2) := by decide +kernel
theorem dX9_leak_103 : decode cX9_leak 103 = .ok (.ireturn, 1) := by decide +kernel
theorem dX9_worldsBy_0 : decode cX9_worldsBy 0 = .ok (.aload_n 0, 1) := by decide +kernel
theorem dX9_worldsBy_1 : decode cX9_worldsBy 1 = .ok (.iload_n 1, 1) := by decide +kernel
theorem dX9_worldsBy_2 : decode cX9_worldsBy 2 = .ok (.iload_n 2, 1) := by decide +kernel
theorem dX9_worldsBy_3 : decode cX9_worldsBy 3 = .ok (.invokevirtual 195, 3) := by decide +kernel
theorem dX9_worldsBy_6 : decode cX9_worldsBy 6 = .ok (.iconst 0, 1) := by decide +kernel
theorem dX9_worldsBy_7 : decode cX9_worldsBy 7 = .ok (.istore_n 3, 1) := by decide +kernel
theorem dX9_worldsBy_8 : decode cX9_worldsBy 8 = .ok (.iconst 0, 1) := by decide +kernel
theorem dX9_worldsBy_9 : decode cX9_worldsBy 9 = .ok (.istore 4, 2) := by decide +kernel
theorem dX9_worldsBy_11 : decode cX9_worldsBy 11 = .ok (.iload 4, 2) := by decide +kernel
theorem dX9_worldsBy_13 : decode cX9_worldsBy 13 = .ok (.bipush 100, 2) := by decide +kernel
theorem dX9_worldsBy_15 : decode cX9_worldsBy 15 = .ok (.if_icmp .ge 71, 3) := by decide +kernel
theorem dX9_worldsBy_18 : decode cX9_worldsBy 18 = .ok (.iconst 1, 1) := by decide +kernel
theorem dX9_worldsBy_19 : decode cX9_worldsBy 19 = .ok (.istore 5, 2) := by decide +kernel
theorem dX9_worldsBy_21 : decode cX9_worldsBy 21 = .ok (.iconst 0, 1) := by decide +kernel
theorem dX9_worldsBy_22 : decode cX9_worldsBy 22 = .ok (.istore 6, 2) := by decide +kernel
theorem dX9_worldsBy_24 : decode cX9_worldsBy 24 = .ok (.iload 6, 2) := by decide +kernel
theorem dX9_worldsBy_26 : decode cX9_worldsBy 26 = .ok (.iload 4, 2) := by decide +kernel
theorem dX9_worldsBy_28 : decode cX9_worldsBy 28 = .ok (.if_icmp .ge 39, 3) := by decide +kernel
theorem dX9_worldsBy_31 : decode cX9_worldsBy 31 = .ok (.iload 5, 2) := by decide +kernel
theorem dX9_worldsBy_33 : decode cX9_worldsBy 33 = .ok (.ifCond .eq 25, 3) := by decide +kernel
theorem dX9_worldsBy_36 : decode cX9_worldsBy 36 = .ok (.aload_n 0, 1) := by decide +kernel
theorem dX9_worldsBy_37 : decode cX9_worldsBy 37 = .ok (.getfield 31, 3) := by decide +kernel
theorem dX9_worldsBy_40 : decode cX9_worldsBy 40 = .ok (.iload 4, 2) := by decide +kernel
theorem dX9_worldsBy_42 : decode cX9_worldsBy 42 = .ok (.laload, 1) := by decide +kernel
theorem dX9_worldsBy_43 : decode cX9_worldsBy 43 = .ok (.aload_n 0, 1) := by decide +kernel
theorem dX9_worldsBy_44 : decode cX9_worldsBy 44 = .ok (.getfield 31, 3) := by decide +kernel
theorem dX9_worldsBy_47 : decode cX9_worldsBy 47 = .ok (.iload 6, 2) := by decide +kernel
theorem dX9_worldsBy_49 : decode cX9_worldsBy 49 = .ok (.laload, 1) := by decide +kernel
theorem dX9_worldsBy_50 : decode cX9_worldsBy 50 = .ok (.lcmp, 1) := by decide +kernel
theorem dX9_worldsBy_51 : decode cX9_worldsBy 51 = .ok (.ifCond .eq 7, 3) := by decide +kernel
theorem dX9_worldsBy_54 : decode cX9_worldsBy 54 = .ok (.iconst 1, 1) := by decide +kernel
theorem dX9_worldsBy_55 : decode cX9_worldsBy 55 = .ok (.goto 4, 3) := by decide +kernel
theorem dX9_worldsBy_58 : decode cX9_worldsBy 58 = .ok (.iconst 0, 1) := by decide +kernel
theorem dX9_worldsBy_59 : decode cX9_worldsBy 59 = .ok (.istore 5, 2) := by decide +kernel
theorem dX9_worldsBy_61 : decode cX9_worldsBy 61 = .ok (.iinc 6 1, 3) := by decide +kernel
theorem dX9_worldsBy_64 : decode cX9_worldsBy 64 = .ok (.goto (-40), 3) := by decide +kernel
theorem dX9_worldsBy_67 : decode cX9_worldsBy 67 = .ok (.iload_n 3, 1) := by decide +kernel
theorem dX9_worldsBy_68 : decode cX9_worldsBy 68 = .ok (.iload 5, 2) := by decide +kernel
theorem dX9_worldsBy_70 : decode cX9_worldsBy 70 = .ok (.ifCond .eq 7, 3) := by decide +kernel
theorem dX9_worldsBy_73 : decode cX9_worldsBy 73 = .ok (.iconst 1, 1) := by decide +kernel
theorem dX9_worldsBy_74 : decode cX9_worldsBy 74 = .ok (.goto 4, 3) := by decide +kernel
theorem dX9_worldsBy_77 : decode cX9_worldsBy 77 = .ok (.iconst 0, 1) := by decide +kernel
theorem dX9_worldsBy_78 : decode cX9_worldsBy 78 = .ok (.iadd, 1) := by decide +kernel
theorem dX9_worldsBy_79 : decode cX9_worldsBy 79 = .ok (.istore_n 3, 1) := by decide +kernel
theorem dX9_worldsBy_80 : decode cX9_worldsBy 80 = .ok (.iinc 4 1, 3) := by decide +kernel
theorem dX9_worldsBy_83 : decode cX9_worldsBy 83 = .ok (.goto (-72), 3) := by decide +kernel
theorem dX9_worldsBy_86 : decode cX9_worldsBy 86 = .ok (.iload_n 3, 1) := by decide +kernel
theorem dX9_worldsBy_87 : decode cX9_worldsBy 87 = .ok (.ireturn, 1) := by decide +kernel
theorem dX9_worlds_0 : decode cX9_worlds 0 = .ok (.iload_n 1, 1) := by decide +kernel
theorem dX9_worlds_1 : decode cX9_worlds 1 = .ok (.i2l, 1) := by decide +kernel
theorem dX9_worlds_2 : decode cX9_worlds 2 = .ok (.lconst 0, 1) := by decide +kernel
theorem dX9_worlds_3 : decode cX9_worlds 3 = .ok (.ldc2_w 160, 3) := by decide +kernel
theorem dX9_worlds_6 : decode cX9_worlds 6 = .ok (.invokestatic 60, 3) := by decide +kernel
theorem dX9_worlds_9 : decode cX9_worlds 9 = .ok (.ifCond .eq 14, 3) := by decide +kernel
theorem dX9_worlds_12 : decode cX9_worlds 12 = .ok (.aload_n 0, 1) := by decide +kernel
theorem dX9_worlds_13 : decode cX9_worlds 13 = .ok (.iload_n 1, 1) := by decide +kernel
theorem dX9_worlds_14 : decode cX9_worlds 14 = .ok (.sipush 511, 3) := by decide +kernel
theorem dX9_worlds_17 : decode cX9_worlds 17 = .ok (.invokevirtual 201, 3) := by decide +kernel
theorem dX9_worlds_20 : decode cX9_worlds 20 = .ok (.goto 5, 3) := by decide +kernel
theorem dX9_worlds_23 : decode cX9_worlds 23 = .ok (.bipush (-2), 2) := by decide +kernel
theorem dX9_worlds_25 : decode cX9_worlds 25 = .ok (.ireturn, 1) := by decide +kernel
theorem dX9_alike_0 : decode cX9_alike 0 = .ok (.iload_n 1, 1) := by decide +kernel
theorem dX9_alike_1 : decode cX9_alike 1 = .ok (.iload_n 2, 1) := by decide +kernel
theorem dX9_alike_2 : decode cX9_alike 2 = .ok (.iload_n 3, 1) := by decide +kernel
theorem dX9_alike_3 : decode cX9_alike 3 = .ok (.invokestatic 181, 3) := by decide +kernel
theorem dX9_alike_6 : decode cX9_alike 6 = .ok (.ifCond .ne 6, 3) := by decide +kernel
theorem dX9_alike_9 : decode cX9_alike 9 = .ok (.bipush (-2), 2) := by decide +kernel
theorem dX9_alike_11 : decode cX9_alike 11 = .ok (.ireturn, 1) := by decide +kernel
theorem dX9_alike_12 : decode cX9_alike 12 = .ok (.aload_n 0, 1) := by decide +kernel
theorem dX9_alike_13 : decode cX9_alike 13 = .ok (.iload_n 1, 1) := by decide +kernel
theorem dX9_alike_14 : decode cX9_alike 14 = .ok (.sipush 511, 3) := by decide +kernel
theorem dX9_alike_17 : decode cX9_alike 17 = .ok (.invokevirtual 195, 3) := by decide +kernel
theorem dX9_alike_20 : decode cX9_alike 20 = .ok (.iconst 0, 1) := by decide +kernel
theorem dX9_alike_21 : decode cX9_alike 21 = .ok (.istore 4, 2) := by decide +kernel
theorem dX9_alike_23 : decode cX9_alike 23 = .ok (.iconst 0, 1) := by decide +kernel
theorem dX9_alike_24 : decode cX9_alike 24 = .ok (.istore 5, 2) := by decide +kernel
theorem dX9_alike_26 : decode cX9_alike 26 = .ok (.iload 5, 2) := by decide +kernel
theorem dX9_alike_28 : decode cX9_alike 28 = .ok (.bipush 100, 2) := by decide +kernel
theorem dX9_alike_30 : decode cX9_alike 30 = .ok (.if_icmp .ge 41, 3) := by decide +kernel
theorem dX9_alike_33 : decode cX9_alike 33 = .ok (.iload 4, 2) := by decide +kernel
theorem dX9_alike_35 : decode cX9_alike 35 = .ok (.aload_n 0, 1) := by decide +kernel
theorem dX9_alike_36 : decode cX9_alike 36 = .ok (.getfield 31, 3) := by decide +kernel
theorem dX9_alike_39 : decode cX9_alike 39 = .ok (.iload 5, 2) := by decide +kernel
theorem dX9_alike_41 : decode cX9_alike 41 = .ok (.laload, 1) := by decide +kernel
theorem dX9_alike_42 : decode cX9_alike 42 = .ok (.aload_n 0, 1) := by decide +kernel
theorem dX9_alike_43 : decode cX9_alike 43 = .ok (.getfield 31, 3) := by decide +kernel
theorem dX9_alike_46 : decode cX9_alike 46 = .ok (.bipush 10, 2) := by decide +kernel
theorem dX9_alike_48 : decode cX9_alike 48 = .ok (.iload_n 2, 1) := by decide +kernel
theorem dX9_alike_49 : decode cX9_alike 49 = .ok (.imul, 1) := by decide +kernel
theorem dX9_alike_50 : decode cX9_alike 50 = .ok (.iload_n 3, 1) := by decide +kernel
theorem dX9_alike_51 : decode cX9_alike 51 = .ok (.iadd, 1) := by decide +kernel
theorem dX9_alike_52 : decode cX9_alike 52 = .ok (.laload, 1) := by decide +kernel
theorem dX9_alike_53 : decode cX9_alike 53 = .ok (.lcmp, 1) := by decide +kernel
theorem dX9_alike_54 : decode cX9_alike 54 = .ok (.ifCond .ne 7, 3) := by decide +kernel
theorem dX9_alike_57 : decode cX9_alike 57 = .ok (.iconst 1, 1) := by decide +kernel
theorem dX9_alike_58 : decode cX9_alike 58 = .ok (.goto 4, 3) := by decide +kernel
theorem dX9_alike_61 : decode cX9_alike 61 = .ok (.iconst 0, 1) := by decide +kernel
theorem dX9_alike_62 : decode cX9_alike 62 = .ok (.iadd, 1) := by decide +kernel
theorem dX9_alike_63 : decode cX9_alike 63 = .ok (.istore 4, 2) := by decide +kernel
theorem dX9_alike_65 : decode cX9_alike 65 = .ok (.iinc 5 1, 3) := by decide +kernel
theorem dX9_alike_68 : decode cX9_alike 68 = .ok (.goto (-42), 3) := by decide +kernel
theorem dX9_alike_71 : decode cX9_alike 71 = .ok (.iload 4, 2) := by decide +kernel
theorem dX9_alike_73 : decode cX9_alike 73 = .ok (.ireturn, 1) := by decide +kernel
theorem dX9_tryThing_0 : decode cX9_tryThing 0 = .ok (.iload_n 1, 1) := by decide +kernel
theorem dX9_tryThing_1 : decode cX9_tryThing 1 = .ok (.iconst 1, 1) := by decide +kernel
theorem dX9_tryThing_2 : decode cX9_tryThing 2 = .ok (.if_icmp .ne 63, 3) := by decide +kernel
theorem dX9_tryThing_5 : decode cX9_tryThing 5 = .ok (.iload_n 2, 1) := by decide +kernel
theorem dX9_tryThing_6 : decode cX9_tryThing 6 = .ok (.iconst 3, 1) := by decide +kernel
theorem dX9_tryThing_7 : decode cX9_tryThing 7 = .ok (.if_icmp .ge 17, 3) := by decide +kernel
theorem dX9_tryThing_10 : decode cX9_tryThing 10 = .ok (.iload_n 3, 1) := by decide +kernel
theorem dX9_tryThing_11 : decode cX9_tryThing 11 = .ok (.ifCond .ne 13, 3) := by decide +kernel
theorem dX9_tryThing_14 : decode cX9_tryThing 14 = .ok (.iload 4, 2) := by decide +kernel
theorem dX9_tryThing_16 : decode cX9_tryThing 16 = .ok (.iconst 4, 1) := by decide +kernel
theorem dX9_tryThing_17 : decode cX9_tryThing 17 = .ok (.if_icmp .ge 7, 3) := by decide +kernel
theorem dX9_tryThing_20 : decode cX9_tryThing 20 = .ok (.iconst 1, 1) := by decide +kernel
theorem dX9_tryThing_21 : decode cX9_tryThing 21 = .ok (.goto 4, 3) := by decide +kernel
theorem dX9_tryThing_24 : decode cX9_tryThing 24 = .ok (.iconst 0, 1) := by decide +kernel
theorem dX9_tryThing_25 : decode cX9_tryThing 25 = .ok (.istore 5, 2) := by decide +kernel
theorem dX9_tryThing_27 : decode cX9_tryThing 27 = .ok (.aload_n 0, 1) := by decide +kernel
theorem dX9_tryThing_28 : decode cX9_tryThing 28 = .ok (.getfield 7, 3) := by decide +kernel
theorem dX9_tryThing_31 : decode cX9_tryThing 31 = .ok (.bipush 93, 2) := by decide +kernel
theorem dX9_tryThing_33 : decode cX9_tryThing 33 = .ok (.iload 5, 2) := by decide +kernel
theorem dX9_tryThing_35 : decode cX9_tryThing 35 = .ok (.ifCond .eq 7, 3) := by decide +kernel
theorem dX9_tryThing_38 : decode cX9_tryThing 38 = .ok (.iload_n 2, 1) := by decide +kernel
theorem dX9_tryThing_39 : decode cX9_tryThing 39 = .ok (.goto 4, 3) := by decide +kernel
theorem dX9_tryThing_42 : decode cX9_tryThing 42 = .ok (.iconst 0, 1) := by decide +kernel
theorem dX9_tryThing_43 : decode cX9_tryThing 43 = .ok (.iadd, 1) := by decide +kernel
theorem dX9_tryThing_44 : decode cX9_tryThing 44 = .ok (.iload 5, 2) := by decide +kernel
theorem dX9_tryThing_46 : decode cX9_tryThing 46 = .ok (.ifCond .eq 8, 3) := by decide +kernel
theorem dX9_tryThing_49 : decode cX9_tryThing 49 = .ok (.iload 4, 2) := by decide +kernel
theorem dX9_tryThing_51 : decode cX9_tryThing 51 = .ok (.goto 10, 3) := by decide +kernel
theorem dX9_tryThing_54 : decode cX9_tryThing 54 = .ok (.aload_n 0, 1) := by decide +kernel
theorem dX9_tryThing_55 : decode cX9_tryThing 55 = .ok (.getfield 7, 3) := by decide +kernel
theorem dX9_tryThing_58 : decode cX9_tryThing 58 = .ok (.bipush 93, 2) := by decide +kernel
theorem dX9_tryThing_60 : decode cX9_tryThing 60 = .ok (.iaload, 1) := by decide +kernel
theorem dX9_tryThing_61 : decode cX9_tryThing 61 = .ok (.iastore, 1) := by decide +kernel
theorem dX9_tryThing_62 : decode cX9_tryThing 62 = .ok (.iload 5, 2) := by decide +kernel
theorem dX9_tryThing_64 : decode cX9_tryThing 64 = .ok (.ireturn, 1) := by decide +kernel
theorem dX9_tryThing_65 : decode cX9_tryThing 65 = .ok (.aload_n 0, 1) := by decide +kernel
theorem dX9_tryThing_66 : decode cX9_tryThing 66 = .ok (.iconst 1, 1) := by decide +kernel
theorem dX9_tryThing_67 : decode cX9_tryThing 67 = .ok (.invokevirtual 54, 3) := by decide +kernel
theorem dX9_tryThing_70 : decode cX9_tryThing 70 = .ok (.iload_n 1, 1) := by decide +kernel
theorem dX9_tryThing_71 : decode cX9_tryThing 71 = .ok (.tableswitch 239 2 7 #[37, 85, 125, 154, 189, 216], 37) := by decide +kernel
theorem dX9_tryThing_108 : decode cX9_tryThing 108 = .ok (.aload_n 0, 1) := by decide +kernel
theorem dX9_tryThing_109 : decode cX9_tryThing 109 = .ok (.iload_n 2, 1) := by decide +kernel
theorem dX9_tryThing_110 : decode cX9_tryThing 110 = .ok (.invokevirtual 111, 3) := by decide +kernel
theorem dX9_tryThing_113 : decode cX9_tryThing 113 = .ok (.ifCond .eq 41, 3) := by decide +kernel
theorem dX9_tryThing_116 : decode cX9_tryThing 116 = .ok (.aload_n 0, 1) := by decide +kernel
theorem dX9_tryThing_117 : decode cX9_tryThing 117 = .ok (.getfield 132, 3) := by decide +kernel
theorem dX9_tryThing_120 : decode cX9_tryThing 120 = .ok (.iload_n 2, 1) := by decide +kernel
theorem dX9_tryThing_121 : decode cX9_tryThing 121 = .ok (.invokestatic 118, 3) := by decide +kernel
theorem dX9_tryThing_124 : decode cX9_tryThing 124 = .ok (.ifCond .eq 30, 3) := by decide +kernel
theorem dX9_tryThing_127 : decode cX9_tryThing 127 = .ok (.aload_n 0, 1) := by decide +kernel
theorem dX9_tryThing_128 : decode cX9_tryThing 128 = .ok (.iload_n 3, 1) := by decide +kernel
theorem dX9_tryThing_129 : decode cX9_tryThing 129 = .ok (.invokevirtual 149, 3) := by decide +kernel
theorem dX9_tryThing_132 : decode cX9_tryThing 132 = .ok (.ifCond .eq 22, 3) := by decide +kernel
theorem dX9_tryThing_135 : decode cX9_tryThing 135 = .ok (.aload_n 0, 1) := by decide +kernel
theorem dX9_tryThing_136 : decode cX9_tryThing 136 = .ok (.getfield 16, 3) := by decide +kernel
theorem dX9_tryThing_139 : decode cX9_tryThing 139 = .ok (.iconst 5, 1) := by decide +kernel
theorem dX9_tryThing_140 : decode cX9_tryThing 140 = .ok (.iload_n 2, 1) := by decide +kernel
theorem dX9_tryThing_141 : decode cX9_tryThing 141 = .ok (.imul, 1) := by decide +kernel
theorem dX9_tryThing_142 : decode cX9_tryThing 142 = .ok (.iload_n 3, 1) := by decide +kernel
theorem dX9_tryThing_143 : decode cX9_tryThing 143 = .ok (.iadd, 1) := by decide +kernel
theorem dX9_tryThing_144 : decode cX9_tryThing 144 = .ok (.iaload, 1) := by decide +kernel
theorem dX9_tryThing_145 : decode cX9_tryThing 145 = .ok (.iload 4, 2) := by decide +kernel
theorem dX9_tryThing_147 : decode cX9_tryThing 147 = .ok (.if_icmp .ne 7, 3) := by decide +kernel
theorem dX9_tryThing_150 : decode cX9_tryThing 150 = .ok (.iconst 1, 1) := by decide +kernel
theorem dX9_tryThing_151 : decode cX9_tryThing 151 = .ok (.goto 4, 3) := by decide +kernel
theorem dX9_tryThing_154 : decode cX9_tryThing 154 = .ok (.iconst 0, 1) := by decide +kernel
theorem dX9_tryThing_155 : decode cX9_tryThing 155 = .ok (.ireturn, 1) := by decide +kernel
theorem dX9_tryThing_156 : decode cX9_tryThing 156 = .ok (.aload_n 0, 1) := by decide +kernel
theorem dX9_tryThing_157 : decode cX9_tryThing 157 = .ok (.iload_n 2, 1) := by decide +kernel
theorem dX9_tryThing_158 : decode cX9_tryThing 158 = .ok (.invokevirtual 111, 3) := by decide +kernel
theorem dX9_tryThing_161 : decode cX9_tryThing 161 = .ok (.ifCond .eq 33, 3) := by decide +kernel
theorem dX9_tryThing_164 : decode cX9_tryThing 164 = .ok (.aload_n 0, 1) := by decide +kernel
theorem dX9_tryThing_165 : decode cX9_tryThing 165 = .ok (.getfield 132, 3) := by decide +kernel
theorem dX9_tryThing_168 : decode cX9_tryThing 168 = .ok (.iload_n 2, 1) := by decide +kernel
theorem dX9_tryThing_169 : decode cX9_tryThing 169 = .ok (.invokestatic 118, 3) := by decide +kernel
theorem dX9_tryThing_172 : decode cX9_tryThing 172 = .ok (.ifCond .eq 22, 3) := by decide +kernel
theorem dX9_tryThing_175 : decode cX9_tryThing 175 = .ok (.iload_n 3, 1) := by decide +kernel
theorem dX9_tryThing_176 : decode cX9_tryThing 176 = .ok (.ifCond .ne 18, 3) := by decide +kernel
theorem dX9_tryThing_179 : decode cX9_tryThing 179 = .ok (.aload_n 0, 1) := by decide +kernel
theorem dX9_tryThing_180 : decode cX9_tryThing 180 = .ok (.getfield 19, 3) := by decide +kernel
theorem dX9_tryThing_183 : decode cX9_tryThing 183 = .ok (.iload_n 2, 1) := by decide +kernel
theorem dX9_tryThing_184 : decode cX9_tryThing 184 = .ok (.iaload, 1) := by decide +kernel
theorem dX9_tryThing_185 : decode cX9_tryThing 185 = .ok (.iload 4, 2) := by decide +kernel
theorem dX9_tryThing_187 : decode cX9_tryThing 187 = .ok (.if_icmp .ne 7, 3) := by decide +kernel
theorem dX9_tryThing_190 : decode cX9_tryThing 190 = .ok (.iconst 1, 1) := by decide +kernel
theorem dX9_tryThing_191 : decode cX9_tryThing 191 = .ok (.goto 4, 3) := by decide +kernel
theorem dX9_tryThing_194 : decode cX9_tryThing 194 = .ok (.iconst 0, 1) := by decide +kernel
theorem dX9_tryThing_195 : decode cX9_tryThing 195 = .ok (.ireturn, 1) := by decide +kernel
theorem dX9_tryThing_196 : decode cX9_tryThing 196 = .ok (.aload_n 0, 1) := by decide +kernel
theorem dX9_tryThing_197 : decode cX9_tryThing 197 = .ok (.iload_n 2, 1) := by decide +kernel
theorem dX9_tryThing_198 : decode cX9_tryThing 198 = .ok (.invokevirtual 111, 3) := by decide +kernel
theorem dX9_tryThing_201 : decode cX9_tryThing 201 = .ok (.ifCond .eq 22, 3) := by decide +kernel
theorem dX9_tryThing_204 : decode cX9_tryThing 204 = .ok (.iload_n 3, 1) := by decide +kernel
theorem dX9_tryThing_205 : decode cX9_tryThing 205 = .ok (.ifCond .ne 18, 3) := by decide +kernel
theorem dX9_tryThing_208 : decode cX9_tryThing 208 = .ok (.aload_n 0, 1) := by decide +kernel
theorem dX9_tryThing_209 : decode cX9_tryThing 209 = .ok (.iconst 1, 1) := by decide +kernel
theorem dX9_tryThing_210 : decode cX9_tryThing 210 = .ok (.iload_n 2, 1) := by decide +kernel
theorem dX9_tryThing_211 : decode cX9_tryThing 211 = .ok (.invokevirtual 129, 3) := by decide +kernel
theorem dX9_tryThing_214 : decode cX9_tryThing 214 = .ok (.iload 4, 2) := by decide +kernel
theorem dX9_tryThing_216 : decode cX9_tryThing 216 = .ok (.if_icmp .ne 7, 3) := by decide +kernel
theorem dX9_tryThing_219 : decode cX9_tryThing 219 = .ok (.iconst 1, 1) := by decide +kernel
theorem dX9_tryThing_220 : decode cX9_tryThing 220 = .ok (.goto 4, 3) := by decide +kernel
theorem dX9_tryThing_223 : decode cX9_tryThing 223 = .ok (.iconst 0, 1) := by decide +kernel
theorem dX9_tryThing_224 : decode cX9_tryThing 224 = .ok (.ireturn, 1) := by decide +kernel
theorem dX9_tryThing_225 : decode cX9_tryThing 225 = .ok (.aload_n 0, 1) := by decide +kernel
theorem dX9_tryThing_226 : decode cX9_tryThing 226 = .ok (.iload_n 2, 1) := by decide +kernel
theorem dX9_tryThing_227 : decode cX9_tryThing 227 = .ok (.invokevirtual 111, 3) := by decide +kernel
theorem dX9_tryThing_230 : decode cX9_tryThing 230 = .ok (.ifCond .eq 28, 3) := by decide +kernel
theorem dX9_tryThing_233 : decode cX9_tryThing 233 = .ok (.iload_n 3, 1) := by decide +kernel
theorem dX9_tryThing_234 : decode cX9_tryThing 234 = .ok (.ifCond .ne 24, 3) := by decide +kernel
theorem dX9_tryThing_237 : decode cX9_tryThing 237 = .ok (.iload 4, 2) := by decide +kernel
theorem dX9_tryThing_239 : decode cX9_tryThing 239 = .ok (.ifCond .ne 19, 3) := by decide +kernel
theorem dX9_tryThing_242 : decode cX9_tryThing 242 = .ok (.aload_n 0, 1) := by decide +kernel
theorem dX9_tryThing_243 : decode cX9_tryThing 243 = .ok (.iconst 1, 1) := by decide +kernel
theorem dX9_tryThing_244 : decode cX9_tryThing 244 = .ok (.invokevirtual 152, 3) := by decide +kernel
theorem dX9_tryThing_247 : decode cX9_tryThing 247 = .ok (.iload_n 2, 1) := by decide +kernel
theorem dX9_tryThing_248 : decode cX9_tryThing 248 = .ok (.invokestatic 118, 3) := by decide +kernel
theorem dX9_tryThing_251 : decode cX9_tryThing 251 = .ok (.ifCond .eq 7, 3) := by decide +kernel
theorem dX9_tryThing_254 : decode cX9_tryThing 254 = .ok (.iconst 1, 1) := by decide +kernel
theorem dX9_tryThing_255 : decode cX9_tryThing 255 = .ok (.goto 4, 3) := by decide +kernel
theorem dX9_tryThing_258 : decode cX9_tryThing 258 = .ok (.iconst 0, 1) := by decide +kernel
theorem dX9_tryThing_259 : decode cX9_tryThing 259 = .ok (.ireturn, 1) := by decide +kernel
theorem dX9_tryThing_260 : decode cX9_tryThing 260 = .ok (.iload_n 2, 1) := by decide +kernel
theorem dX9_tryThing_261 : decode cX9_tryThing 261 = .ok (.ifCond .ne 24, 3) := by decide +kernel
theorem dX9_tryThing_264 : decode cX9_tryThing 264 = .ok (.iload_n 3, 1) := by decide +kernel
theorem dX9_tryThing_265 : decode cX9_tryThing 265 = .ok (.ifCond .ne 20, 3) := by decide +kernel
theorem dX9_tryThing_268 : decode cX9_tryThing 268 = .ok (.iload 4, 2) := by decide +kernel
theorem dX9_tryThing_270 : decode cX9_tryThing 270 = .ok (.ifCond .ne 15, 3) := by decide +kernel
theorem dX9_tryThing_273 : decode cX9_tryThing 273 = .ok (.aload_n 0, 1) := by decide +kernel
theorem dX9_tryThing_274 : decode cX9_tryThing 274 = .ok (.iconst 1, 1) := by decide +kernel
theorem dX9_tryThing_275 : decode cX9_tryThing 275 = .ok (.invokevirtual 152, 3) := by decide +kernel
theorem dX9_tryThing_278 : decode cX9_tryThing 278 = .ok (.ifCond .ne 7, 3) := by decide +kernel
theorem dX9_tryThing_281 : decode cX9_tryThing 281 = .ok (.iconst 1, 1) := by decide +kernel
theorem dX9_tryThing_282 : decode cX9_tryThing 282 = .ok (.goto 4, 3) := by decide +kernel
theorem dX9_tryThing_285 : decode cX9_tryThing 285 = .ok (.iconst 0, 1) := by decide +kernel
theorem dX9_tryThing_286 : decode cX9_tryThing 286 = .ok (.ireturn, 1) := by decide +kernel
theorem dX9_tryThing_287 : decode cX9_tryThing 287 = .ok (.iload_n 3, 1) := by decide +kernel
theorem dX9_tryThing_288 : decode cX9_tryThing 288 = .ok (.ifCond .ne 20, 3) := by decide +kernel
theorem dX9_tryThing_291 : decode cX9_tryThing 291 = .ok (.aload_n 0, 1) := by decide +kernel
theorem dX9_tryThing_292 : decode cX9_tryThing 292 = .ok (.iload_n 2, 1) := by decide +kernel
theorem dX9_tryThing_293 : decode cX9_tryThing 293 = .ok (.sipush 511, 3) := by decide +kernel
theorem dX9_tryThing_296 : decode cX9_tryThing 296 = .ok (.invokevirtual 201, 3) := by decide +kernel
theorem dX9_tryThing_299 : decode cX9_tryThing 299 = .ok (.iload 4, 2) := by decide +kernel
theorem dX9_tryThing_301 : decode cX9_tryThing 301 = .ok (.if_icmp .lt 7, 3) := by decide +kernel
theorem dX9_tryThing_304 : decode cX9_tryThing 304 = .ok (.iconst 1, 1) := by decide +kernel
theorem dX9_tryThing_305 : decode cX9_tryThing 305 = .ok (.goto 4, 3) := by decide +kernel
theorem dX9_tryThing_308 : decode cX9_tryThing 308 = .ok (.iconst 0, 1) := by decide +kernel
theorem dX9_tryThing_309 : decode cX9_tryThing 309 = .ok (.ireturn, 1) := by decide +kernel
theorem dX9_tryThing_310 : decode cX9_tryThing 310 = .ok (.iconst 0, 1) := by decide +kernel
theorem dX9_tryThing_311 : decode cX9_tryThing 311 = .ok (.ireturn, 1) := by decide +kernel
theorem dX9_tenThousandTo_0 : decode cX9_tenThousandTo 0 = .ok (.lconst 1, 1) := by decide +kernel
theorem dX9_tenThousandTo_1 : decode cX9_tenThousandTo 1 = .ok (.lstore_n 1, 1) := by decide +kernel
theorem dX9_tenThousandTo_2 : decode cX9_tenThousandTo 2 = .ok (.iconst 0, 1) := by decide +kernel
theorem dX9_tenThousandTo_3 : decode cX9_tenThousandTo 3 = .ok (.istore_n 3, 1) := by decide +kernel
theorem dX9_tenThousandTo_4 : decode cX9_tenThousandTo 4 = .ok (.iload_n 3, 1) := by decide +kernel
theorem dX9_tenThousandTo_5 : decode cX9_tenThousandTo 5 = .ok (.iload_n 0, 1) := by decide +kernel
theorem dX9_tenThousandTo_6 : decode cX9_tenThousandTo 6 = .ok (.if_icmp .ge 15, 3) := by decide +kernel
theorem dX9_tenThousandTo_9 : decode cX9_tenThousandTo 9 = .ok (.lload_n 1, 1) := by decide +kernel
theorem dX9_tenThousandTo_10 : decode cX9_tenThousandTo 10 = .ok (.ldc2_w 204, 3) := by decide +kernel
theorem dX9_tenThousandTo_13 : decode cX9_tenThousandTo 13 = .ok (.lmul, 1) := by decide +kernel
theorem dX9_tenThousandTo_14 : decode cX9_tenThousandTo 14 = .ok (.lstore_n 1, 1) := by decide +kernel
theorem dX9_tenThousandTo_15 : decode cX9_tenThousandTo 15 = .ok (.iinc 3 1, 3) := by decide +kernel
theorem dX9_tenThousandTo_18 : decode cX9_tenThousandTo 18 = .ok (.goto (-14), 3) := by decide +kernel
theorem dX9_tenThousandTo_21 : decode cX9_tenThousandTo 21 = .ok (.lload_n 1, 1) := by decide +kernel
theorem dX9_tenThousandTo_22 : decode cX9_tenThousandTo 22 = .ok (.lreturn, 1) := by decide +kernel
theorem dX9_judge_0 : decode cX9_judge 0 = .ok (.iload_n 1, 1) := by decide +kernel
theorem dX9_judge_1 : decode cX9_judge 1 = .ok (.i2l, 1) := by decide +kernel
theorem dX9_judge_2 : decode cX9_judge 2 = .ok (.lconst 1, 1) := by decide +kernel
theorem dX9_judge_3 : decode cX9_judge 3 = .ok (.ldc2_w 70, 3) := by decide +kernel
theorem dX9_judge_6 : decode cX9_judge 6 = .ok (.invokestatic 60, 3) := by decide +kernel
theorem dX9_judge_9 : decode cX9_judge 9 = .ok (.ifCond .eq 17, 3) := by decide +kernel
theorem dX9_judge_12 : decode cX9_judge 12 = .ok (.lload_n 2, 1) := by decide +kernel
theorem dX9_judge_13 : decode cX9_judge 13 = .ok (.lconst 0, 1) := by decide +kernel
theorem dX9_judge_14 : decode cX9_judge 14 = .ok (.iload_n 1, 1) := by decide +kernel
theorem dX9_judge_15 : decode cX9_judge 15 = .ok (.invokestatic 206, 3) := by decide +kernel
theorem dX9_judge_18 : decode cX9_judge 18 = .ok (.lconst 1, 1) := by decide +kernel
theorem dX9_judge_19 : decode cX9_judge 19 = .ok (.lsub, 1) := by decide +kernel
theorem dX9_judge_20 : decode cX9_judge 20 = .ok (.invokestatic 60, 3) := by decide +kernel
theorem dX9_judge_23 : decode cX9_judge 23 = .ok (.ifCond .ne 6, 3) := by decide +kernel
theorem dX9_judge_26 : decode cX9_judge 26 = .ok (.bipush (-2), 2) := by decide +kernel
theorem dX9_judge_28 : decode cX9_judge 28 = .ok (.ireturn, 1) := by decide +kernel
theorem dX9_judge_29 : decode cX9_judge 29 = .ok (.iconst 0, 1) := by decide +kernel
theorem dX9_judge_30 : decode cX9_judge 30 = .ok (.istore 4, 2) := by decide +kernel
theorem dX9_judge_32 : decode cX9_judge 32 = .ok (.iload 4, 2) := by decide +kernel
theorem dX9_judge_34 : decode cX9_judge 34 = .ok (.bipush 48, 2) := by decide +kernel
theorem dX9_judge_36 : decode cX9_judge 36 = .ok (.if_icmp .ge 26, 3) := by decide +kernel
theorem dX9_judge_39 : decode cX9_judge 39 = .ok (.aload_n 0, 1) := by decide +kernel
theorem dX9_judge_40 : decode cX9_judge 40 = .ok (.getfield 7, 3) := by decide +kernel
theorem dX9_judge_43 : decode cX9_judge 43 = .ok (.bipush 48, 2) := by decide +kernel
theorem dX9_judge_45 : decode cX9_judge 45 = .ok (.iload 4, 2) := by decide +kernel
theorem dX9_judge_47 : decode cX9_judge 47 = .ok (.iadd, 1) := by decide +kernel
theorem dX9_judge_48 : decode cX9_judge 48 = .ok (.aload_n 0, 1) := by decide +kernel
theorem dX9_judge_49 : decode cX9_judge 49 = .ok (.getfield 7, 3) := by decide +kernel
theorem dX9_judge_52 : decode cX9_judge 52 = .ok (.iload 4, 2) := by decide +kernel
theorem dX9_judge_54 : decode cX9_judge 54 = .ok (.iaload, 1) := by decide +kernel
theorem dX9_judge_55 : decode cX9_judge 55 = .ok (.iastore, 1) := by decide +kernel
theorem dX9_judge_56 : decode cX9_judge 56 = .ok (.iinc 4 1, 3) := by decide +kernel
theorem dX9_judge_59 : decode cX9_judge 59 = .ok (.goto (-27), 3) := by decide +kernel
theorem dX9_judge_62 : decode cX9_judge 62 = .ok (.iconst 0, 1) := by decide +kernel
theorem dX9_judge_63 : decode cX9_judge 63 = .ok (.istore 4, 2) := by decide +kernel
theorem dX9_judge_65 : decode cX9_judge 65 = .ok (.iload 4, 2) := by decide +kernel
theorem dX9_judge_67 : decode cX9_judge 67 = .ok (.iload_n 1, 1) := by decide +kernel
theorem dX9_judge_68 : decode cX9_judge 68 = .ok (.if_icmp .ge 64, 3) := by decide +kernel
theorem dX9_judge_71 : decode cX9_judge 71 = .ok (.lload_n 2, 1) := by decide +kernel
theorem dX9_judge_72 : decode cX9_judge 72 = .ok (.iload_n 1, 1) := by decide +kernel
theorem dX9_judge_73 : decode cX9_judge 73 = .ok (.iconst 1, 1) := by decide +kernel
theorem dX9_judge_74 : decode cX9_judge 74 = .ok (.isub, 1) := by decide +kernel
theorem dX9_judge_75 : decode cX9_judge 75 = .ok (.iload 4, 2) := by decide +kernel
theorem dX9_judge_77 : decode cX9_judge 77 = .ok (.isub, 1) := by decide +kernel
theorem dX9_judge_78 : decode cX9_judge 78 = .ok (.invokestatic 206, 3) := by decide +kernel
theorem dX9_judge_81 : decode cX9_judge 81 = .ok (.ldiv, 1) := by decide +kernel
theorem dX9_judge_82 : decode cX9_judge 82 = .ok (.ldc2_w 204, 3) := by decide +kernel
theorem dX9_judge_85 : decode cX9_judge 85 = .ok (.lrem, 1) := by decide +kernel
theorem dX9_judge_86 : decode cX9_judge 86 = .ok (.l2i, 1) := by decide +kernel
theorem dX9_judge_87 : decode cX9_judge 87 = .ok (.istore 5, 2) := by decide +kernel
theorem dX9_judge_89 : decode cX9_judge 89 = .ok (.aload_n 0, 1) := by decide +kernel
theorem dX9_judge_90 : decode cX9_judge 90 = .ok (.iload 5, 2) := by decide +kernel
theorem dX9_judge_92 : decode cX9_judge 92 = .ok (.sipush 1000, 3) := by decide +kernel
theorem dX9_judge_95 : decode cX9_judge 95 = .ok (.idiv, 1) := by decide +kernel
theorem dX9_judge_96 : decode cX9_judge 96 = .ok (.iload 5, 2) := by decide +kernel
theorem dX9_judge_98 : decode cX9_judge 98 = .ok (.bipush 100, 2) := by decide +kernel
theorem dX9_judge_100 : decode cX9_judge 100 = .ok (.idiv, 1) := by decide +kernel
theorem dX9_judge_101 : decode cX9_judge 101 = .ok (.bipush 10, 2) := by decide +kernel
theorem dX9_judge_103 : decode cX9_judge 103 = .ok (.irem, 1) := by decide +kernel
theorem dX9_judge_104 : decode cX9_judge 104 = .ok (.iload 5, 2) := by decide +kernel
theorem dX9_judge_106 : decode cX9_judge 106 = .ok (.bipush 10, 2) := by decide +kernel
theorem dX9_judge_108 : decode cX9_judge 108 = .ok (.idiv, 1) := by decide +kernel
theorem dX9_judge_109 : decode cX9_judge 109 = .ok (.bipush 10, 2) := by decide +kernel
theorem dX9_judge_111 : decode cX9_judge 111 = .ok (.irem, 1) := by decide +kernel
theorem dX9_judge_112 : decode cX9_judge 112 = .ok (.iload 5, 2) := by decide +kernel
theorem dX9_judge_114 : decode cX9_judge 114 = .ok (.bipush 10, 2) := by decide +kernel
theorem dX9_judge_116 : decode cX9_judge 116 = .ok (.irem, 1) := by decide +kernel
theorem dX9_judge_117 : decode cX9_judge 117 = .ok (.invokevirtual 210, 3) := by decide +kernel
theorem dX9_judge_120 : decode cX9_judge 120 = .ok (.ifCond .ne 6, 3) := by decide +kernel
theorem dX9_judge_123 : decode cX9_judge 123 = .ok (.iload 4, 2) := by decide +kernel
theorem dX9_judge_125 : decode cX9_judge 125 = .ok (.ireturn, 1) := by decide +kernel
theorem dX9_judge_126 : decode cX9_judge 126 = .ok (.iinc 4 1, 3) := by decide +kernel
theorem dX9_judge_129 : decode cX9_judge 129 = .ok (.goto (-64), 3) := by decide +kernel
theorem dX9_judge_132 : decode cX9_judge 132 = .ok (.bipush (-9), 2) := by decide +kernel
theorem dX9_judge_134 : decode cX9_judge 134 = .ok (.ireturn, 1) := by decide +kernel
theorem dX9_hear_0 : decode cX9_hear 0 = .ok (.iload_n 1, 1) := by decide +kernel
theorem dX9_hear_1 : decode cX9_hear 1 = .ok (.i2l, 1) := by decide +kernel
theorem dX9_hear_2 : decode cX9_hear 2 = .ok (.lconst 0, 1) := by decide +kernel
theorem dX9_hear_3 : decode cX9_hear 3 = .ok (.ldc2_w 160, 3) := by decide +kernel
theorem dX9_hear_6 : decode cX9_hear 6 = .ok (.invokestatic 60, 3) := by decide +kernel
theorem dX9_hear_9 : decode cX9_hear 9 = .ok (.ifCond .eq 38, 3) := by decide +kernel
theorem dX9_hear_12 : decode cX9_hear 12 = .ok (.iload_n 2, 1) := by decide +kernel
theorem dX9_hear_13 : decode cX9_hear 13 = .ok (.i2l, 1) := by decide +kernel
theorem dX9_hear_14 : decode cX9_hear 14 = .ok (.lconst 0, 1) := by decide +kernel
theorem dX9_hear_15 : decode cX9_hear 15 = .ok (.ldc2_w 213, 3) := by decide +kernel
theorem dX9_hear_18 : decode cX9_hear 18 = .ok (.invokestatic 60, 3) := by decide +kernel
theorem dX9_hear_21 : decode cX9_hear 21 = .ok (.ifCond .eq 26, 3) := by decide +kernel
theorem dX9_hear_24 : decode cX9_hear 24 = .ok (.iload_n 3, 1) := by decide +kernel
theorem dX9_hear_25 : decode cX9_hear 25 = .ok (.i2l, 1) := by decide +kernel
theorem dX9_hear_26 : decode cX9_hear 26 = .ok (.lconst 0, 1) := by decide +kernel
theorem dX9_hear_27 : decode cX9_hear 27 = .ok (.ldc2_w 160, 3) := by decide +kernel
theorem dX9_hear_30 : decode cX9_hear 30 = .ok (.invokestatic 60, 3) := by decide +kernel
theorem dX9_hear_33 : decode cX9_hear 33 = .ok (.ifCond .eq 14, 3) := by decide +kernel
theorem dX9_hear_36 : decode cX9_hear 36 = .ok (.iload 4, 2) := by decide +kernel
theorem dX9_hear_38 : decode cX9_hear 38 = .ok (.i2l, 1) := by decide +kernel
theorem dX9_hear_39 : decode cX9_hear 39 = .ok (.lconst 0, 1) := by decide +kernel
theorem dX9_hear_40 : decode cX9_hear 40 = .ok (.lconst 1, 1) := by decide +kernel
theorem dX9_hear_41 : decode cX9_hear 41 = .ok (.invokestatic 60, 3) := by decide +kernel
theorem dX9_hear_44 : decode cX9_hear 44 = .ok (.ifCond .ne 6, 3) := by decide +kernel
theorem dX9_hear_47 : decode cX9_hear 47 = .ok (.bipush (-2), 2) := by decide +kernel
theorem dX9_hear_49 : decode cX9_hear 49 = .ok (.ireturn, 1) := by decide +kernel
theorem dX9_hear_50 : decode cX9_hear 50 = .ok (.aload_n 0, 1) := by decide +kernel
theorem dX9_hear_51 : decode cX9_hear 51 = .ok (.getfield 215, 3) := by decide +kernel
theorem dX9_hear_54 : decode cX9_hear 54 = .ok (.bipush 6, 2) := by decide +kernel
theorem dX9_hear_56 : decode cX9_hear 56 = .ok (.if_icmp .ne 6, 3) := by decide +kernel
theorem dX9_hear_59 : decode cX9_hear 59 = .ok (.bipush (-4), 2) := by decide +kernel
theorem dX9_hear_61 : decode cX9_hear 61 = .ok (.ireturn, 1) := by decide +kernel
theorem dX9_hear_62 : decode cX9_hear 62 = .ok (.aload_n 0, 1) := by decide +kernel
theorem dX9_hear_63 : decode cX9_hear 63 = .ok (.getfield 35, 3) := by decide +kernel
theorem dX9_hear_66 : decode cX9_hear 66 = .ok (.aload_n 0, 1) := by decide +kernel
theorem dX9_hear_67 : decode cX9_hear 67 = .ok (.getfield 215, 3) := by decide +kernel
theorem dX9_hear_70 : decode cX9_hear 70 = .ok (.iload_n 1, 1) := by decide +kernel
theorem dX9_hear_71 : decode cX9_hear 71 = .ok (.iastore, 1) := by decide +kernel
theorem dX9_hear_72 : decode cX9_hear 72 = .ok (.aload_n 0, 1) := by decide +kernel
theorem dX9_hear_73 : decode cX9_hear 73 = .ok (.getfield 38, 3) := by decide +kernel
theorem dX9_hear_76 : decode cX9_hear 76 = .ok (.aload_n 0, 1) := by decide +kernel
theorem dX9_hear_77 : decode cX9_hear 77 = .ok (.getfield 215, 3) := by decide +kernel
theorem dX9_hear_80 : decode cX9_hear 80 = .ok (.iload_n 2, 1) := by decide +kernel
theorem dX9_hear_81 : decode cX9_hear 81 = .ok (.iastore, 1) := by decide +kernel
theorem dX9_hear_82 : decode cX9_hear 82 = .ok (.aload_n 0, 1) := by decide +kernel
theorem dX9_hear_83 : decode cX9_hear 83 = .ok (.getfield 41, 3) := by decide +kernel
theorem dX9_hear_86 : decode cX9_hear 86 = .ok (.aload_n 0, 1) := by decide +kernel
theorem dX9_hear_87 : decode cX9_hear 87 = .ok (.getfield 215, 3) := by decide +kernel
theorem dX9_hear_90 : decode cX9_hear 90 = .ok (.iload_n 3, 1) := by decide +kernel
theorem dX9_hear_91 : decode cX9_hear 91 = .ok (.iastore, 1) := by decide +kernel
theorem dX9_hear_92 : decode cX9_hear 92 = .ok (.aload_n 0, 1) := by decide +kernel
theorem dX9_hear_93 : decode cX9_hear 93 = .ok (.getfield 44, 3) := by decide +kernel
theorem dX9_hear_96 : decode cX9_hear 96 = .ok (.aload_n 0, 1) := by decide +kernel
theorem dX9_hear_97 : decode cX9_hear 97 = .ok (.getfield 215, 3) := by decide +kernel
theorem dX9_hear_100 : decode cX9_hear 100 = .ok (.iload 4, 2) := by decide +kernel
theorem dX9_hear_102 : decode cX9_hear 102 = .ok (.iastore, 1) := by decide +kernel
theorem dX9_hear_103 : decode cX9_hear 103 = .ok (.aload_n 0, 1) := by decide +kernel
theorem dX9_hear_104 : decode cX9_hear 104 = .ok (.dup, 1) := by decide +kernel
theorem dX9_hear_105 : decode cX9_hear 105 = .ok (.getfield 215, 3) := by decide +kernel
theorem dX9_hear_108 : decode cX9_hear 108 = .ok (.iconst 1, 1) := by decide +kernel
theorem dX9_hear_109 : decode cX9_hear 109 = .ok (.iadd, 1) := by decide +kernel
theorem dX9_hear_110 : decode cX9_hear 110 = .ok (.putfield 215, 3) := by decide +kernel
theorem dX9_hear_113 : decode cX9_hear 113 = .ok (.aload_n 0, 1) := by decide +kernel
theorem dX9_hear_114 : decode cX9_hear 114 = .ok (.getfield 215, 3) := by decide +kernel
theorem dX9_hear_117 : decode cX9_hear 117 = .ok (.ireturn, 1) := by decide +kernel
theorem dX9_unhear_0 : decode cX9_unhear 0 = .ok (.aload_n 0, 1) := by decide +kernel
theorem dX9_unhear_1 : decode cX9_unhear 1 = .ok (.getfield 215, 3) := by decide +kernel
theorem dX9_unhear_4 : decode cX9_unhear 4 = .ok (.istore_n 1, 1) := by decide +kernel
theorem dX9_unhear_5 : decode cX9_unhear 5 = .ok (.aload_n 0, 1) := by decide +kernel
theorem dX9_unhear_6 : decode cX9_unhear 6 = .ok (.iconst 0, 1) := by decide +kernel
theorem dX9_unhear_7 : decode cX9_unhear 7 = .ok (.putfield 215, 3) := by decide +kernel
theorem dX9_unhear_10 : decode cX9_unhear 10 = .ok (.iload_n 1, 1) := by decide +kernel
theorem dX9_unhear_11 : decode cX9_unhear 11 = .ok (.ireturn, 1) := by decide +kernel
theorem dX9_secrets_0 : decode cX9_secrets 0 = .ok (.iload_n 1, 1) := by decide +kernel
theorem dX9_secrets_1 : decode cX9_secrets 1 = .ok (.i2l, 1) := by decide +kernel
theorem dX9_secrets_2 : decode cX9_secrets 2 = .ok (.lconst 0, 1) := by decide +kernel
theorem dX9_secrets_3 : decode cX9_secrets 3 = .ok (.lconst 1, 1) := by decide +kernel
theorem dX9_secrets_4 : decode cX9_secrets 4 = .ok (.invokestatic 60, 3) := by decide +kernel
theorem dX9_secrets_7 : decode cX9_secrets 7 = .ok (.ifCond .ne 6, 3) := by decide +kernel
theorem dX9_secrets_10 : decode cX9_secrets 10 = .ok (.bipush (-2), 2) := by decide +kernel
theorem dX9_secrets_12 : decode cX9_secrets 12 = .ok (.ireturn, 1) := by decide +kernel
theorem dX9_secrets_13 : decode cX9_secrets 13 = .ok (.iconst 0, 1) := by decide +kernel
theorem dX9_secrets_14 : decode cX9_secrets 14 = .ok (.istore_n 2, 1) := by decide +kernel
theorem dX9_secrets_15 : decode cX9_secrets 15 = .ok (.bipush (-9), 2) := by decide +kernel
theorem dX9_secrets_17 : decode cX9_secrets 17 = .ok (.istore_n 3, 1) := by decide +kernel
theorem dX9_secrets_18 : decode cX9_secrets 18 = .ok (.iconst 0, 1) := by decide +kernel
theorem dX9_secrets_19 : decode cX9_secrets 19 = .ok (.istore 4, 2) := by decide +kernel
theorem dX9_secrets_21 : decode cX9_secrets 21 = .ok (.iload 4, 2) := by decide +kernel
theorem dX9_secrets_23 : decode cX9_secrets 23 = .ok (.bipush 100, 2) := by decide +kernel
theorem dX9_secrets_25 : decode cX9_secrets 25 = .ok (.if_icmp .ge 137, 3) := by decide +kernel
theorem dX9_secrets_28 : decode cX9_secrets 28 = .ok (.iconst 1, 1) := by decide +kernel
theorem dX9_secrets_29 : decode cX9_secrets 29 = .ok (.istore 5, 2) := by decide +kernel
theorem dX9_secrets_31 : decode cX9_secrets 31 = .ok (.iconst 0, 1) := by decide +kernel
theorem dX9_secrets_32 : decode cX9_secrets 32 = .ok (.istore 6, 2) := by decide +kernel
theorem dX9_secrets_34 : decode cX9_secrets 34 = .ok (.iload 6, 2) := by decide +kernel
theorem dX9_secrets_36 : decode cX9_secrets 36 = .ok (.aload_n 0, 1) := by decide +kernel
theorem dX9_secrets_37 : decode cX9_secrets 37 = .ok (.getfield 215, 3) := by decide +kernel
theorem dX9_secrets_40 : decode cX9_secrets 40 = .ok (.if_icmp .ge 87, 3) := by decide +kernel
theorem dX9_secrets_43 : decode cX9_secrets 43 = .ok (.aload_n 0, 1) := by decide +kernel
theorem dX9_secrets_44 : decode cX9_secrets 44 = .ok (.aload_n 0, 1) := by decide +kernel
theorem dX9_secrets_45 : decode cX9_secrets 45 = .ok (.getfield 35, 3) := by decide +kernel
theorem dX9_secrets_48 : decode cX9_secrets 48 = .ok (.iload 6, 2) := by decide +kernel
theorem dX9_secrets_50 : decode cX9_secrets 50 = .ok (.iaload, 1) := by decide +kernel
theorem dX9_secrets_51 : decode cX9_secrets 51 = .ok (.iload 4, 2) := by decide +kernel
theorem dX9_secrets_53 : decode cX9_secrets 53 = .ok (.bipush 10, 2) := by decide +kernel
theorem dX9_secrets_55 : decode cX9_secrets 55 = .ok (.idiv, 1) := by decide +kernel
theorem dX9_secrets_56 : decode cX9_secrets 56 = .ok (.iload 4, 2) := by decide +kernel
theorem dX9_secrets_58 : decode cX9_secrets 58 = .ok (.bipush 10, 2) := by decide +kernel
theorem dX9_secrets_60 : decode cX9_secrets 60 = .ok (.irem, 1) := by decide +kernel
theorem dX9_secrets_61 : decode cX9_secrets 61 = .ok (.aload_n 0, 1) := by decide +kernel
theorem dX9_secrets_62 : decode cX9_secrets 62 = .ok (.getfield 38, 3) := by decide +kernel
theorem dX9_secrets_65 : decode cX9_secrets 65 = .ok (.iload 6, 2) := by decide +kernel
theorem dX9_secrets_67 : decode cX9_secrets 67 = .ok (.iaload, 1) := by decide +kernel
theorem dX9_secrets_68 : decode cX9_secrets 68 = .ok (.invokevirtual 191, 3) := by decide +kernel
theorem dX9_secrets_71 : decode cX9_secrets 71 = .ok (.aload_n 0, 1) := by decide +kernel
theorem dX9_secrets_72 : decode cX9_secrets 72 = .ok (.getfield 41, 3) := by decide +kernel
theorem dX9_secrets_75 : decode cX9_secrets 75 = .ok (.iload 6, 2) := by decide +kernel
theorem dX9_secrets_77 : decode cX9_secrets 77 = .ok (.iaload, 1) := by decide +kernel
theorem dX9_secrets_78 : decode cX9_secrets 78 = .ok (.if_icmp .ne 7, 3) := by decide +kernel
theorem dX9_secrets_81 : decode cX9_secrets 81 = .ok (.iconst 1, 1) := by decide +kernel
theorem dX9_secrets_82 : decode cX9_secrets 82 = .ok (.goto 4, 3) := by decide +kernel
theorem dX9_secrets_85 : decode cX9_secrets 85 = .ok (.iconst 0, 1) := by decide +kernel
theorem dX9_secrets_86 : decode cX9_secrets 86 = .ok (.istore 7, 2) := by decide +kernel
theorem dX9_secrets_88 : decode cX9_secrets 88 = .ok (.iload 5, 2) := by decide +kernel
theorem dX9_secrets_90 : decode cX9_secrets 90 = .ok (.ifCond .eq 28, 3) := by decide +kernel
theorem dX9_secrets_93 : decode cX9_secrets 93 = .ok (.iload 7, 2) := by decide +kernel
theorem dX9_secrets_95 : decode cX9_secrets 95 = .ok (.aload_n 0, 1) := by decide +kernel
theorem dX9_secrets_96 : decode cX9_secrets 96 = .ok (.getfield 44, 3) := by decide +kernel
theorem dX9_secrets_99 : decode cX9_secrets 99 = .ok (.iload 6, 2) := by decide +kernel
theorem dX9_secrets_101 : decode cX9_secrets 101 = .ok (.iaload, 1) := by decide +kernel
theorem dX9_secrets_102 : decode cX9_secrets 102 = .ok (.iconst 1, 1) := by decide +kernel
theorem dX9_secrets_103 : decode cX9_secrets 103 = .ok (.if_icmp .ne 7, 3) := by decide +kernel
theorem dX9_secrets_106 : decode cX9_secrets 106 = .ok (.iconst 1, 1) := by decide +kernel
theorem dX9_secrets_107 : decode cX9_secrets 107 = .ok (.goto 4, 3) := by decide +kernel
theorem dX9_secrets_110 : decode cX9_secrets 110 = .ok (.iconst 0, 1) := by decide +kernel
theorem dX9_secrets_111 : decode cX9_secrets 111 = .ok (.if_icmp .ne 7, 3) := by decide +kernel
theorem dX9_secrets_114 : decode cX9_secrets 114 = .ok (.iconst 1, 1) := by decide +kernel
theorem dX9_secrets_115 : decode cX9_secrets 115 = .ok (.goto 4, 3) := by decide +kernel
theorem dX9_secrets_118 : decode cX9_secrets 118 = .ok (.iconst 0, 1) := by decide +kernel
theorem dX9_secrets_119 : decode cX9_secrets 119 = .ok (.istore 5, 2) := by decide +kernel
theorem dX9_secrets_121 : decode cX9_secrets 121 = .ok (.iinc 6 1, 3) := by decide +kernel
theorem dX9_secrets_124 : decode cX9_secrets 124 = .ok (.goto (-90), 3) := by decide +kernel
theorem dX9_secrets_127 : decode cX9_secrets 127 = .ok (.iload 5, 2) := by decide +kernel
theorem dX9_secrets_129 : decode cX9_secrets 129 = .ok (.ifCond .eq 12, 3) := by decide +kernel
theorem dX9_secrets_132 : decode cX9_secrets 132 = .ok (.iload_n 2, 1) := by decide +kernel
theorem dX9_secrets_133 : decode cX9_secrets 133 = .ok (.ifCond .ne 8, 3) := by decide +kernel
theorem dX9_secrets_136 : decode cX9_secrets 136 = .ok (.iload 4, 2) := by decide +kernel
theorem dX9_secrets_138 : decode cX9_secrets 138 = .ok (.goto 4, 3) := by decide +kernel
theorem dX9_secrets_141 : decode cX9_secrets 141 = .ok (.iload_n 3, 1) := by decide +kernel
theorem dX9_secrets_142 : decode cX9_secrets 142 = .ok (.istore_n 3, 1) := by decide +kernel
theorem dX9_secrets_143 : decode cX9_secrets 143 = .ok (.iload_n 2, 1) := by decide +kernel
theorem dX9_secrets_144 : decode cX9_secrets 144 = .ok (.iload 5, 2) := by decide +kernel
theorem dX9_secrets_146 : decode cX9_secrets 146 = .ok (.ifCond .eq 7, 3) := by decide +kernel
theorem dX9_secrets_149 : decode cX9_secrets 149 = .ok (.iconst 1, 1) := by decide +kernel
theorem dX9_secrets_150 : decode cX9_secrets 150 = .ok (.goto 4, 3) := by decide +kernel
theorem dX9_secrets_153 : decode cX9_secrets 153 = .ok (.iconst 0, 1) := by decide +kernel
theorem dX9_secrets_154 : decode cX9_secrets 154 = .ok (.iadd, 1) := by decide +kernel
theorem dX9_secrets_155 : decode cX9_secrets 155 = .ok (.istore_n 2, 1) := by decide +kernel
theorem dX9_secrets_156 : decode cX9_secrets 156 = .ok (.iinc 4 1, 3) := by decide +kernel
theorem dX9_secrets_159 : decode cX9_secrets 159 = .ok (.goto (-138), 3) := by decide +kernel
theorem dX9_secrets_162 : decode cX9_secrets 162 = .ok (.iload_n 1, 1) := by decide +kernel
theorem dX9_secrets_163 : decode cX9_secrets 163 = .ok (.ifCond .ne 7, 3) := by decide +kernel
theorem dX9_secrets_166 : decode cX9_secrets 166 = .ok (.iload_n 2, 1) := by decide +kernel
theorem dX9_secrets_167 : decode cX9_secrets 167 = .ok (.goto 4, 3) := by decide +kernel
theorem dX9_secrets_170 : decode cX9_secrets 170 = .ok (.iload_n 3, 1) := by decide +kernel
theorem dX9_secrets_171 : decode cX9_secrets 171 = .ok (.ireturn, 1) := by decide +kernel
theorem dX9_factorial_0 : decode cX9_factorial 0 = .ok (.iconst 1, 1) := by decide +kernel
theorem dX9_factorial_1 : decode cX9_factorial 1 = .ok (.istore_n 1, 1) := by decide +kernel
theorem dX9_factorial_2 : decode cX9_factorial 2 = .ok (.iconst 2, 1) := by decide +kernel
theorem dX9_factorial_3 : decode cX9_factorial 3 = .ok (.istore_n 2, 1) := by decide +kernel
theorem dX9_factorial_4 : decode cX9_factorial 4 = .ok (.iload_n 2, 1) := by decide +kernel
theorem dX9_factorial_5 : decode cX9_factorial 5 = .ok (.iload_n 0, 1) := by decide +kernel
theorem dX9_factorial_6 : decode cX9_factorial 6 = .ok (.if_icmp .gt 13, 3) := by decide +kernel
theorem dX9_factorial_9 : decode cX9_factorial 9 = .ok (.iload_n 1, 1) := by decide +kernel
theorem dX9_factorial_10 : decode cX9_factorial 10 = .ok (.iload_n 2, 1) := by decide +kernel
theorem dX9_factorial_11 : decode cX9_factorial 11 = .ok (.imul, 1) := by decide +kernel
theorem dX9_factorial_12 : decode cX9_factorial 12 = .ok (.istore_n 1, 1) := by decide +kernel
theorem dX9_factorial_13 : decode cX9_factorial 13 = .ok (.iinc 2 1, 3) := by decide +kernel
theorem dX9_factorial_16 : decode cX9_factorial 16 = .ok (.goto (-12), 3) := by decide +kernel
theorem dX9_factorial_19 : decode cX9_factorial 19 = .ok (.iload_n 1, 1) := by decide +kernel
theorem dX9_factorial_20 : decode cX9_factorial 20 = .ok (.ireturn, 1) := by decide +kernel
theorem dX9_common_0 : decode cX9_common 0 = .ok (.iload_n 0, 1) := by decide +kernel
theorem dX9_common_1 : decode cX9_common 1 = .ok (.ifCond .ge 8, 3) := by decide +kernel
theorem dX9_common_4 : decode cX9_common 4 = .ok (.iload_n 0, 1) := by decide +kernel
theorem dX9_common_5 : decode cX9_common 5 = .ok (.ineg, 1) := by decide +kernel
theorem dX9_common_6 : decode cX9_common 6 = .ok (.goto 4, 3) := by decide +kernel
theorem dX9_common_9 : decode cX9_common 9 = .ok (.iload_n 0, 1) := by decide +kernel
theorem dX9_common_10 : decode cX9_common 10 = .ok (.istore_n 2, 1) := by decide +kernel
theorem dX9_common_11 : decode cX9_common 11 = .ok (.iload_n 1, 1) := by decide +kernel
theorem dX9_common_12 : decode cX9_common 12 = .ok (.istore_n 3, 1) := by decide +kernel
theorem dX9_common_13 : decode cX9_common 13 = .ok (.iload_n 3, 1) := by decide +kernel
theorem dX9_common_14 : decode cX9_common 14 = .ok (.ifCond .eq 16, 3) := by decide +kernel
theorem dX9_common_17 : decode cX9_common 17 = .ok (.iload_n 2, 1) := by decide +kernel
theorem dX9_common_18 : decode cX9_common 18 = .ok (.iload_n 3, 1) := by decide +kernel
theorem dX9_common_19 : decode cX9_common 19 = .ok (.irem, 1) := by decide +kernel
theorem dX9_common_20 : decode cX9_common 20 = .ok (.istore 4, 2) := by decide +kernel
theorem dX9_common_22 : decode cX9_common 22 = .ok (.iload_n 3, 1) := by decide +kernel
theorem dX9_common_23 : decode cX9_common 23 = .ok (.istore_n 2, 1) := by decide +kernel
theorem dX9_common_24 : decode cX9_common 24 = .ok (.iload 4, 2) := by decide +kernel
theorem dX9_common_26 : decode cX9_common 26 = .ok (.istore_n 3, 1) := by decide +kernel
theorem dX9_common_27 : decode cX9_common 27 = .ok (.goto (-14), 3) := by decide +kernel
theorem dX9_common_30 : decode cX9_common 30 = .ok (.iload_n 2, 1) := by decide +kernel
theorem dX9_common_31 : decode cX9_common 31 = .ok (.ireturn, 1) := by decide +kernel
theorem dX9_speakers_0 : decode cX9_speakers 0 = .ok (.iconst 0, 1) := by decide +kernel
theorem dX9_speakers_1 : decode cX9_speakers 1 = .ok (.istore_n 1, 1) := by decide +kernel
theorem dX9_speakers_2 : decode cX9_speakers 2 = .ok (.iconst 0, 1) := by decide +kernel
theorem dX9_speakers_3 : decode cX9_speakers 3 = .ok (.istore_n 2, 1) := by decide +kernel
theorem dX9_speakers_4 : decode cX9_speakers 4 = .ok (.iload_n 2, 1) := by decide +kernel
theorem dX9_speakers_5 : decode cX9_speakers 5 = .ok (.aload_n 0, 1) := by decide +kernel
theorem dX9_speakers_6 : decode cX9_speakers 6 = .ok (.getfield 105, 3) := by decide +kernel
theorem dX9_speakers_9 : decode cX9_speakers 9 = .ok (.if_icmp .ge 31, 3) := by decide +kernel
theorem dX9_speakers_12 : decode cX9_speakers 12 = .ok (.iload_n 1, 1) := by decide +kernel
theorem dX9_speakers_13 : decode cX9_speakers 13 = .ok (.aload_n 0, 1) := by decide +kernel
theorem dX9_speakers_14 : decode cX9_speakers 14 = .ok (.getfield 7, 3) := by decide +kernel
theorem dX9_speakers_17 : decode cX9_speakers 17 = .ok (.iconst 0, 1) := by decide +kernel
theorem dX9_speakers_18 : decode cX9_speakers 18 = .ok (.iload_n 2, 1) := by decide +kernel
theorem dX9_speakers_19 : decode cX9_speakers 19 = .ok (.iadd, 1) := by decide +kernel
theorem dX9_speakers_20 : decode cX9_speakers 20 = .ok (.iaload, 1) := by decide +kernel
theorem dX9_speakers_21 : decode cX9_speakers 21 = .ok (.iconst 5, 1) := by decide +kernel
theorem dX9_speakers_22 : decode cX9_speakers 22 = .ok (.if_icmp .ne 9, 3) := by decide +kernel
theorem dX9_speakers_25 : decode cX9_speakers 25 = .ok (.iconst 1, 1) := by decide +kernel
theorem dX9_speakers_26 : decode cX9_speakers 26 = .ok (.iload_n 2, 1) := by decide +kernel
theorem dX9_speakers_27 : decode cX9_speakers 27 = .ok (.ishl, 1) := by decide +kernel
theorem dX9_speakers_28 : decode cX9_speakers 28 = .ok (.goto 4, 3) := by decide +kernel
theorem dX9_speakers_31 : decode cX9_speakers 31 = .ok (.iconst 0, 1) := by decide +kernel
theorem dX9_speakers_32 : decode cX9_speakers 32 = .ok (.ior, 1) := by decide +kernel
theorem dX9_speakers_33 : decode cX9_speakers 33 = .ok (.istore_n 1, 1) := by decide +kernel
theorem dX9_speakers_34 : decode cX9_speakers 34 = .ok (.iinc 2 1, 3) := by decide +kernel
theorem dX9_speakers_37 : decode cX9_speakers 37 = .ok (.goto (-33), 3) := by decide +kernel
theorem dX9_speakers_40 : decode cX9_speakers 40 = .ok (.iload_n 1, 1) := by decide +kernel
theorem dX9_speakers_41 : decode cX9_speakers 41 = .ok (.ireturn, 1) := by decide +kernel
theorem dX9_share_0 : decode cX9_share 0 = .ok (.aload_n 0, 1) := by decide +kernel
theorem dX9_share_1 : decode cX9_share 1 = .ok (.iload_n 1, 1) := by decide +kernel
theorem dX9_share_2 : decode cX9_share 2 = .ok (.invokevirtual 111, 3) := by decide +kernel
theorem dX9_share_5 : decode cX9_share 5 = .ok (.ifCond .ne 5, 3) := by decide +kernel
theorem dX9_share_8 : decode cX9_share 8 = .ok (.iconst (-1), 1) := by decide +kernel
theorem dX9_share_9 : decode cX9_share 9 = .ok (.ireturn, 1) := by decide +kernel
theorem dX9_share_10 : decode cX9_share 10 = .ok (.iload_n 2, 1) := by decide +kernel
theorem dX9_share_11 : decode cX9_share 11 = .ok (.i2l, 1) := by decide +kernel
theorem dX9_share_12 : decode cX9_share 12 = .ok (.lconst 0, 1) := by decide +kernel
theorem dX9_share_13 : decode cX9_share 13 = .ok (.ldc2_w 160, 3) := by decide +kernel
theorem dX9_share_16 : decode cX9_share 16 = .ok (.invokestatic 60, 3) := by decide +kernel
theorem dX9_share_19 : decode cX9_share 19 = .ok (.ifCond .ne 6, 3) := by decide +kernel
theorem dX9_share_22 : decode cX9_share 22 = .ok (.bipush (-2), 2) := by decide +kernel
theorem dX9_share_24 : decode cX9_share 24 = .ok (.ireturn, 1) := by decide +kernel
theorem dX9_share_25 : decode cX9_share 25 = .ok (.aload_n 0, 1) := by decide +kernel
theorem dX9_share_26 : decode cX9_share 26 = .ok (.invokevirtual 218, 3) := by decide +kernel
theorem dX9_share_29 : decode cX9_share 29 = .ok (.istore 4, 2) := by decide +kernel
theorem dX9_share_31 : decode cX9_share 31 = .ok (.iload 4, 2) := by decide +kernel
theorem dX9_share_33 : decode cX9_share 33 = .ok (.invokestatic 221, 3) := by decide +kernel
theorem dX9_share_36 : decode cX9_share 36 = .ok (.istore 5, 2) := by decide +kernel
theorem dX9_share_38 : decode cX9_share 38 = .ok (.iload 4, 2) := by decide +kernel
theorem dX9_share_40 : decode cX9_share 40 = .ok (.iload_n 1, 1) := by decide +kernel
theorem dX9_share_41 : decode cX9_share 41 = .ok (.invokestatic 118, 3) := by decide +kernel
theorem dX9_share_44 : decode cX9_share 44 = .ok (.ifCond .ne 6, 3) := by decide +kernel
theorem dX9_share_47 : decode cX9_share 47 = .ok (.bipush (-3), 2) := by decide +kernel
theorem dX9_share_49 : decode cX9_share 49 = .ok (.ireturn, 1) := by decide +kernel
theorem dX9_share_50 : decode cX9_share 50 = .ok (.iload 5, 2) := by decide +kernel
theorem dX9_share_52 : decode cX9_share 52 = .ok (.iconst 5, 1) := by decide +kernel
theorem dX9_share_53 : decode cX9_share 53 = .ok (.if_icmp .le 6, 3) := by decide +kernel
theorem dX9_share_56 : decode cX9_share 56 = .ok (.bipush (-4), 2) := by decide +kernel
theorem dX9_share_58 : decode cX9_share 58 = .ok (.ireturn, 1) := by decide +kernel
theorem dX9_share_59 : decode cX9_share 59 = .ok (.iconst 0, 1) := by decide +kernel
theorem dX9_share_60 : decode cX9_share 60 = .ok (.istore 6, 2) := by decide +kernel
theorem dX9_share_62 : decode cX9_share 62 = .ok (.iconst 0, 1) := by decide +kernel
theorem dX9_share_63 : decode cX9_share 63 = .ok (.istore 7, 2) := by decide +kernel
theorem dX9_share_65 : decode cX9_share 65 = .ok (.iload 7, 2) := by decide +kernel
theorem dX9_share_67 : decode cX9_share 67 = .ok (.iload 4, 2) := by decide +kernel
theorem dX9_share_69 : decode cX9_share 69 = .ok (.if_icmp .gt 79, 3) := by decide +kernel
theorem dX9_share_72 : decode cX9_share 72 = .ok (.iload 7, 2) := by decide +kernel
theorem dX9_share_74 : decode cX9_share 74 = .ok (.iload 4, 2) := by decide +kernel
theorem dX9_share_76 : decode cX9_share 76 = .ok (.iconst (-1), 1) := by decide +kernel
theorem dX9_share_77 : decode cX9_share 77 = .ok (.ixor, 1) := by decide +kernel
theorem dX9_share_78 : decode cX9_share 78 = .ok (.iand, 1) := by decide +kernel
theorem dX9_share_79 : decode cX9_share 79 = .ok (.ifCond .ne 63, 3) := by decide +kernel
theorem dX9_share_82 : decode cX9_share 82 = .ok (.iload 7, 2) := by decide +kernel
theorem dX9_share_84 : decode cX9_share 84 = .ok (.iload_n 1, 1) := by decide +kernel
theorem dX9_share_85 : decode cX9_share 85 = .ok (.invokestatic 118, 3) := by decide +kernel
theorem dX9_share_88 : decode cX9_share 88 = .ok (.ifCond .ne 54, 3) := by decide +kernel
theorem dX9_share_91 : decode cX9_share 91 = .ok (.iload 7, 2) := by decide +kernel
theorem dX9_share_93 : decode cX9_share 93 = .ok (.invokestatic 221, 3) := by decide +kernel
theorem dX9_share_96 : decode cX9_share 96 = .ok (.invokestatic 224, 3) := by decide +kernel
theorem dX9_share_99 : decode cX9_share 99 = .ok (.iload 5, 2) := by decide +kernel
theorem dX9_share_101 : decode cX9_share 101 = .ok (.iconst 1, 1) := by decide +kernel
theorem dX9_share_102 : decode cX9_share 102 = .ok (.isub, 1) := by decide +kernel
theorem dX9_share_103 : decode cX9_share 103 = .ok (.iload 7, 2) := by decide +kernel
theorem dX9_share_105 : decode cX9_share 105 = .ok (.invokestatic 221, 3) := by decide +kernel
theorem dX9_share_108 : decode cX9_share 108 = .ok (.isub, 1) := by decide +kernel
theorem dX9_share_109 : decode cX9_share 109 = .ok (.invokestatic 224, 3) := by decide +kernel
theorem dX9_share_112 : decode cX9_share 112 = .ok (.imul, 1) := by decide +kernel
theorem dX9_share_113 : decode cX9_share 113 = .ok (.istore 8, 2) := by decide +kernel
theorem dX9_share_115 : decode cX9_share 115 = .ok (.iload 6, 2) := by decide +kernel
theorem dX9_share_117 : decode cX9_share 117 = .ok (.iload 8, 2) := by decide +kernel
theorem dX9_share_119 : decode cX9_share 119 = .ok (.aload_n 0, 1) := by decide +kernel
theorem dX9_share_120 : decode cX9_share 120 = .ok (.iload_n 2, 1) := by decide +kernel
theorem dX9_share_121 : decode cX9_share 121 = .ok (.iload 7, 2) := by decide +kernel
theorem dX9_share_123 : decode cX9_share 123 = .ok (.iconst 1, 1) := by decide +kernel
theorem dX9_share_124 : decode cX9_share 124 = .ok (.iload_n 1, 1) := by decide +kernel
theorem dX9_share_125 : decode cX9_share 125 = .ok (.ishl, 1) := by decide +kernel
theorem dX9_share_126 : decode cX9_share 126 = .ok (.ior, 1) := by decide +kernel
theorem dX9_share_127 : decode cX9_share 127 = .ok (.invokevirtual 201, 3) := by decide +kernel
theorem dX9_share_130 : decode cX9_share 130 = .ok (.aload_n 0, 1) := by decide +kernel
theorem dX9_share_131 : decode cX9_share 131 = .ok (.iload_n 2, 1) := by decide +kernel
theorem dX9_share_132 : decode cX9_share 132 = .ok (.iload 7, 2) := by decide +kernel
theorem dX9_share_134 : decode cX9_share 134 = .ok (.invokevirtual 201, 3) := by decide +kernel
theorem dX9_share_137 : decode cX9_share 137 = .ok (.isub, 1) := by decide +kernel
theorem dX9_share_138 : decode cX9_share 138 = .ok (.imul, 1) := by decide +kernel
theorem dX9_share_139 : decode cX9_share 139 = .ok (.iadd, 1) := by decide +kernel
theorem dX9_share_140 : decode cX9_share 140 = .ok (.istore 6, 2) := by decide +kernel
theorem dX9_share_142 : decode cX9_share 142 = .ok (.iinc 7 1, 3) := by decide +kernel
theorem dX9_share_145 : decode cX9_share 145 = .ok (.goto (-80), 3) := by decide +kernel
theorem dX9_share_148 : decode cX9_share 148 = .ok (.iload 6, 2) := by decide +kernel
theorem dX9_share_150 : decode cX9_share 150 = .ok (.iload 5, 2) := by decide +kernel
theorem dX9_share_152 : decode cX9_share 152 = .ok (.invokestatic 224, 3) := by decide +kernel
theorem dX9_share_155 : decode cX9_share 155 = .ok (.invokestatic 227, 3) := by decide +kernel
theorem dX9_share_158 : decode cX9_share 158 = .ok (.istore 7, 2) := by decide +kernel
theorem dX9_share_160 : decode cX9_share 160 = .ok (.iload_n 3, 1) := by decide +kernel
theorem dX9_share_161 : decode cX9_share 161 = .ok (.ifCond .eq 11, 3) := by decide +kernel
theorem dX9_share_164 : decode cX9_share 164 = .ok (.iload 6, 2) := by decide +kernel
theorem dX9_share_166 : decode cX9_share 166 = .ok (.iload 7, 2) := by decide +kernel
theorem dX9_share_168 : decode cX9_share 168 = .ok (.idiv, 1) := by decide +kernel
theorem dX9_share_169 : decode cX9_share 169 = .ok (.goto 11, 3) := by decide +kernel
theorem dX9_share_172 : decode cX9_share 172 = .ok (.iload 5, 2) := by decide +kernel
theorem dX9_share_174 : decode cX9_share 174 = .ok (.invokestatic 224, 3) := by decide +kernel
theorem dX9_share_177 : decode cX9_share 177 = .ok (.iload 7, 2) := by decide +kernel
theorem dX9_share_179 : decode cX9_share 179 = .ok (.idiv, 1) := by decide +kernel
theorem dX9_share_180 : decode cX9_share 180 = .ok (.ireturn, 1) := by decide +kernel
theorem dX9_muted_0 : decode cX9_muted 0 = .ok (.iload_n 1, 1) := by decide +kernel
theorem dX9_muted_1 : decode cX9_muted 1 = .ok (.i2l, 1) := by decide +kernel
theorem dX9_muted_2 : decode cX9_muted 2 = .ok (.lconst 0, 1) := by decide +kernel
theorem dX9_muted_3 : decode cX9_muted 3 = .ok (.ldc2_w 230, 3) := by decide +kernel
theorem dX9_muted_6 : decode cX9_muted 6 = .ok (.invokestatic 60, 3) := by decide +kernel
theorem dX9_muted_9 : decode cX9_muted 9 = .ok (.ifCond .ne 6, 3) := by decide +kernel
theorem dX9_muted_12 : decode cX9_muted 12 = .ok (.bipush (-2), 2) := by decide +kernel
theorem dX9_muted_14 : decode cX9_muted 14 = .ok (.ireturn, 1) := by decide +kernel
theorem dX9_muted_15 : decode cX9_muted 15 = .ok (.aload_n 0, 1) := by decide +kernel
theorem dX9_muted_16 : decode cX9_muted 16 = .ok (.iconst 0, 1) := by decide +kernel
theorem dX9_muted_17 : decode cX9_muted 17 = .ok (.invokevirtual 54, 3) := by decide +kernel
theorem dX9_muted_20 : decode cX9_muted 20 = .ok (.iconst 1, 1) := by decide +kernel
theorem dX9_muted_21 : decode cX9_muted 21 = .ok (.istore_n 3, 1) := by decide +kernel
theorem dX9_muted_22 : decode cX9_muted 22 = .ok (.iconst 1, 1) := by decide +kernel
theorem dX9_muted_23 : decode cX9_muted 23 = .ok (.istore 4, 2) := by decide +kernel
theorem dX9_muted_25 : decode cX9_muted 25 = .ok (.iconst 0, 1) := by decide +kernel
theorem dX9_muted_26 : decode cX9_muted 26 = .ok (.istore 5, 2) := by decide +kernel
theorem dX9_muted_28 : decode cX9_muted 28 = .ok (.iload 5, 2) := by decide +kernel
theorem dX9_muted_30 : decode cX9_muted 30 = .ok (.aload_n 0, 1) := by decide +kernel
theorem dX9_muted_31 : decode cX9_muted 31 = .ok (.iconst 0, 1) := by decide +kernel
theorem dX9_muted_32 : decode cX9_muted 32 = .ok (.invokevirtual 152, 3) := by decide +kernel
theorem dX9_muted_35 : decode cX9_muted 35 = .ok (.invokestatic 221, 3) := by decide +kernel
theorem dX9_muted_38 : decode cX9_muted 38 = .ok (.if_icmp .ge 20, 3) := by decide +kernel
theorem dX9_muted_41 : decode cX9_muted 41 = .ok (.iload_n 3, 1) := by decide +kernel
theorem dX9_muted_42 : decode cX9_muted 42 = .ok (.iload_n 1, 1) := by decide +kernel
theorem dX9_muted_43 : decode cX9_muted 43 = .ok (.imul, 1) := by decide +kernel
theorem dX9_muted_44 : decode cX9_muted 44 = .ok (.istore_n 3, 1) := by decide +kernel
theorem dX9_muted_45 : decode cX9_muted 45 = .ok (.iload 4, 2) := by decide +kernel
theorem dX9_muted_47 : decode cX9_muted 47 = .ok (.bipush 10, 2) := by decide +kernel
theorem dX9_muted_49 : decode cX9_muted 49 = .ok (.imul, 1) := by decide +kernel
theorem dX9_muted_50 : decode cX9_muted 50 = .ok (.istore 4, 2) := by decide +kernel
theorem dX9_muted_52 : decode cX9_muted 52 = .ok (.iinc 5 1, 3) := by decide +kernel
theorem dX9_muted_55 : decode cX9_muted 55 = .ok (.goto (-27), 3) := by decide +kernel
theorem dX9_muted_58 : decode cX9_muted 58 = .ok (.iload_n 3, 1) := by decide +kernel
theorem dX9_muted_59 : decode cX9_muted 59 = .ok (.iload 4, 2) := by decide +kernel
theorem dX9_muted_61 : decode cX9_muted 61 = .ok (.invokestatic 227, 3) := by decide +kernel
theorem dX9_muted_64 : decode cX9_muted 64 = .ok (.istore 5, 2) := by decide +kernel
theorem dX9_muted_66 : decode cX9_muted 66 = .ok (.iload_n 2, 1) := by decide +kernel
theorem dX9_muted_67 : decode cX9_muted 67 = .ok (.ifCond .eq 10, 3) := by decide +kernel
theorem dX9_muted_70 : decode cX9_muted 70 = .ok (.iload_n 3, 1) := by decide +kernel
theorem dX9_muted_71 : decode cX9_muted 71 = .ok (.iload 5, 2) := by decide +kernel
theorem dX9_muted_73 : decode cX9_muted 73 = .ok (.idiv, 1) := by decide +kernel
theorem dX9_muted_74 : decode cX9_muted 74 = .ok (.goto 8, 3) := by decide +kernel
theorem dX9_muted_77 : decode cX9_muted 77 = .ok (.iload 4, 2) := by decide +kernel
theorem dX9_muted_79 : decode cX9_muted 79 = .ok (.iload 5, 2) := by decide +kernel
theorem dX9_muted_81 : decode cX9_muted 81 = .ok (.idiv, 1) := by decide +kernel
theorem dX9_muted_82 : decode cX9_muted 82 = .ok (.ireturn, 1) := by decide +kernel
theorem dX9_seed_0 : decode cX9_seed 0 = .ok (.aload_n 0, 1) := by decide +kernel
theorem dX9_seed_1 : decode cX9_seed 1 = .ok (.getfield 232, 3) := by decide +kernel
theorem dX9_seed_4 : decode cX9_seed 4 = .ok (.lstore_n 3, 1) := by decide +kernel
theorem dX9_seed_5 : decode cX9_seed 5 = .ok (.aload_n 0, 1) := by decide +kernel
theorem dX9_seed_6 : decode cX9_seed 6 = .ok (.lload_n 1, 1) := by decide +kernel
theorem dX9_seed_7 : decode cX9_seed 7 = .ok (.putfield 232, 3) := by decide +kernel
theorem dX9_seed_10 : decode cX9_seed 10 = .ok (.lload_n 3, 1) := by decide +kernel
theorem dX9_seed_11 : decode cX9_seed 11 = .ok (.lreturn, 1) := by decide +kernel
theorem dX9_drawn_0 : decode cX9_drawn 0 = .ok (.iload_n 1, 1) := by decide +kernel
theorem dX9_drawn_1 : decode cX9_drawn 1 = .ok (.i2l, 1) := by decide +kernel
theorem dX9_drawn_2 : decode cX9_drawn 2 = .ok (.lconst 1, 1) := by decide +kernel
theorem dX9_drawn_3 : decode cX9_drawn 3 = .ok (.ldc2_w 236, 3) := by decide +kernel
theorem dX9_drawn_6 : decode cX9_drawn 6 = .ok (.invokestatic 60, 3) := by decide +kernel
theorem dX9_drawn_9 : decode cX9_drawn 9 = .ok (.ifCond .ne 6, 3) := by decide +kernel
theorem dX9_drawn_12 : decode cX9_drawn 12 = .ok (.bipush (-2), 2) := by decide +kernel
theorem dX9_drawn_14 : decode cX9_drawn 14 = .ok (.ireturn, 1) := by decide +kernel
theorem dX9_drawn_15 : decode cX9_drawn 15 = .ok (.iconst 0, 1) := by decide +kernel
theorem dX9_drawn_16 : decode cX9_drawn 16 = .ok (.istore_n 2, 1) := by decide +kernel
theorem dX9_drawn_17 : decode cX9_drawn 17 = .ok (.iconst 0, 1) := by decide +kernel
theorem dX9_drawn_18 : decode cX9_drawn 18 = .ok (.istore_n 3, 1) := by decide +kernel
theorem dX9_drawn_19 : decode cX9_drawn 19 = .ok (.iload_n 3, 1) := by decide +kernel
theorem dX9_drawn_20 : decode cX9_drawn 20 = .ok (.iload_n 1, 1) := by decide +kernel
theorem dX9_drawn_21 : decode cX9_drawn 21 = .ok (.if_icmp .ge 113, 3) := by decide +kernel
theorem dX9_drawn_24 : decode cX9_drawn 24 = .ok (.aload_n 0, 1) := by decide +kernel
theorem dX9_drawn_25 : decode cX9_drawn 25 = .ok (.aload_n 0, 1) := by decide +kernel
theorem dX9_drawn_26 : decode cX9_drawn 26 = .ok (.getfield 232, 3) := by decide +kernel
theorem dX9_drawn_29 : decode cX9_drawn 29 = .ok (.ldc2_w 238, 3) := by decide +kernel
theorem dX9_drawn_32 : decode cX9_drawn 32 = .ok (.lmul, 1) := by decide +kernel
theorem dX9_drawn_33 : decode cX9_drawn 33 = .ok (.ldc2_w 240, 3) := by decide +kernel
theorem dX9_drawn_36 : decode cX9_drawn 36 = .ok (.ladd, 1) := by decide +kernel
theorem dX9_drawn_37 : decode cX9_drawn 37 = .ok (.putfield 232, 3) := by decide +kernel
theorem dX9_drawn_40 : decode cX9_drawn 40 = .ok (.aload_n 0, 1) := by decide +kernel
theorem dX9_drawn_41 : decode cX9_drawn 41 = .ok (.getfield 232, 3) := by decide +kernel
theorem dX9_drawn_44 : decode cX9_drawn 44 = .ok (.bipush 33, 2) := by decide +kernel
theorem dX9_drawn_46 : decode cX9_drawn 46 = .ok (.lushr, 1) := by decide +kernel
theorem dX9_drawn_47 : decode cX9_drawn 47 = .ok (.l2i, 1) := by decide +kernel
theorem dX9_drawn_48 : decode cX9_drawn 48 = .ok (.istore 4, 2) := by decide +kernel
theorem dX9_drawn_50 : decode cX9_drawn 50 = .ok (.aload_n 0, 1) := by decide +kernel
theorem dX9_drawn_51 : decode cX9_drawn 51 = .ok (.iload 4, 2) := by decide +kernel
theorem dX9_drawn_53 : decode cX9_drawn 53 = .ok (.bipush 10, 2) := by decide +kernel
theorem dX9_drawn_55 : decode cX9_drawn 55 = .ok (.irem, 1) := by decide +kernel
theorem dX9_drawn_56 : decode cX9_drawn 56 = .ok (.iload 4, 2) := by decide +kernel
theorem dX9_drawn_58 : decode cX9_drawn 58 = .ok (.bipush 16, 2) := by decide +kernel
theorem dX9_drawn_60 : decode cX9_drawn 60 = .ok (.idiv, 1) := by decide +kernel
theorem dX9_drawn_61 : decode cX9_drawn 61 = .ok (.bipush 10, 2) := by decide +kernel
theorem dX9_drawn_63 : decode cX9_drawn 63 = .ok (.irem, 1) := by decide +kernel
theorem dX9_drawn_64 : decode cX9_drawn 64 = .ok (.iload 4, 2) := by decide +kernel
theorem dX9_drawn_66 : decode cX9_drawn 66 = .ok (.sipush 256, 3) := by decide +kernel
theorem dX9_drawn_69 : decode cX9_drawn 69 = .ok (.idiv, 1) := by decide +kernel
theorem dX9_drawn_70 : decode cX9_drawn 70 = .ok (.bipush 10, 2) := by decide +kernel
theorem dX9_drawn_72 : decode cX9_drawn 72 = .ok (.irem, 1) := by decide +kernel
theorem dX9_drawn_73 : decode cX9_drawn 73 = .ok (.sipush 511, 3) := by decide +kernel
theorem dX9_drawn_76 : decode cX9_drawn 76 = .ok (.invokevirtual 185, 3) := by decide +kernel
theorem dX9_drawn_79 : decode cX9_drawn 79 = .ok (.iload_n 2, 1) := by decide +kernel
theorem dX9_drawn_80 : decode cX9_drawn 80 = .ok (.aload_n 0, 1) := by decide +kernel
theorem dX9_drawn_81 : decode cX9_drawn 81 = .ok (.getfield 171, 3) := by decide +kernel
theorem dX9_drawn_84 : decode cX9_drawn 84 = .ok (.aload_n 0, 1) := by decide +kernel
theorem dX9_drawn_85 : decode cX9_drawn 85 = .ok (.getfield 174, 3) := by decide +kernel
theorem dX9_drawn_88 : decode cX9_drawn 88 = .ok (.ifCond .eq 8, 3) := by decide +kernel
theorem dX9_drawn_91 : decode cX9_drawn 91 = .ok (.bipush 100, 2) := by decide +kernel
theorem dX9_drawn_93 : decode cX9_drawn 93 = .ok (.goto 4, 3) := by decide +kernel
theorem dX9_drawn_96 : decode cX9_drawn 96 = .ok (.iconst 0, 1) := by decide +kernel
theorem dX9_drawn_97 : decode cX9_drawn 97 = .ok (.iadd, 1) := by decide +kernel
theorem dX9_drawn_98 : decode cX9_drawn 98 = .ok (.iadd, 1) := by decide +kernel
theorem dX9_drawn_99 : decode cX9_drawn 99 = .ok (.istore_n 2, 1) := by decide +kernel
theorem dX9_drawn_100 : decode cX9_drawn 100 = .ok (.iconst 0, 1) := by decide +kernel
theorem dX9_drawn_101 : decode cX9_drawn 101 = .ok (.istore 5, 2) := by decide +kernel
theorem dX9_drawn_103 : decode cX9_drawn 103 = .ok (.iload 5, 2) := by decide +kernel
theorem dX9_drawn_105 : decode cX9_drawn 105 = .ok (.aload_n 0, 1) := by decide +kernel
theorem dX9_drawn_106 : decode cX9_drawn 106 = .ok (.getfield 171, 3) := by decide +kernel
theorem dX9_drawn_109 : decode cX9_drawn 109 = .ok (.if_icmp .ge 19, 3) := by decide +kernel
theorem dX9_drawn_112 : decode cX9_drawn 112 = .ok (.iload_n 2, 1) := by decide +kernel
theorem dX9_drawn_113 : decode cX9_drawn 113 = .ok (.aload_n 0, 1) := by decide +kernel
theorem dX9_drawn_114 : decode cX9_drawn 114 = .ok (.getfield 28, 3) := by decide +kernel
theorem dX9_drawn_117 : decode cX9_drawn 117 = .ok (.iload 5, 2) := by decide +kernel
theorem dX9_drawn_119 : decode cX9_drawn 119 = .ok (.iaload, 1) := by decide +kernel
theorem dX9_drawn_120 : decode cX9_drawn 120 = .ok (.iadd, 1) := by decide +kernel
theorem dX9_drawn_121 : decode cX9_drawn 121 = .ok (.istore_n 2, 1) := by decide +kernel
theorem dX9_drawn_122 : decode cX9_drawn 122 = .ok (.iinc 5 1, 3) := by decide +kernel
theorem dX9_drawn_125 : decode cX9_drawn 125 = .ok (.goto (-22), 3) := by decide +kernel
theorem dX9_drawn_128 : decode cX9_drawn 128 = .ok (.iinc 3 1, 3) := by decide +kernel
theorem dX9_drawn_131 : decode cX9_drawn 131 = .ok (.goto (-112), 3) := by decide +kernel
theorem dX9_drawn_134 : decode cX9_drawn 134 = .ok (.iload_n 2, 1) := by decide +kernel
theorem dX9_drawn_135 : decode cX9_drawn 135 = .ok (.ireturn, 1) := by decide +kernel
theorem dX9_keep_0 : decode cX9_keep 0 = .ok (.iload_n 1, 1) := by decide +kernel
theorem dX9_keep_1 : decode cX9_keep 1 = .ok (.i2l, 1) := by decide +kernel
theorem dX9_keep_2 : decode cX9_keep 2 = .ok (.lconst 0, 1) := by decide +kernel
theorem dX9_keep_3 : decode cX9_keep 3 = .ok (.lconst 1, 1) := by decide +kernel
theorem dX9_keep_4 : decode cX9_keep 4 = .ok (.invokestatic 60, 3) := by decide +kernel
theorem dX9_keep_7 : decode cX9_keep 7 = .ok (.ifCond .ne 5, 3) := by decide +kernel
theorem dX9_keep_10 : decode cX9_keep 10 = .ok (.iconst (-1), 1) := by decide +kernel
theorem dX9_keep_11 : decode cX9_keep 11 = .ok (.ireturn, 1) := by decide +kernel
theorem dX9_keep_12 : decode cX9_keep 12 = .ok (.aload_n 0, 1) := by decide +kernel
theorem dX9_keep_13 : decode cX9_keep 13 = .ok (.getfield 47, 3) := by decide +kernel
theorem dX9_keep_16 : decode cX9_keep 16 = .ok (.iload_n 1, 1) := by decide +kernel
theorem dX9_keep_17 : decode cX9_keep 17 = .ok (.iconst 1, 1) := by decide +kernel
theorem dX9_keep_18 : decode cX9_keep 18 = .ok (.bastore, 1) := by decide +kernel
theorem dX9_keep_19 : decode cX9_keep 19 = .ok (.iconst 0, 1) := by decide +kernel
theorem dX9_keep_20 : decode cX9_keep 20 = .ok (.istore_n 2, 1) := by decide +kernel
theorem dX9_keep_21 : decode cX9_keep 21 = .ok (.iload_n 2, 1) := by decide +kernel
theorem dX9_keep_22 : decode cX9_keep 22 = .ok (.bipush 48, 2) := by decide +kernel
theorem dX9_keep_24 : decode cX9_keep 24 = .ok (.if_icmp .ge 26, 3) := by decide +kernel
theorem dX9_keep_27 : decode cX9_keep 27 = .ok (.aload_n 0, 1) := by decide +kernel
theorem dX9_keep_28 : decode cX9_keep 28 = .ok (.getfield 51, 3) := by decide +kernel
theorem dX9_keep_31 : decode cX9_keep 31 = .ok (.bipush 48, 2) := by decide +kernel
theorem dX9_keep_33 : decode cX9_keep 33 = .ok (.iload_n 1, 1) := by decide +kernel
theorem dX9_keep_34 : decode cX9_keep 34 = .ok (.imul, 1) := by decide +kernel
