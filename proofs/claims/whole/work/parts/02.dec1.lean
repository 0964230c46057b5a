theorem dX0_init_0 : decode cX0_init 0 = .ok (.aload_n 0, 1) := by decide +kernel
theorem dX0_init_1 : decode cX0_init 1 = .ok (.invokespecial 3, 3) := by decide +kernel
theorem dX0_init_4 : decode cX0_init 4 = .ok (.aload_n 0, 1) := by decide +kernel
theorem dX0_init_5 : decode cX0_init 5 = .ok (.iconst 3, 1) := by decide +kernel
theorem dX0_init_6 : decode cX0_init 6 = .ok (.anewarray 9, 3) := by decide +kernel
theorem dX0_init_9 : decode cX0_init 9 = .ok (.putfield 11, 3) := by decide +kernel
theorem dX0_init_12 : decode cX0_init 12 = .ok (.aload_n 0, 1) := by decide +kernel
theorem dX0_init_13 : decode cX0_init 13 = .ok (.getfield 11, 3) := by decide +kernel
theorem dX0_init_16 : decode cX0_init 16 = .ok (.iconst 0, 1) := by decide +kernel
theorem dX0_init_17 : decode cX0_init 17 = .ok (.aload_n 1, 1) := by decide +kernel
theorem dX0_init_18 : decode cX0_init 18 = .ok (.aastore, 1) := by decide +kernel
theorem dX0_init_19 : decode cX0_init 19 = .ok (.iconst 1, 1) := by decide +kernel
theorem dX0_init_20 : decode cX0_init 20 = .ok (.istore_n 2, 1) := by decide +kernel
theorem dX0_init_21 : decode cX0_init 21 = .ok (.iload_n 2, 1) := by decide +kernel
theorem dX0_init_22 : decode cX0_init 22 = .ok (.iconst 2, 1) := by decide +kernel
theorem dX0_init_23 : decode cX0_init 23 = .ok (.if_icmp .gt 22, 3) := by decide +kernel
theorem dX0_init_26 : decode cX0_init 26 = .ok (.aload_n 0, 1) := by decide +kernel
theorem dX0_init_27 : decode cX0_init 27 = .ok (.getfield 11, 3) := by decide +kernel
theorem dX0_init_30 : decode cX0_init 30 = .ok (.iload_n 2, 1) := by decide +kernel
theorem dX0_init_31 : decode cX0_init 31 = .ok (.new 9, 3) := by decide +kernel
theorem dX0_init_34 : decode cX0_init 34 = .ok (.dup, 1) := by decide +kernel
theorem dX0_init_35 : decode cX0_init 35 = .ok (.invokespecial 17, 3) := by decide +kernel
theorem dX0_init_38 : decode cX0_init 38 = .ok (.aastore, 1) := by decide +kernel
theorem dX0_init_39 : decode cX0_init 39 = .ok (.iinc 2 1, 3) := by decide +kernel
theorem dX0_init_42 : decode cX0_init 42 = .ok (.goto (-21), 3) := by decide +kernel
theorem dX0_init_45 : decode cX0_init 45 = .ok (.return_, 1) := by decide +kernel
theorem dX0_valueFrom_0 : decode cX0_valueFrom 0 = .ok (.aload_n 0, 1) := by decide +kernel
theorem dX0_valueFrom_1 : decode cX0_valueFrom 1 = .ok (.getfield 11, 3) := by decide +kernel
theorem dX0_valueFrom_4 : decode cX0_valueFrom 4 = .ok (.iload_n 2, 1) := by decide +kernel
theorem dX0_valueFrom_5 : decode cX0_valueFrom 5 = .ok (.aaload, 1) := by decide +kernel
theorem dX0_valueFrom_6 : decode cX0_valueFrom 6 = .ok (.aload_n 1, 1) := by decide +kernel
theorem dX0_valueFrom_7 : decode cX0_valueFrom 7 = .ok (.invokevirtual 18, 3) := by decide +kernel
theorem dX0_valueFrom_10 : decode cX0_valueFrom 10 = .ok (.aload_n 0, 1) := by decide +kernel
theorem dX0_valueFrom_11 : decode cX0_valueFrom 11 = .ok (.iload_n 2, 1) := by decide +kernel
theorem dX0_valueFrom_12 : decode cX0_valueFrom 12 = .ok (.invokevirtual 22, 3) := by decide +kernel
theorem dX0_valueFrom_15 : decode cX0_valueFrom 15 = .ok (.ireturn, 1) := by decide +kernel
theorem dX0_mostByCall_0 : decode cX0_mostByCall 0 = .ok (.aload_n 0, 1) := by decide +kernel
theorem dX0_mostByCall_1 : decode cX0_mostByCall 1 = .ok (.getfield 11, 3) := by decide +kernel
theorem dX0_mostByCall_4 : decode cX0_mostByCall 4 = .ok (.iload_n 1, 1) := by decide +kernel
theorem dX0_mostByCall_5 : decode cX0_mostByCall 5 = .ok (.aaload, 1) := by decide +kernel
theorem dX0_mostByCall_6 : decode cX0_mostByCall 6 = .ok (.astore_n 2, 1) := by decide +kernel
theorem dX0_mostByCall_7 : decode cX0_mostByCall 7 = .ok (.iload_n 1, 1) := by decide +kernel
theorem dX0_mostByCall_8 : decode cX0_mostByCall 8 = .ok (.ifCond .le 10, 3) := by decide +kernel
theorem dX0_mostByCall_11 : decode cX0_mostByCall 11 = .ok (.aload_n 2, 1) := by decide +kernel
theorem dX0_mostByCall_12 : decode cX0_mostByCall 12 = .ok (.invokevirtual 26, 3) := by decide +kernel
theorem dX0_mostByCall_15 : decode cX0_mostByCall 15 = .ok (.ifCond .eq 25, 3) := by decide +kernel
theorem dX0_mostByCall_18 : decode cX0_mostByCall 18 = .ok (.aload_n 2, 1) := by decide +kernel
theorem dX0_mostByCall_19 : decode cX0_mostByCall 19 = .ok (.getfield 30, 3) := by decide +kernel
theorem dX0_mostByCall_22 : decode cX0_mostByCall 22 = .ok (.aload_n 2, 1) := by decide +kernel
theorem dX0_mostByCall_23 : decode cX0_mostByCall 23 = .ok (.getfield 34, 3) := by decide +kernel
theorem dX0_mostByCall_26 : decode cX0_mostByCall 26 = .ok (.iaload, 1) := by decide +kernel
theorem dX0_mostByCall_27 : decode cX0_mostByCall 27 = .ok (.aload_n 2, 1) := by decide +kernel
theorem dX0_mostByCall_28 : decode cX0_mostByCall 28 = .ok (.getfield 30, 3) := by decide +kernel
theorem dX0_mostByCall_31 : decode cX0_mostByCall 31 = .ok (.iconst 1, 1) := by decide +kernel
theorem dX0_mostByCall_32 : decode cX0_mostByCall 32 = .ok (.aload_n 2, 1) := by decide +kernel
theorem dX0_mostByCall_33 : decode cX0_mostByCall 33 = .ok (.getfield 34, 3) := by decide +kernel
theorem dX0_mostByCall_36 : decode cX0_mostByCall 36 = .ok (.isub, 1) := by decide +kernel
theorem dX0_mostByCall_37 : decode cX0_mostByCall 37 = .ok (.iaload, 1) := by decide +kernel
theorem dX0_mostByCall_38 : decode cX0_mostByCall 38 = .ok (.isub, 1) := by decide +kernel
theorem dX0_mostByCall_39 : decode cX0_mostByCall 39 = .ok (.ireturn, 1) := by decide +kernel
theorem dX0_mostByCall_40 : decode cX0_mostByCall 40 = .ok (.bipush (-9), 2) := by decide +kernel
theorem dX0_mostByCall_42 : decode cX0_mostByCall 42 = .ok (.istore_n 3, 1) := by decide +kernel
theorem dX0_mostByCall_43 : decode cX0_mostByCall 43 = .ok (.iconst (-1), 1) := by decide +kernel
theorem dX0_mostByCall_44 : decode cX0_mostByCall 44 = .ok (.istore 4, 2) := by decide +kernel
theorem dX0_mostByCall_46 : decode cX0_mostByCall 46 = .ok (.iconst 0, 1) := by decide +kernel
theorem dX0_mostByCall_47 : decode cX0_mostByCall 47 = .ok (.istore 5, 2) := by decide +kernel
theorem dX0_mostByCall_49 : decode cX0_mostByCall 49 = .ok (.iload 5, 2) := by decide +kernel
theorem dX0_mostByCall_51 : decode cX0_mostByCall 51 = .ok (.aload_n 2, 1) := by decide +kernel
theorem dX0_mostByCall_52 : decode cX0_mostByCall 52 = .ok (.getfield 38, 3) := by decide +kernel
theorem dX0_mostByCall_55 : decode cX0_mostByCall 55 = .ok (.if_icmp .ge 44, 3) := by decide +kernel
theorem dX0_mostByCall_58 : decode cX0_mostByCall 58 = .ok (.aload_n 2, 1) := by decide +kernel
theorem dX0_mostByCall_59 : decode cX0_mostByCall 59 = .ok (.iload 5, 2) := by decide +kernel
theorem dX0_mostByCall_61 : decode cX0_mostByCall 61 = .ok (.invokevirtual 41, 3) := by decide +kernel
theorem dX0_mostByCall_64 : decode cX0_mostByCall 64 = .ok (.ifCond .eq 13, 3) := by decide +kernel
theorem dX0_mostByCall_67 : decode cX0_mostByCall 67 = .ok (.aload_n 0, 1) := by decide +kernel
theorem dX0_mostByCall_68 : decode cX0_mostByCall 68 = .ok (.iload 5, 2) := by decide +kernel
theorem dX0_mostByCall_70 : decode cX0_mostByCall 70 = .ok (.iload_n 1, 1) := by decide +kernel
theorem dX0_mostByCall_71 : decode cX0_mostByCall 71 = .ok (.invokevirtual 45, 3) := by decide +kernel
theorem dX0_mostByCall_74 : decode cX0_mostByCall 74 = .ok (.goto 4, 3) := by decide +kernel
theorem dX0_mostByCall_77 : decode cX0_mostByCall 77 = .ok (.iload_n 3, 1) := by decide +kernel
theorem dX0_mostByCall_78 : decode cX0_mostByCall 78 = .ok (.istore 6, 2) := by decide +kernel
theorem dX0_mostByCall_80 : decode cX0_mostByCall 80 = .ok (.iload 6, 2) := by decide +kernel
theorem dX0_mostByCall_82 : decode cX0_mostByCall 82 = .ok (.iload_n 3, 1) := by decide +kernel
theorem dX0_mostByCall_83 : decode cX0_mostByCall 83 = .ok (.if_icmp .le 10, 3) := by decide +kernel
theorem dX0_mostByCall_86 : decode cX0_mostByCall 86 = .ok (.iload 6, 2) := by decide +kernel
theorem dX0_mostByCall_88 : decode cX0_mostByCall 88 = .ok (.istore_n 3, 1) := by decide +kernel
theorem dX0_mostByCall_89 : decode cX0_mostByCall 89 = .ok (.iload 5, 2) := by decide +kernel
theorem dX0_mostByCall_91 : decode cX0_mostByCall 91 = .ok (.istore 4, 2) := by decide +kernel
theorem dX0_mostByCall_93 : decode cX0_mostByCall 93 = .ok (.iinc 5 1, 3) := by decide +kernel
theorem dX0_mostByCall_96 : decode cX0_mostByCall 96 = .ok (.goto (-47), 3) := by decide +kernel
theorem dX0_mostByCall_99 : decode cX0_mostByCall 99 = .ok (.aload_n 0, 1) := by decide +kernel
theorem dX0_mostByCall_100 : decode cX0_mostByCall 100 = .ok (.iload 4, 2) := by decide +kernel
theorem dX0_mostByCall_102 : decode cX0_mostByCall 102 = .ok (.putfield 49, 3) := by decide +kernel
theorem dX0_mostByCall_105 : decode cX0_mostByCall 105 = .ok (.iload_n 3, 1) := by decide +kernel
theorem dX0_mostByCall_106 : decode cX0_mostByCall 106 = .ok (.ireturn, 1) := by decide +kernel
theorem dX0_leastByRun_0 : decode cX0_leastByRun 0 = .ok (.aload_n 0, 1) := by decide +kernel
theorem dX0_leastByRun_1 : decode cX0_leastByRun 1 = .ok (.getfield 11, 3) := by decide +kernel
theorem dX0_leastByRun_4 : decode cX0_leastByRun 4 = .ok (.iload_n 2, 1) := by decide +kernel
theorem dX0_leastByRun_5 : decode cX0_leastByRun 5 = .ok (.aaload, 1) := by decide +kernel
theorem dX0_leastByRun_6 : decode cX0_leastByRun 6 = .ok (.astore_n 3, 1) := by decide +kernel
theorem dX0_leastByRun_7 : decode cX0_leastByRun 7 = .ok (.aload_n 3, 1) := by decide +kernel
theorem dX0_leastByRun_8 : decode cX0_leastByRun 8 = .ok (.iload_n 1, 1) := by decide +kernel
theorem dX0_leastByRun_9 : decode cX0_leastByRun 9 = .ok (.invokevirtual 52, 3) := by decide +kernel
theorem dX0_leastByRun_12 : decode cX0_leastByRun 12 = .ok (.istore 4, 2) := by decide +kernel
theorem dX0_leastByRun_14 : decode cX0_leastByRun 14 = .ok (.bipush 9, 2) := by decide +kernel
theorem dX0_leastByRun_16 : decode cX0_leastByRun 16 = .ok (.istore 5, 2) := by decide +kernel
theorem dX0_leastByRun_18 : decode cX0_leastByRun 18 = .ok (.iconst 0, 1) := by decide +kernel
theorem dX0_leastByRun_19 : decode cX0_leastByRun 19 = .ok (.istore 6, 2) := by decide +kernel
theorem dX0_leastByRun_21 : decode cX0_leastByRun 21 = .ok (.iload 6, 2) := by decide +kernel
theorem dX0_leastByRun_23 : decode cX0_leastByRun 23 = .ok (.aload_n 3, 1) := by decide +kernel
theorem dX0_leastByRun_24 : decode cX0_leastByRun 24 = .ok (.getfield 30, 3) := by decide +kernel
theorem dX0_leastByRun_27 : decode cX0_leastByRun 27 = .ok (.aload_n 3, 1) := by decide +kernel
theorem dX0_leastByRun_28 : decode cX0_leastByRun 28 = .ok (.getfield 34, 3) := by decide +kernel
theorem dX0_leastByRun_31 : decode cX0_leastByRun 31 = .ok (.iaload, 1) := by decide +kernel
theorem dX0_leastByRun_32 : decode cX0_leastByRun 32 = .ok (.iconst 1, 1) := by decide +kernel
theorem dX0_leastByRun_33 : decode cX0_leastByRun 33 = .ok (.isub, 1) := by decide +kernel
theorem dX0_leastByRun_34 : decode cX0_leastByRun 34 = .ok (.if_icmp .ge 75, 3) := by decide +kernel
theorem dX0_leastByRun_37 : decode cX0_leastByRun 37 = .ok (.iload 4, 2) := by decide +kernel
theorem dX0_leastByRun_39 : decode cX0_leastByRun 39 = .ok (.aload_n 3, 1) := by decide +kernel
theorem dX0_leastByRun_40 : decode cX0_leastByRun 40 = .ok (.aload_n 3, 1) := by decide +kernel
theorem dX0_leastByRun_41 : decode cX0_leastByRun 41 = .ok (.getfield 34, 3) := by decide +kernel
theorem dX0_leastByRun_44 : decode cX0_leastByRun 44 = .ok (.iload 6, 2) := by decide +kernel
theorem dX0_leastByRun_46 : decode cX0_leastByRun 46 = .ok (.invokevirtual 55, 3) := by decide +kernel
theorem dX0_leastByRun_49 : decode cX0_leastByRun 49 = .ok (.if_icmp .le 38, 3) := by decide +kernel
theorem dX0_leastByRun_52 : decode cX0_leastByRun 52 = .ok (.iload 5, 2) := by decide +kernel
theorem dX0_leastByRun_54 : decode cX0_leastByRun 54 = .ok (.aload_n 0, 1) := by decide +kernel
theorem dX0_leastByRun_55 : decode cX0_leastByRun 55 = .ok (.iload_n 1, 1) := by decide +kernel
theorem dX0_leastByRun_56 : decode cX0_leastByRun 56 = .ok (.iload 6, 2) := by decide +kernel
theorem dX0_leastByRun_58 : decode cX0_leastByRun 58 = .ok (.iconst 1, 1) := by decide +kernel
theorem dX0_leastByRun_59 : decode cX0_leastByRun 59 = .ok (.iload_n 2, 1) := by decide +kernel
theorem dX0_leastByRun_60 : decode cX0_leastByRun 60 = .ok (.invokevirtual 58, 3) := by decide +kernel
theorem dX0_leastByRun_63 : decode cX0_leastByRun 63 = .ok (.invokestatic 62, 3) := by decide +kernel
theorem dX0_leastByRun_66 : decode cX0_leastByRun 66 = .ok (.istore 5, 2) := by decide +kernel
theorem dX0_leastByRun_68 : decode cX0_leastByRun 68 = .ok (.iload 5, 2) := by decide +kernel
theorem dX0_leastByRun_70 : decode cX0_leastByRun 70 = .ok (.aload_n 0, 1) := by decide +kernel
theorem dX0_leastByRun_71 : decode cX0_leastByRun 71 = .ok (.iload_n 1, 1) := by decide +kernel
theorem dX0_leastByRun_72 : decode cX0_leastByRun 72 = .ok (.iload 6, 2) := by decide +kernel
theorem dX0_leastByRun_74 : decode cX0_leastByRun 74 = .ok (.iconst 2, 1) := by decide +kernel
theorem dX0_leastByRun_75 : decode cX0_leastByRun 75 = .ok (.iload_n 2, 1) := by decide +kernel
theorem dX0_leastByRun_76 : decode cX0_leastByRun 76 = .ok (.invokevirtual 58, 3) := by decide +kernel
theorem dX0_leastByRun_79 : decode cX0_leastByRun 79 = .ok (.invokestatic 62, 3) := by decide +kernel
theorem dX0_leastByRun_82 : decode cX0_leastByRun 82 = .ok (.istore 5, 2) := by decide +kernel
theorem dX0_leastByRun_84 : decode cX0_leastByRun 84 = .ok (.goto 19, 3) := by decide +kernel
theorem dX0_leastByRun_87 : decode cX0_leastByRun 87 = .ok (.iload 5, 2) := by decide +kernel
theorem dX0_leastByRun_89 : decode cX0_leastByRun 89 = .ok (.aload_n 0, 1) := by decide +kernel
theorem dX0_leastByRun_90 : decode cX0_leastByRun 90 = .ok (.iload_n 1, 1) := by decide +kernel
theorem dX0_leastByRun_91 : decode cX0_leastByRun 91 = .ok (.iload 6, 2) := by decide +kernel
theorem dX0_leastByRun_93 : decode cX0_leastByRun 93 = .ok (.iconst 0, 1) := by decide +kernel
theorem dX0_leastByRun_94 : decode cX0_leastByRun 94 = .ok (.iload_n 2, 1) := by decide +kernel
theorem dX0_leastByRun_95 : decode cX0_leastByRun 95 = .ok (.invokevirtual 58, 3) := by decide +kernel
theorem dX0_leastByRun_98 : decode cX0_leastByRun 98 = .ok (.invokestatic 62, 3) := by decide +kernel
theorem dX0_leastByRun_101 : decode cX0_leastByRun 101 = .ok (.istore 5, 2) := by decide +kernel
theorem dX0_leastByRun_103 : decode cX0_leastByRun 103 = .ok (.iinc 6 1, 3) := by decide +kernel
theorem dX0_leastByRun_106 : decode cX0_leastByRun 106 = .ok (.goto (-85), 3) := by decide +kernel
theorem dX0_leastByRun_109 : decode cX0_leastByRun 109 = .ok (.iload 5, 2) := by decide +kernel
theorem dX0_leastByRun_111 : decode cX0_leastByRun 111 = .ok (.ireturn, 1) := by decide +kernel
theorem dX0_valueBehind_0 : decode cX0_valueBehind 0 = .ok (.iload 4, 2) := by decide +kernel
theorem dX0_valueBehind_2 : decode cX0_valueBehind 2 = .ok (.iconst 1, 1) := by decide +kernel
theorem dX0_valueBehind_3 : decode cX0_valueBehind 3 = .ok (.if_icmp .ge 5, 3) := by decide +kernel
theorem dX0_valueBehind_6 : decode cX0_valueBehind 6 = .ok (.iconst 0, 1) := by decide +kernel
theorem dX0_valueBehind_7 : decode cX0_valueBehind 7 = .ok (.ireturn, 1) := by decide +kernel
theorem dX0_valueBehind_8 : decode cX0_valueBehind 8 = .ok (.aload_n 0, 1) := by decide +kernel
theorem dX0_valueBehind_9 : decode cX0_valueBehind 9 = .ok (.getfield 11, 3) := by decide +kernel
theorem dX0_valueBehind_12 : decode cX0_valueBehind 12 = .ok (.iload 4, 2) := by decide +kernel
theorem dX0_valueBehind_14 : decode cX0_valueBehind 14 = .ok (.iconst 1, 1) := by decide +kernel
theorem dX0_valueBehind_15 : decode cX0_valueBehind 15 = .ok (.isub, 1) := by decide +kernel
theorem dX0_valueBehind_16 : decode cX0_valueBehind 16 = .ok (.aaload, 1) := by decide +kernel
theorem dX0_valueBehind_17 : decode cX0_valueBehind 17 = .ok (.aload_n 0, 1) := by decide +kernel
theorem dX0_valueBehind_18 : decode cX0_valueBehind 18 = .ok (.getfield 11, 3) := by decide +kernel
theorem dX0_valueBehind_21 : decode cX0_valueBehind 21 = .ok (.iload 4, 2) := by decide +kernel
theorem dX0_valueBehind_23 : decode cX0_valueBehind 23 = .ok (.aaload, 1) := by decide +kernel
theorem dX0_valueBehind_24 : decode cX0_valueBehind 24 = .ok (.invokevirtual 18, 3) := by decide +kernel
theorem dX0_valueBehind_27 : decode cX0_valueBehind 27 = .ok (.aload_n 0, 1) := by decide +kernel
theorem dX0_valueBehind_28 : decode cX0_valueBehind 28 = .ok (.getfield 11, 3) := by decide +kernel
theorem dX0_valueBehind_31 : decode cX0_valueBehind 31 = .ok (.iload 4, 2) := by decide +kernel
theorem dX0_valueBehind_33 : decode cX0_valueBehind 33 = .ok (.iconst 1, 1) := by decide +kernel
theorem dX0_valueBehind_34 : decode cX0_valueBehind 34 = .ok (.isub, 1) := by decide +kernel
theorem dX0_valueBehind_35 : decode cX0_valueBehind 35 = .ok (.aaload, 1) := by decide +kernel
theorem dX0_valueBehind_36 : decode cX0_valueBehind 36 = .ok (.iload_n 1, 1) := by decide +kernel
theorem dX0_valueBehind_37 : decode cX0_valueBehind 37 = .ok (.iload_n 2, 1) := by decide +kernel
theorem dX0_valueBehind_38 : decode cX0_valueBehind 38 = .ok (.iload_n 3, 1) := by decide +kernel
theorem dX0_valueBehind_39 : decode cX0_valueBehind 39 = .ok (.invokevirtual 67, 3) := by decide +kernel
theorem dX0_valueBehind_42 : decode cX0_valueBehind 42 = .ok (.aload_n 0, 1) := by decide +kernel
theorem dX0_valueBehind_43 : decode cX0_valueBehind 43 = .ok (.iload 4, 2) := by decide +kernel
theorem dX0_valueBehind_45 : decode cX0_valueBehind 45 = .ok (.iconst 1, 1) := by decide +kernel
theorem dX0_valueBehind_46 : decode cX0_valueBehind 46 = .ok (.isub, 1) := by decide +kernel
theorem dX0_valueBehind_47 : decode cX0_valueBehind 47 = .ok (.invokevirtual 22, 3) := by decide +kernel
theorem dX0_valueBehind_50 : decode cX0_valueBehind 50 = .ok (.ineg, 1) := by decide +kernel
theorem dX0_valueBehind_51 : decode cX0_valueBehind 51 = .ok (.ireturn, 1) := by decide +kernel
theorem dX1_init_0 : decode cX1_init 0 = .ok (.aload_n 0, 1) := by decide +kernel
theorem dX1_init_1 : decode cX1_init 1 = .ok (.invokespecial 3, 3) := by decide +kernel
theorem dX1_init_4 : decode cX1_init 4 = .ok (.aload_n 0, 1) := by decide +kernel
theorem dX1_init_5 : decode cX1_init 5 = .ok (.bipush 8, 2) := by decide +kernel
theorem dX1_init_7 : decode cX1_init 7 = .ok (.newarray .int, 2) := by decide +kernel
theorem dX1_init_9 : decode cX1_init 9 = .ok (.putfield 9, 3) := by decide +kernel
theorem dX1_init_12 : decode cX1_init 12 = .ok (.aload_n 0, 1) := by decide +kernel
theorem dX1_init_13 : decode cX1_init 13 = .ok (.bipush 8, 2) := by decide +kernel
theorem dX1_init_15 : decode cX1_init 15 = .ok (.newarray .int, 2) := by decide +kernel
theorem dX1_init_17 : decode cX1_init 17 = .ok (.putfield 15, 3) := by decide +kernel
theorem dX1_init_20 : decode cX1_init 20 = .ok (.aload_n 0, 1) := by decide +kernel
theorem dX1_init_21 : decode cX1_init 21 = .ok (.bipush 8, 2) := by decide +kernel
theorem dX1_init_23 : decode cX1_init 23 = .ok (.newarray .boolean, 2) := by decide +kernel
theorem dX1_init_25 : decode cX1_init 25 = .ok (.putfield 18, 3) := by decide +kernel
theorem dX1_init_28 : decode cX1_init 28 = .ok (.return_, 1) := by decide +kernel
theorem dX1_findBest_0 : decode cX1_findBest 0 = .ok (.aload_n 1, 1) := by decide +kernel
theorem dX1_findBest_1 : decode cX1_findBest 1 = .ok (.getfield 22, 3) := by decide +kernel
theorem dX1_findBest_4 : decode cX1_findBest 4 = .ok (.iload_n 2, 1) := by decide +kernel
theorem dX1_findBest_5 : decode cX1_findBest 5 = .ok (.aaload, 1) := by decide +kernel
theorem dX1_findBest_6 : decode cX1_findBest 6 = .ok (.iconst 0, 1) := by decide +kernel
theorem dX1_findBest_7 : decode cX1_findBest 7 = .ok (.aload_n 0, 1) := by decide +kernel
theorem dX1_findBest_8 : decode cX1_findBest 8 = .ok (.getfield 9, 3) := by decide +kernel
theorem dX1_findBest_11 : decode cX1_findBest 11 = .ok (.iconst 0, 1) := by decide +kernel
theorem dX1_findBest_12 : decode cX1_findBest 12 = .ok (.bipush 8, 2) := by decide +kernel
theorem dX1_findBest_14 : decode cX1_findBest 14 = .ok (.invokestatic 28, 3) := by decide +kernel
theorem dX1_findBest_17 : decode cX1_findBest 17 = .ok (.aload_n 1, 1) := by decide +kernel
theorem dX1_findBest_18 : decode cX1_findBest 18 = .ok (.getfield 34, 3) := by decide +kernel
theorem dX1_findBest_21 : decode cX1_findBest 21 = .ok (.iload_n 2, 1) := by decide +kernel
theorem dX1_findBest_22 : decode cX1_findBest 22 = .ok (.iaload, 1) := by decide +kernel
theorem dX1_findBest_23 : decode cX1_findBest 23 = .ok (.iconst 2, 1) := by decide +kernel
theorem dX1_findBest_24 : decode cX1_findBest 24 = .ok (.if_icmp .lt 14, 3) := by decide +kernel
theorem dX1_findBest_27 : decode cX1_findBest 27 = .ok (.aload_n 1, 1) := by decide +kernel
theorem dX1_findBest_28 : decode cX1_findBest 28 = .ok (.getfield 34, 3) := by decide +kernel
theorem dX1_findBest_31 : decode cX1_findBest 31 = .ok (.iload_n 2, 1) := by decide +kernel
theorem dX1_findBest_32 : decode cX1_findBest 32 = .ok (.iaload, 1) := by decide +kernel
theorem dX1_findBest_33 : decode cX1_findBest 33 = .ok (.bipush 7, 2) := by decide +kernel
theorem dX1_findBest_35 : decode cX1_findBest 35 = .ok (.if_icmp .le 5, 3) := by decide +kernel
theorem dX1_findBest_38 : decode cX1_findBest 38 = .ok (.iconst 0, 1) := by decide +kernel
theorem dX1_findBest_39 : decode cX1_findBest 39 = .ok (.ireturn, 1) := by decide +kernel
theorem dX1_findBest_40 : decode cX1_findBest 40 = .ok (.aload_n 0, 1) := by decide +kernel
theorem dX1_findBest_41 : decode cX1_findBest 41 = .ok (.aload_n 1, 1) := by decide +kernel
theorem dX1_findBest_42 : decode cX1_findBest 42 = .ok (.putfield 37, 3) := by decide +kernel
theorem dX1_findBest_45 : decode cX1_findBest 45 = .ok (.aload_n 0, 1) := by decide +kernel
theorem dX1_findBest_46 : decode cX1_findBest 46 = .ok (.iload_n 2, 1) := by decide +kernel
theorem dX1_findBest_47 : decode cX1_findBest 47 = .ok (.putfield 41, 3) := by decide +kernel
theorem dX1_findBest_50 : decode cX1_findBest 50 = .ok (.aload_n 0, 1) := by decide +kernel
theorem dX1_findBest_51 : decode cX1_findBest 51 = .ok (.iconst (-1), 1) := by decide +kernel
theorem dX1_findBest_52 : decode cX1_findBest 52 = .ok (.putfield 45, 3) := by decide +kernel
theorem dX1_findBest_55 : decode cX1_findBest 55 = .ok (.iconst 0, 1) := by decide +kernel
theorem dX1_findBest_56 : decode cX1_findBest 56 = .ok (.istore_n 3, 1) := by decide +kernel
theorem dX1_findBest_57 : decode cX1_findBest 57 = .ok (.iload_n 3, 1) := by decide +kernel
theorem dX1_findBest_58 : decode cX1_findBest 58 = .ok (.bipush 8, 2) := by decide +kernel
theorem dX1_findBest_60 : decode cX1_findBest 60 = .ok (.if_icmp .ge 16, 3) := by decide +kernel
theorem dX1_findBest_63 : decode cX1_findBest 63 = .ok (.aload_n 0, 1) := by decide +kernel
theorem dX1_findBest_64 : decode cX1_findBest 64 = .ok (.getfield 18, 3) := by decide +kernel
theorem dX1_findBest_67 : decode cX1_findBest 67 = .ok (.iload_n 3, 1) := by decide +kernel
theorem dX1_findBest_68 : decode cX1_findBest 68 = .ok (.iconst 0, 1) := by decide +kernel
theorem dX1_findBest_69 : decode cX1_findBest 69 = .ok (.bastore, 1) := by decide +kernel
theorem dX1_findBest_70 : decode cX1_findBest 70 = .ok (.iinc 3 1, 3) := by decide +kernel
theorem dX1_findBest_73 : decode cX1_findBest 73 = .ok (.goto (-16), 3) := by decide +kernel
theorem dX1_findBest_76 : decode cX1_findBest 76 = .ok (.aload_n 0, 1) := by decide +kernel
theorem dX1_findBest_77 : decode cX1_findBest 77 = .ok (.iconst 0, 1) := by decide +kernel
theorem dX1_findBest_78 : decode cX1_findBest 78 = .ok (.ldc 48, 2) := by decide +kernel
theorem dX1_findBest_80 : decode cX1_findBest 80 = .ok (.invokevirtual 49, 3) := by decide +kernel
theorem dX1_findBest_83 : decode cX1_findBest 83 = .ok (.aload_n 0, 1) := by decide +kernel
theorem dX1_findBest_84 : decode cX1_findBest 84 = .ok (.getfield 45, 3) := by decide +kernel
theorem dX1_findBest_87 : decode cX1_findBest 87 = .ok (.ireturn, 1) := by decide +kernel
theorem dX1_fillFrom_0 : decode cX1_fillFrom 0 = .ok (.aload_n 0, 1) := by decide +kernel
theorem dX1_fillFrom_1 : decode cX1_fillFrom 1 = .ok (.getfield 37, 3) := by decide +kernel
theorem dX1_fillFrom_4 : decode cX1_fillFrom 4 = .ok (.getfield 34, 3) := by decide +kernel
theorem dX1_fillFrom_7 : decode cX1_fillFrom 7 = .ok (.aload_n 0, 1) := by decide +kernel
theorem dX1_fillFrom_8 : decode cX1_fillFrom 8 = .ok (.getfield 41, 3) := by decide +kernel
theorem dX1_fillFrom_11 : decode cX1_fillFrom 11 = .ok (.iaload, 1) := by decide +kernel
theorem dX1_fillFrom_12 : decode cX1_fillFrom 12 = .ok (.istore_n 3, 1) := by decide +kernel
theorem dX1_fillFrom_13 : decode cX1_fillFrom 13 = .ok (.iload_n 1, 1) := by decide +kernel
theorem dX1_fillFrom_14 : decode cX1_fillFrom 14 = .ok (.iload_n 3, 1) := by decide +kernel
theorem dX1_fillFrom_15 : decode cX1_fillFrom 15 = .ok (.if_icmp .lt 23, 3) := by decide +kernel
theorem dX1_fillFrom_18 : decode cX1_fillFrom 18 = .ok (.aload_n 0, 1) := by decide +kernel
theorem dX1_fillFrom_19 : decode cX1_fillFrom 19 = .ok (.iload_n 2, 1) := by decide +kernel
theorem dX1_fillFrom_20 : decode cX1_fillFrom 20 = .ok (.putfield 45, 3) := by decide +kernel
theorem dX1_fillFrom_23 : decode cX1_fillFrom 23 = .ok (.aload_n 0, 1) := by decide +kernel
theorem dX1_fillFrom_24 : decode cX1_fillFrom 24 = .ok (.getfield 15, 3) := by decide +kernel
theorem dX1_fillFrom_27 : decode cX1_fillFrom 27 = .ok (.iconst 0, 1) := by decide +kernel
theorem dX1_fillFrom_28 : decode cX1_fillFrom 28 = .ok (.aload_n 0, 1) := by decide +kernel
theorem dX1_fillFrom_29 : decode cX1_fillFrom 29 = .ok (.getfield 9, 3) := by decide +kernel
theorem dX1_fillFrom_32 : decode cX1_fillFrom 32 = .ok (.iconst 0, 1) := by decide +kernel
theorem dX1_fillFrom_33 : decode cX1_fillFrom 33 = .ok (.iload_n 3, 1) := by decide +kernel
theorem dX1_fillFrom_34 : decode cX1_fillFrom 34 = .ok (.invokestatic 28, 3) := by decide +kernel
theorem dX1_fillFrom_37 : decode cX1_fillFrom 37 = .ok (.return_, 1) := by decide +kernel
theorem dX1_fillFrom_38 : decode cX1_fillFrom 38 = .ok (.iconst 0, 1) := by decide +kernel
theorem dX1_fillFrom_39 : decode cX1_fillFrom 39 = .ok (.istore 4, 2) := by decide +kernel
theorem dX1_fillFrom_41 : decode cX1_fillFrom 41 = .ok (.iload 4, 2) := by decide +kernel
theorem dX1_fillFrom_43 : decode cX1_fillFrom 43 = .ok (.aload_n 0, 1) := by decide +kernel
theorem dX1_fillFrom_44 : decode cX1_fillFrom 44 = .ok (.getfield 37, 3) := by decide +kernel
theorem dX1_fillFrom_47 : decode cX1_fillFrom 47 = .ok (.getfield 53, 3) := by decide +kernel
theorem dX1_fillFrom_50 : decode cX1_fillFrom 50 = .ok (.if_icmp .ge 102, 3) := by decide +kernel
theorem dX1_fillFrom_53 : decode cX1_fillFrom 53 = .ok (.aload_n 0, 1) := by decide +kernel
theorem dX1_fillFrom_54 : decode cX1_fillFrom 54 = .ok (.getfield 18, 3) := by decide +kernel
theorem dX1_fillFrom_57 : decode cX1_fillFrom 57 = .ok (.iload 4, 2) := by decide +kernel
theorem dX1_fillFrom_59 : decode cX1_fillFrom 59 = .ok (.baload, 1) := by decide +kernel
theorem dX1_fillFrom_60 : decode cX1_fillFrom 60 = .ok (.ifCond .ne 86, 3) := by decide +kernel
theorem dX1_fillFrom_63 : decode cX1_fillFrom 63 = .ok (.aload_n 0, 1) := by decide +kernel
theorem dX1_fillFrom_64 : decode cX1_fillFrom 64 = .ok (.getfield 37, 3) := by decide +kernel
theorem dX1_fillFrom_67 : decode cX1_fillFrom 67 = .ok (.getfield 56, 3) := by decide +kernel
theorem dX1_fillFrom_70 : decode cX1_fillFrom 70 = .ok (.iload 4, 2) := by decide +kernel
theorem dX1_fillFrom_72 : decode cX1_fillFrom 72 = .ok (.iaload, 1) := by decide +kernel
theorem dX1_fillFrom_73 : decode cX1_fillFrom 73 = .ok (.aload_n 0, 1) := by decide +kernel
theorem dX1_fillFrom_74 : decode cX1_fillFrom 74 = .ok (.getfield 41, 3) := by decide +kernel
theorem dX1_fillFrom_77 : decode cX1_fillFrom 77 = .ok (.if_icmp .eq 6, 3) := by decide +kernel
theorem dX1_fillFrom_80 : decode cX1_fillFrom 80 = .ok (.goto 66, 3) := by decide +kernel
theorem dX1_fillFrom_83 : decode cX1_fillFrom 83 = .ok (.iload_n 1, 1) := by decide +kernel
theorem dX1_fillFrom_84 : decode cX1_fillFrom 84 = .ok (.ifCond .ne 7, 3) := by decide +kernel
theorem dX1_fillFrom_87 : decode cX1_fillFrom 87 = .ok (.iload_n 2, 1) := by decide +kernel
theorem dX1_fillFrom_88 : decode cX1_fillFrom 88 = .ok (.goto 14, 3) := by decide +kernel
theorem dX1_fillFrom_91 : decode cX1_fillFrom 91 = .ok (.iload_n 2, 1) := by decide +kernel
theorem dX1_fillFrom_92 : decode cX1_fillFrom 92 = .ok (.aload_n 0, 1) := by decide +kernel
theorem dX1_fillFrom_93 : decode cX1_fillFrom 93 = .ok (.iload_n 1, 1) := by decide +kernel
theorem dX1_fillFrom_94 : decode cX1_fillFrom 94 = .ok (.iload 4, 2) := by decide +kernel
theorem dX1_fillFrom_96 : decode cX1_fillFrom 96 = .ok (.invokevirtual 59, 3) := by decide +kernel
theorem dX1_fillFrom_99 : decode cX1_fillFrom 99 = .ok (.invokestatic 63, 3) := by decide +kernel
theorem dX1_fillFrom_102 : decode cX1_fillFrom 102 = .ok (.istore 5, 2) := by decide +kernel
theorem dX1_fillFrom_104 : decode cX1_fillFrom 104 = .ok (.iload 5, 2) := by decide +kernel
theorem dX1_fillFrom_106 : decode cX1_fillFrom 106 = .ok (.aload_n 0, 1) := by decide +kernel
theorem dX1_fillFrom_107 : decode cX1_fillFrom 107 = .ok (.getfield 45, 3) := by decide +kernel
theorem dX1_fillFrom_110 : decode cX1_fillFrom 110 = .ok (.if_icmp .le 36, 3) := by decide +kernel
theorem dX1_fillFrom_113 : decode cX1_fillFrom 113 = .ok (.aload_n 0, 1) := by decide +kernel
theorem dX1_fillFrom_114 : decode cX1_fillFrom 114 = .ok (.getfield 15, 3) := by decide +kernel
theorem dX1_fillFrom_117 : decode cX1_fillFrom 117 = .ok (.iload_n 1, 1) := by decide +kernel
theorem dX1_fillFrom_118 : decode cX1_fillFrom 118 = .ok (.iload 4, 2) := by decide +kernel
theorem dX1_fillFrom_120 : decode cX1_fillFrom 120 = .ok (.iastore, 1) := by decide +kernel
theorem dX1_fillFrom_121 : decode cX1_fillFrom 121 = .ok (.aload_n 0, 1) := by decide +kernel
theorem dX1_fillFrom_122 : decode cX1_fillFrom 122 = .ok (.getfield 18, 3) := by decide +kernel
theorem dX1_fillFrom_125 : decode cX1_fillFrom 125 = .ok (.iload 4, 2) := by decide +kernel
theorem dX1_fillFrom_127 : decode cX1_fillFrom 127 = .ok (.iconst 1, 1) := by decide +kernel
theorem dX1_fillFrom_128 : decode cX1_fillFrom 128 = .ok (.bastore, 1) := by decide +kernel
theorem dX1_fillFrom_129 : decode cX1_fillFrom 129 = .ok (.aload_n 0, 1) := by decide +kernel
theorem dX1_fillFrom_130 : decode cX1_fillFrom 130 = .ok (.iload_n 1, 1) := by decide +kernel
theorem dX1_fillFrom_131 : decode cX1_fillFrom 131 = .ok (.iconst 1, 1) := by decide +kernel
theorem dX1_fillFrom_132 : decode cX1_fillFrom 132 = .ok (.iadd, 1) := by decide +kernel
theorem dX1_fillFrom_133 : decode cX1_fillFrom 133 = .ok (.iload 5, 2) := by decide +kernel
theorem dX1_fillFrom_135 : decode cX1_fillFrom 135 = .ok (.invokevirtual 49, 3) := by decide +kernel
theorem dX1_fillFrom_138 : decode cX1_fillFrom 138 = .ok (.aload_n 0, 1) := by decide +kernel
theorem dX1_fillFrom_139 : decode cX1_fillFrom 139 = .ok (.getfield 18, 3) := by decide +kernel
theorem dX1_fillFrom_142 : decode cX1_fillFrom 142 = .ok (.iload 4, 2) := by decide +kernel
theorem dX1_fillFrom_144 : decode cX1_fillFrom 144 = .ok (.iconst 0, 1) := by decide +kernel
theorem dX1_fillFrom_145 : decode cX1_fillFrom 145 = .ok (.bastore, 1) := by decide +kernel
theorem dX1_fillFrom_146 : decode cX1_fillFrom 146 = .ok (.iinc 4 1, 3) := by decide +kernel
theorem dX1_fillFrom_149 : decode cX1_fillFrom 149 = .ok (.goto (-108), 3) := by decide +kernel
theorem dX1_fillFrom_152 : decode cX1_fillFrom 152 = .ok (.return_, 1) := by decide +kernel
theorem dX1_strengthBehind_0 : decode cX1_strengthBehind 0 = .ok (.aload_n 0, 1) := by decide +kernel
theorem dX1_strengthBehind_1 : decode cX1_strengthBehind 1 = .ok (.getfield 15, 3) := by decide +kernel
theorem dX1_strengthBehind_4 : decode cX1_strengthBehind 4 = .ok (.iload_n 1, 1) := by decide +kernel
theorem dX1_strengthBehind_5 : decode cX1_strengthBehind 5 = .ok (.iconst 1, 1) := by decide +kernel
theorem dX1_strengthBehind_6 : decode cX1_strengthBehind 6 = .ok (.isub, 1) := by decide +kernel
theorem dX1_strengthBehind_7 : decode cX1_strengthBehind 7 = .ok (.iaload, 1) := by decide +kernel
theorem dX1_strengthBehind_8 : decode cX1_strengthBehind 8 = .ok (.istore_n 3, 1) := by decide +kernel
theorem dX1_strengthBehind_9 : decode cX1_strengthBehind 9 = .ok (.iload_n 1, 1) := by decide +kernel
theorem dX1_strengthBehind_10 : decode cX1_strengthBehind 10 = .ok (.iconst 1, 1) := by decide +kernel
theorem dX1_strengthBehind_11 : decode cX1_strengthBehind 11 = .ok (.if_icmp .eq 21, 3) := by decide +kernel
theorem dX1_strengthBehind_14 : decode cX1_strengthBehind 14 = .ok (.iload_n 1, 1) := by decide +kernel
theorem dX1_strengthBehind_15 : decode cX1_strengthBehind 15 = .ok (.aload_n 0, 1) := by decide +kernel
theorem dX1_strengthBehind_16 : decode cX1_strengthBehind 16 = .ok (.getfield 37, 3) := by decide +kernel
theorem dX1_strengthBehind_19 : decode cX1_strengthBehind 19 = .ok (.getfield 34, 3) := by decide +kernel
theorem dX1_strengthBehind_22 : decode cX1_strengthBehind 22 = .ok (.aload_n 0, 1) := by decide +kernel
theorem dX1_strengthBehind_23 : decode cX1_strengthBehind 23 = .ok (.getfield 41, 3) := by decide +kernel
theorem dX1_strengthBehind_26 : decode cX1_strengthBehind 26 = .ok (.iaload, 1) := by decide +kernel
theorem dX1_strengthBehind_27 : decode cX1_strengthBehind 27 = .ok (.iconst 1, 1) := by decide +kernel
theorem dX1_strengthBehind_28 : decode cX1_strengthBehind 28 = .ok (.isub, 1) := by decide +kernel
theorem dX1_strengthBehind_29 : decode cX1_strengthBehind 29 = .ok (.if_icmp .ne 7, 3) := by decide +kernel
theorem dX1_strengthBehind_32 : decode cX1_strengthBehind 32 = .ok (.iconst 1, 1) := by decide +kernel
theorem dX1_strengthBehind_33 : decode cX1_strengthBehind 33 = .ok (.goto 4, 3) := by decide +kernel
theorem dX1_strengthBehind_36 : decode cX1_strengthBehind 36 = .ok (.iconst 0, 1) := by decide +kernel
theorem dX1_strengthBehind_37 : decode cX1_strengthBehind 37 = .ok (.istore 4, 2) := by decide +kernel
theorem dX1_strengthBehind_39 : decode cX1_strengthBehind 39 = .ok (.aload_n 0, 1) := by decide +kernel
theorem dX1_strengthBehind_40 : decode cX1_strengthBehind 40 = .ok (.getfield 37, 3) := by decide +kernel
theorem dX1_strengthBehind_43 : decode cX1_strengthBehind 43 = .ok (.aload_n 0, 1) := by decide +kernel
theorem dX1_strengthBehind_44 : decode cX1_strengthBehind 44 = .ok (.getfield 37, 3) := by decide +kernel
theorem dX1_strengthBehind_47 : decode cX1_strengthBehind 47 = .ok (.iload_n 3, 1) := by decide +kernel
theorem dX1_strengthBehind_48 : decode cX1_strengthBehind 48 = .ok (.iload_n 2, 1) := by decide +kernel
theorem dX1_strengthBehind_49 : decode cX1_strengthBehind 49 = .ok (.invokevirtual 68, 3) := by decide +kernel
theorem dX1_strengthBehind_52 : decode cX1_strengthBehind 52 = .ok (.aload_n 0, 1) := by decide +kernel
theorem dX1_strengthBehind_53 : decode cX1_strengthBehind 53 = .ok (.getfield 37, 3) := by decide +kernel
theorem dX1_strengthBehind_56 : decode cX1_strengthBehind 56 = .ok (.iload_n 2, 1) := by decide +kernel
theorem dX1_strengthBehind_57 : decode cX1_strengthBehind 57 = .ok (.iload_n 3, 1) := by decide +kernel
theorem dX1_strengthBehind_58 : decode cX1_strengthBehind 58 = .ok (.invokevirtual 68, 3) := by decide +kernel
theorem dX1_strengthBehind_61 : decode cX1_strengthBehind 61 = .ok (.iadd, 1) := by decide +kernel
theorem dX1_strengthBehind_62 : decode cX1_strengthBehind 62 = .ok (.iload 4, 2) := by decide +kernel
theorem dX1_strengthBehind_64 : decode cX1_strengthBehind 64 = .ok (.invokevirtual 71, 3) := by decide +kernel
theorem dX1_strengthBehind_67 : decode cX1_strengthBehind 67 = .ok (.ireturn, 1) := by decide +kernel
theorem dX2_init_0 : decode cX2_init 0 = .ok (.aload_n 0, 1) := by decide +kernel
theorem dX2_init_1 : decode cX2_init 1 = .ok (.invokespecial 3, 3) := by decide +kernel
theorem dX2_init_4 : decode cX2_init 4 = .ok (.aload_n 0, 1) := by decide +kernel
theorem dX2_init_5 : decode cX2_init 5 = .ok (.aload_n 1, 1) := by decide +kernel
theorem dX2_init_6 : decode cX2_init 6 = .ok (.putfield 9, 3) := by decide +kernel
theorem dX2_init_9 : decode cX2_init 9 = .ok (.return_, 1) := by decide +kernel
theorem dX2_playFrom_0 : decode cX2_playFrom 0 = .ok (.aload_n 0, 1) := by decide +kernel
theorem dX2_playFrom_1 : decode cX2_playFrom 1 = .ok (.getfield 9, 3) := by decide +kernel
theorem dX2_playFrom_4 : decode cX2_playFrom 4 = .ok (.aload_n 1, 1) := by decide +kernel
theorem dX2_playFrom_5 : decode cX2_playFrom 5 = .ok (.invokevirtual 15, 3) := by decide +kernel
theorem dX2_playFrom_8 : decode cX2_playFrom 8 = .ok (.aload_n 0, 1) := by decide +kernel
theorem dX2_playFrom_9 : decode cX2_playFrom 9 = .ok (.iconst 0, 1) := by decide +kernel
theorem dX2_playFrom_10 : decode cX2_playFrom 10 = .ok (.putfield 21, 3) := by decide +kernel
theorem dX2_playFrom_13 : decode cX2_playFrom 13 = .ok (.aload_n 0, 1) := by decide +kernel
theorem dX2_playFrom_14 : decode cX2_playFrom 14 = .ok (.iconst 0, 1) := by decide +kernel
theorem dX2_playFrom_15 : decode cX2_playFrom 15 = .ok (.putfield 25, 3) := by decide +kernel
theorem dX2_playFrom_18 : decode cX2_playFrom 18 = .ok (.iconst (-1), 1) := by decide +kernel
theorem dX2_playFrom_19 : decode cX2_playFrom 19 = .ok (.istore_n 3, 1) := by decide +kernel
theorem dX2_playFrom_20 : decode cX2_playFrom 20 = .ok (.iconst 0, 1) := by decide +kernel
theorem dX2_playFrom_21 : decode cX2_playFrom 21 = .ok (.istore 4, 2) := by decide +kernel
theorem dX2_playFrom_23 : decode cX2_playFrom 23 = .ok (.iload 4, 2) := by decide +kernel
theorem dX2_playFrom_25 : decode cX2_playFrom 25 = .ok (.bipush 99, 2) := by decide +kernel
theorem dX2_playFrom_27 : decode cX2_playFrom 27 = .ok (.if_icmp .ge 147, 3) := by decide +kernel
theorem dX2_playFrom_30 : decode cX2_playFrom 30 = .ok (.aload_n 0, 1) := by decide +kernel
theorem dX2_playFrom_31 : decode cX2_playFrom 31 = .ok (.getfield 9, 3) := by decide +kernel
theorem dX2_playFrom_34 : decode cX2_playFrom 34 = .ok (.invokevirtual 28, 3) := by decide +kernel
theorem dX2_playFrom_37 : decode cX2_playFrom 37 = .ok (.ifCond .ne 137, 3) := by decide +kernel
theorem dX2_playFrom_40 : decode cX2_playFrom 40 = .ok (.aload_n 0, 1) := by decide +kernel
theorem dX2_playFrom_41 : decode cX2_playFrom 41 = .ok (.getfield 9, 3) := by decide +kernel
theorem dX2_playFrom_44 : decode cX2_playFrom 44 = .ok (.iload_n 2, 1) := by decide +kernel
theorem dX2_playFrom_45 : decode cX2_playFrom 45 = .ok (.invokevirtual 32, 3) := by decide +kernel
theorem dX2_playFrom_48 : decode cX2_playFrom 48 = .ok (.istore 5, 2) := by decide +kernel
theorem dX2_playFrom_50 : decode cX2_playFrom 50 = .ok (.aload_n 0, 1) := by decide +kernel
theorem dX2_playFrom_51 : decode cX2_playFrom 51 = .ok (.getfield 9, 3) := by decide +kernel
theorem dX2_playFrom_54 : decode cX2_playFrom 54 = .ok (.iload 5, 2) := by decide +kernel
theorem dX2_playFrom_56 : decode cX2_playFrom 56 = .ok (.invokevirtual 36, 3) := by decide +kernel
theorem dX2_playFrom_59 : decode cX2_playFrom 59 = .ok (.istore 6, 2) := by decide +kernel
theorem dX2_playFrom_61 : decode cX2_playFrom 61 = .ok (.aload_n 0, 1) := by decide +kernel
theorem dX2_playFrom_62 : decode cX2_playFrom 62 = .ok (.getfield 9, 3) := by decide +kernel
theorem dX2_playFrom_65 : decode cX2_playFrom 65 = .ok (.iload 5, 2) := by decide +kernel
theorem dX2_playFrom_67 : decode cX2_playFrom 67 = .ok (.iload 6, 2) := by decide +kernel
theorem dX2_playFrom_69 : decode cX2_playFrom 69 = .ok (.invokevirtual 39, 3) := by decide +kernel
theorem dX2_playFrom_72 : decode cX2_playFrom 72 = .ok (.ldc 43, 2) := by decide +kernel
theorem dX2_playFrom_74 : decode cX2_playFrom 74 = .ok (.if_icmp .lt 7, 3) := by decide +kernel
theorem dX2_playFrom_77 : decode cX2_playFrom 77 = .ok (.iconst 1, 1) := by decide +kernel
theorem dX2_playFrom_78 : decode cX2_playFrom 78 = .ok (.goto 4, 3) := by decide +kernel
theorem dX2_playFrom_81 : decode cX2_playFrom 81 = .ok (.iconst 0, 1) := by decide +kernel
theorem dX2_playFrom_82 : decode cX2_playFrom 82 = .ok (.istore 7, 2) := by decide +kernel
theorem dX2_playFrom_84 : decode cX2_playFrom 84 = .ok (.aload_n 0, 1) := by decide +kernel
theorem dX2_playFrom_85 : decode cX2_playFrom 85 = .ok (.getfield 9, 3) := by decide +kernel
theorem dX2_playFrom_88 : decode cX2_playFrom 88 = .ok (.iload 5, 2) := by decide +kernel
theorem dX2_playFrom_90 : decode cX2_playFrom 90 = .ok (.iload 6, 2) := by decide +kernel
theorem dX2_playFrom_92 : decode cX2_playFrom 92 = .ok (.iload 7, 2) := by decide +kernel
theorem dX2_playFrom_94 : decode cX2_playFrom 94 = .ok (.ifCond .eq 17, 3) := by decide +kernel
theorem dX2_playFrom_97 : decode cX2_playFrom 97 = .ok (.iconst 1, 1) := by decide +kernel
theorem dX2_playFrom_98 : decode cX2_playFrom 98 = .ok (.aload_n 0, 1) := by decide +kernel
theorem dX2_playFrom_99 : decode cX2_playFrom 99 = .ok (.getfield 9, 3) := by decide +kernel
theorem dX2_playFrom_102 : decode cX2_playFrom 102 = .ok (.iload 6, 2) := by decide +kernel
theorem dX2_playFrom_104 : decode cX2_playFrom 104 = .ok (.invokevirtual 44, 3) := by decide +kernel
theorem dX2_playFrom_107 : decode cX2_playFrom 107 = .ok (.iadd, 1) := by decide +kernel
theorem dX2_playFrom_108 : decode cX2_playFrom 108 = .ok (.goto 4, 3) := by decide +kernel
theorem dX2_playFrom_111 : decode cX2_playFrom 111 = .ok (.iconst 0, 1) := by decide +kernel
theorem dX2_playFrom_112 : decode cX2_playFrom 112 = .ok (.invokevirtual 47, 3) := by decide +kernel
theorem dX2_playFrom_115 : decode cX2_playFrom 115 = .ok (.aload_n 0, 1) := by decide +kernel
theorem dX2_playFrom_116 : decode cX2_playFrom 116 = .ok (.dup, 1) := by decide +kernel
theorem dX2_playFrom_117 : decode cX2_playFrom 117 = .ok (.getfield 21, 3) := by decide +kernel
theorem dX2_playFrom_120 : decode cX2_playFrom 120 = .ok (.iconst 1, 1) := by decide +kernel
theorem dX2_playFrom_121 : decode cX2_playFrom 121 = .ok (.iadd, 1) := by decide +kernel
theorem dX2_playFrom_122 : decode cX2_playFrom 122 = .ok (.putfield 21, 3) := by decide +kernel
theorem dX2_playFrom_125 : decode cX2_playFrom 125 = .ok (.aload_n 0, 1) := by decide +kernel
theorem dX2_playFrom_126 : decode cX2_playFrom 126 = .ok (.getfield 9, 3) := by decide +kernel
theorem dX2_playFrom_129 : decode cX2_playFrom 129 = .ok (.invokevirtual 51, 3) := by decide +kernel
theorem dX2_playFrom_132 : decode cX2_playFrom 132 = .ok (.istore 8, 2) := by decide +kernel
theorem dX2_playFrom_134 : decode cX2_playFrom 134 = .ok (.iload 8, 2) := by decide +kernel
theorem dX2_playFrom_136 : decode cX2_playFrom 136 = .ok (.iconst (-1), 1) := by decide +kernel
theorem dX2_playFrom_137 : decode cX2_playFrom 137 = .ok (.if_icmp .eq 31, 3) := by decide +kernel
theorem dX2_playFrom_140 : decode cX2_playFrom 140 = .ok (.aload_n 0, 1) := by decide +kernel
theorem dX2_playFrom_141 : decode cX2_playFrom 141 = .ok (.dup, 1) := by decide +kernel
theorem dX2_playFrom_142 : decode cX2_playFrom 142 = .ok (.getfield 25, 3) := by decide +kernel
theorem dX2_playFrom_145 : decode cX2_playFrom 145 = .ok (.iload_n 3, 1) := by decide +kernel
theorem dX2_playFrom_146 : decode cX2_playFrom 146 = .ok (.iconst (-1), 1) := by decide +kernel
theorem dX2_playFrom_147 : decode cX2_playFrom 147 = .ok (.if_icmp .eq 13, 3) := by decide +kernel
theorem dX2_playFrom_150 : decode cX2_playFrom 150 = .ok (.iload_n 3, 1) := by decide +kernel
theorem dX2_playFrom_151 : decode cX2_playFrom 151 = .ok (.iload 8, 2) := by decide +kernel
theorem dX2_playFrom_153 : decode cX2_playFrom 153 = .ok (.if_icmp .eq 7, 3) := by decide +kernel
theorem dX2_playFrom_156 : decode cX2_playFrom 156 = .ok (.iconst 1, 1) := by decide +kernel
theorem dX2_playFrom_157 : decode cX2_playFrom 157 = .ok (.goto 4, 3) := by decide +kernel
theorem dX2_playFrom_160 : decode cX2_playFrom 160 = .ok (.iconst 0, 1) := by decide +kernel
theorem dX2_playFrom_161 : decode cX2_playFrom 161 = .ok (.iadd, 1) := by decide +kernel
theorem dX2_playFrom_162 : decode cX2_playFrom 162 = .ok (.putfield 25, 3) := by decide +kernel
theorem dX2_playFrom_165 : decode cX2_playFrom 165 = .ok (.iload 8, 2) := by decide +kernel
theorem dX2_playFrom_167 : decode cX2_playFrom 167 = .ok (.istore_n 3, 1) := by decide +kernel
theorem dX2_playFrom_168 : decode cX2_playFrom 168 = .ok (.iinc 4 1, 3) := by decide +kernel
theorem dX2_playFrom_171 : decode cX2_playFrom 171 = .ok (.goto (-148), 3) := by decide +kernel
theorem dX2_playFrom_174 : decode cX2_playFrom 174 = .ok (.return_, 1) := by decide +kernel
theorem dX3_init_0 : decode cX3_init 0 = .ok (.aload_n 0, 1) := by decide +kernel
theorem dX3_init_1 : decode cX3_init 1 = .ok (.invokespecial 3, 3) := by decide +kernel
theorem dX3_init_4 : decode cX3_init 4 = .ok (.aload_n 0, 1) := by decide +kernel
theorem dX3_init_5 : decode cX3_init 5 = .ok (.bipush 40, 2) := by decide +kernel
theorem dX3_init_7 : decode cX3_init 7 = .ok (.newarray .long, 2) := by decide +kernel
theorem dX3_init_9 : decode cX3_init 9 = .ok (.putfield 9, 3) := by decide +kernel
theorem dX3_init_12 : decode cX3_init 12 = .ok (.aload_n 0, 1) := by decide +kernel
theorem dX3_init_13 : decode cX3_init 13 = .ok (.iconst (-1), 1) := by decide +kernel
theorem dX3_init_14 : decode cX3_init 14 = .ok (.putfield 15, 3) := by decide +kernel
theorem dX3_init_17 : decode cX3_init 17 = .ok (.return_, 1) := by decide +kernel
theorem dX3_isRow_0 : decode cX3_isRow 0 = .ok (.aload_n 0, 1) := by decide +kernel
theorem dX3_isRow_1 : decode cX3_isRow 1 = .ok (.getfield 15, 3) := by decide +kernel
theorem dX3_isRow_4 : decode cX3_isRow 4 = .ok (.ifCond .lt 15, 3) := by decide +kernel
theorem dX3_isRow_7 : decode cX3_isRow 7 = .ok (.aload_n 0, 1) := by decide +kernel
theorem dX3_isRow_8 : decode cX3_isRow 8 = .ok (.getfield 15, 3) := by decide +kernel
theorem dX3_isRow_11 : decode cX3_isRow 11 = .ok (.iconst 5, 1) := by decide +kernel
theorem dX3_isRow_12 : decode cX3_isRow 12 = .ok (.if_icmp .ge 7, 3) := by decide +kernel
theorem dX3_isRow_15 : decode cX3_isRow 15 = .ok (.iconst 1, 1) := by decide +kernel
theorem dX3_isRow_16 : decode cX3_isRow 16 = .ok (.goto 4, 3) := by decide +kernel
theorem dX3_isRow_19 : decode cX3_isRow 19 = .ok (.iconst 0, 1) := by decide +kernel
theorem dX3_isRow_20 : decode cX3_isRow 20 = .ok (.ireturn, 1) := by decide +kernel
theorem dX3_isSomebody_0 : decode cX3_isSomebody 0 = .ok (.aload_n 0, 1) := by decide +kernel
theorem dX3_isSomebody_1 : decode cX3_isSomebody 1 = .ok (.getfield 15, 3) := by decide +kernel
theorem dX3_isSomebody_4 : decode cX3_isSomebody 4 = .ok (.bipush 10, 2) := by decide +kernel
theorem dX3_isSomebody_6 : decode cX3_isSomebody 6 = .ok (.if_icmp .lt 7, 3) := by decide +kernel
theorem dX3_isSomebody_9 : decode cX3_isSomebody 9 = .ok (.iconst 1, 1) := by decide +kernel
theorem dX3_isSomebody_10 : decode cX3_isSomebody 10 = .ok (.goto 4, 3) := by decide +kernel
theorem dX3_isSomebody_13 : decode cX3_isSomebody 13 = .ok (.iconst 0, 1) := by decide +kernel
theorem dX3_isSomebody_14 : decode cX3_isSomebody 14 = .ok (.ireturn, 1) := by decide +kernel
theorem dX3_putRow_0 : decode cX3_putRow 0 = .ok (.aload_n 0, 1) := by decide +kernel
theorem dX3_putRow_1 : decode cX3_putRow 1 = .ok (.iload_n 1, 1) := by decide +kernel
theorem dX3_putRow_2 : decode cX3_putRow 2 = .ok (.putfield 15, 3) := by decide +kernel
theorem dX3_putRow_5 : decode cX3_putRow 5 = .ok (.aload_n 0, 1) := by decide +kernel
theorem dX3_putRow_6 : decode cX3_putRow 6 = .ok (.iload_n 2, 1) := by decide +kernel
theorem dX3_putRow_7 : decode cX3_putRow 7 = .ok (.putfield 19, 3) := by decide +kernel
theorem dX3_putRow_10 : decode cX3_putRow 10 = .ok (.iconst 0, 1) := by decide +kernel
theorem dX3_putRow_11 : decode cX3_putRow 11 = .ok (.istore_n 3, 1) := by decide +kernel
theorem dX3_putRow_12 : decode cX3_putRow 12 = .ok (.iload_n 3, 1) := by decide +kernel
theorem dX3_putRow_13 : decode cX3_putRow 13 = .ok (.bipush 40, 2) := by decide +kernel
theorem dX3_putRow_15 : decode cX3_putRow 15 = .ok (.if_icmp .ge 16, 3) := by decide +kernel
theorem dX3_putRow_18 : decode cX3_putRow 18 = .ok (.aload_n 0, 1) := by decide +kernel
theorem dX3_putRow_19 : decode cX3_putRow 19 = .ok (.getfield 9, 3) := by decide +kernel
theorem dX3_putRow_22 : decode cX3_putRow 22 = .ok (.iload_n 3, 1) := by decide +kernel
theorem dX3_putRow_23 : decode cX3_putRow 23 = .ok (.lconst 0, 1) := by decide +kernel
theorem dX3_putRow_24 : decode cX3_putRow 24 = .ok (.lastore, 1) := by decide +kernel
theorem dX3_putRow_25 : decode cX3_putRow 25 = .ok (.iinc 3 1, 3) := by decide +kernel
theorem dX3_putRow_28 : decode cX3_putRow 28 = .ok (.goto (-16), 3) := by decide +kernel
theorem dX3_putRow_31 : decode cX3_putRow 31 = .ok (.return_, 1) := by decide +kernel
theorem dX3_putElement_0 : decode cX3_putElement 0 = .ok (.aload_n 0, 1) := by decide +kernel
theorem dX3_putElement_1 : decode cX3_putElement 1 = .ok (.getfield 15, 3) := by decide +kernel
theorem dX3_putElement_4 : decode cX3_putElement 4 = .ok (.tableswitch 80 0 3 #[32, 45, 58, 70], 32) := by decide +kernel
theorem dX3_putElement_36 : decode cX3_putElement 36 = .ok (.aload_n 0, 1) := by decide +kernel
theorem dX3_putElement_37 : decode cX3_putElement 37 = .ok (.getfield 9, 3) := by decide +kernel
theorem dX3_putElement_40 : decode cX3_putElement 40 = .ok (.iload_n 1, 1) := by decide +kernel
theorem dX3_putElement_41 : decode cX3_putElement 41 = .ok (.lload_n 2, 1) := by decide +kernel
theorem dX3_putElement_42 : decode cX3_putElement 42 = .ok (.l2i, 1) := by decide +kernel
theorem dX3_putElement_43 : decode cX3_putElement 43 = .ok (.i2b, 1) := by decide +kernel
theorem dX3_putElement_44 : decode cX3_putElement 44 = .ok (.i2l, 1) := by decide +kernel
theorem dX3_putElement_45 : decode cX3_putElement 45 = .ok (.lastore, 1) := by decide +kernel
theorem dX3_putElement_46 : decode cX3_putElement 46 = .ok (.goto 55, 3) := by decide +kernel
theorem dX3_putElement_49 : decode cX3_putElement 49 = .ok (.aload_n 0, 1) := by decide +kernel
theorem dX3_putElement_50 : decode cX3_putElement 50 = .ok (.getfield 9, 3) := by decide +kernel
theorem dX3_putElement_53 : decode cX3_putElement 53 = .ok (.iload_n 1, 1) := by decide +kernel
theorem dX3_putElement_54 : decode cX3_putElement 54 = .ok (.lload_n 2, 1) := by decide +kernel
theorem dX3_putElement_55 : decode cX3_putElement 55 = .ok (.l2i, 1) := by decide +kernel
theorem dX3_putElement_56 : decode cX3_putElement 56 = .ok (.i2s, 1) := by decide +kernel
theorem dX3_putElement_57 : decode cX3_putElement 57 = .ok (.i2l, 1) := by decide +kernel
theorem dX3_putElement_58 : decode cX3_putElement 58 = .ok (.lastore, 1) := by decide +kernel
theorem dX3_putElement_59 : decode cX3_putElement 59 = .ok (.goto 42, 3) := by decide +kernel
theorem dX3_putElement_62 : decode cX3_putElement 62 = .ok (.aload_n 0, 1) := by decide +kernel
theorem dX3_putElement_63 : decode cX3_putElement 63 = .ok (.getfield 9, 3) := by decide +kernel
theorem dX3_putElement_66 : decode cX3_putElement 66 = .ok (.iload_n 1, 1) := by decide +kernel
theorem dX3_putElement_67 : decode cX3_putElement 67 = .ok (.lload_n 2, 1) := by decide +kernel
theorem dX3_putElement_68 : decode cX3_putElement 68 = .ok (.l2i, 1) := by decide +kernel
theorem dX3_putElement_69 : decode cX3_putElement 69 = .ok (.i2l, 1) := by decide +kernel
theorem dX3_putElement_70 : decode cX3_putElement 70 = .ok (.lastore, 1) := by decide +kernel
theorem dX3_putElement_71 : decode cX3_putElement 71 = .ok (.goto 30, 3) := by decide +kernel
theorem dX3_putElement_74 : decode cX3_putElement 74 = .ok (.aload_n 0, 1) := by decide +kernel
theorem dX3_putElement_75 : decode cX3_putElement 75 = .ok (.getfield 9, 3) := by decide +kernel
theorem dX3_putElement_78 : decode cX3_putElement 78 = .ok (.iload_n 1, 1) := by decide +kernel
theorem dX3_putElement_79 : decode cX3_putElement 79 = .ok (.lload_n 2, 1) := by decide +kernel
theorem dX3_putElement_80 : decode cX3_putElement 80 = .ok (.lastore, 1) := by decide +kernel
theorem dX3_putElement_81 : decode cX3_putElement 81 = .ok (.goto 20, 3) := by decide +kernel
theorem dX3_putElement_84 : decode cX3_putElement 84 = .ok (.aload_n 0, 1) := by decide +kernel
theorem dX3_putElement_85 : decode cX3_putElement 85 = .ok (.getfield 9, 3) := by decide +kernel
theorem dX3_putElement_88 : decode cX3_putElement 88 = .ok (.iload_n 1, 1) := by decide +kernel
theorem dX3_putElement_89 : decode cX3_putElement 89 = .ok (.lload_n 2, 1) := by decide +kernel
theorem dX3_putElement_90 : decode cX3_putElement 90 = .ok (.lconst 0, 1) := by decide +kernel
theorem dX3_putElement_91 : decode cX3_putElement 91 = .ok (.lcmp, 1) := by decide +kernel
theorem dX3_putElement_92 : decode cX3_putElement 92 = .ok (.ifCond .eq 7, 3) := by decide +kernel
theorem dX3_putElement_95 : decode cX3_putElement 95 = .ok (.lconst 1, 1) := by decide +kernel
theorem dX3_putElement_96 : decode cX3_putElement 96 = .ok (.goto 4, 3) := by decide +kernel
theorem dX3_putElement_99 : decode cX3_putElement 99 = .ok (.lconst 0, 1) := by decide +kernel
theorem dX3_putElement_100 : decode cX3_putElement 100 = .ok (.lastore, 1) := by decide +kernel
theorem dX3_putElement_101 : decode cX3_putElement 101 = .ok (.return_, 1) := by decide +kernel
theorem dX3_hasStretch_0 : decode cX3_hasStretch 0 = .ok (.iload_n 1, 1) := by decide +kernel
theorem dX3_hasStretch_1 : decode cX3_hasStretch 1 = .ok (.ifCond .lt 29, 3) := by decide +kernel
theorem dX3_hasStretch_4 : decode cX3_hasStretch 4 = .ok (.iload_n 2, 1) := by decide +kernel
theorem dX3_hasStretch_5 : decode cX3_hasStretch 5 = .ok (.ifCond .lt 25, 3) := by decide +kernel
theorem dX3_hasStretch_8 : decode cX3_hasStretch 8 = .ok (.iload_n 2, 1) := by decide +kernel
theorem dX3_hasStretch_9 : decode cX3_hasStretch 9 = .ok (.aload_n 0, 1) := by decide +kernel
theorem dX3_hasStretch_10 : decode cX3_hasStretch 10 = .ok (.getfield 19, 3) := by decide +kernel
theorem dX3_hasStretch_13 : decode cX3_hasStretch 13 = .ok (.if_icmp .gt 17, 3) := by decide +kernel
theorem dX3_hasStretch_16 : decode cX3_hasStretch 16 = .ok (.iload_n 1, 1) := by decide +kernel
theorem dX3_hasStretch_17 : decode cX3_hasStretch 17 = .ok (.aload_n 0, 1) := by decide +kernel
theorem dX3_hasStretch_18 : decode cX3_hasStretch 18 = .ok (.getfield 19, 3) := by decide +kernel
theorem dX3_hasStretch_21 : decode cX3_hasStretch 21 = .ok (.iload_n 2, 1) := by decide +kernel
theorem dX3_hasStretch_22 : decode cX3_hasStretch 22 = .ok (.isub, 1) := by decide +kernel
theorem dX3_hasStretch_23 : decode cX3_hasStretch 23 = .ok (.if_icmp .gt 7, 3) := by decide +kernel
theorem dX3_hasStretch_26 : decode cX3_hasStretch 26 = .ok (.iconst 1, 1) := by decide +kernel
theorem dX3_hasStretch_27 : decode cX3_hasStretch 27 = .ok (.goto 4, 3) := by decide +kernel
theorem dX3_hasStretch_30 : decode cX3_hasStretch 30 = .ok (.iconst 0, 1) := by decide +kernel
theorem dX3_hasStretch_31 : decode cX3_hasStretch 31 = .ok (.ireturn, 1) := by decide +kernel
theorem dX4_init_0 : decode cX4_init 0 = .ok (.aload_n 0, 1) := by decide +kernel
theorem dX4_init_1 : decode cX4_init 1 = .ok (.invokespecial 3, 3) := by decide +kernel
theorem dX4_init_4 : decode cX4_init 4 = .ok (.aload_n 0, 1) := by decide +kernel
theorem dX4_init_5 : decode cX4_init 5 = .ok (.sipush 250, 3) := by decide +kernel
theorem dX4_init_8 : decode cX4_init 8 = .ok (.newarray .int, 2) := by decide +kernel
theorem dX4_init_10 : decode cX4_init 10 = .ok (.putfield 9, 3) := by decide +kernel
theorem dX4_init_13 : decode cX4_init 13 = .ok (.aload_n 0, 1) := by decide +kernel
theorem dX4_init_14 : decode cX4_init 14 = .ok (.iconst (-1), 1) := by decide +kernel
theorem dX4_init_15 : decode cX4_init 15 = .ok (.putfield 15, 3) := by decide +kernel
theorem dX4_init_18 : decode cX4_init 18 = .ok (.return_, 1) := by decide +kernel
theorem dX4_append_0 : decode cX4_append 0 = .ok (.aload_n 0, 1) := by decide +kernel
theorem dX4_append_1 : decode cX4_append 1 = .ok (.getfield 19, 3) := by decide +kernel
theorem dX4_append_4 : decode cX4_append 4 = .ok (.sipush 250, 3) := by decide +kernel
theorem dX4_append_7 : decode cX4_append 7 = .ok (.if_icmp .ge 23, 3) := by decide +kernel
theorem dX4_append_10 : decode cX4_append 10 = .ok (.aload_n 0, 1) := by decide +kernel
theorem dX4_append_11 : decode cX4_append 11 = .ok (.getfield 9, 3) := by decide +kernel
theorem dX4_append_14 : decode cX4_append 14 = .ok (.aload_n 0, 1) := by decide +kernel
theorem dX4_append_15 : decode cX4_append 15 = .ok (.getfield 19, 3) := by decide +kernel
theorem dX4_append_18 : decode cX4_append 18 = .ok (.iload_n 1, 1) := by decide +kernel
theorem dX4_append_19 : decode cX4_append 19 = .ok (.iastore, 1) := by decide +kernel
theorem dX4_append_20 : decode cX4_append 20 = .ok (.aload_n 0, 1) := by decide +kernel
theorem dX4_append_21 : decode cX4_append 21 = .ok (.dup, 1) := by decide +kernel
theorem dX4_append_22 : decode cX4_append 22 = .ok (.getfield 19, 3) := by decide +kernel
theorem dX4_append_25 : decode cX4_append 25 = .ok (.iconst 1, 1) := by decide +kernel
theorem dX4_append_26 : decode cX4_append 26 = .ok (.iadd, 1) := by decide +kernel
theorem dX4_append_27 : decode cX4_append 27 = .ok (.putfield 19, 3) := by decide +kernel
theorem dX4_append_30 : decode cX4_append 30 = .ok (.aload_n 0, 1) := by decide +kernel
theorem dX4_append_31 : decode cX4_append 31 = .ok (.getfield 19, 3) := by decide +kernel
theorem dX4_append_34 : decode cX4_append 34 = .ok (.ireturn, 1) := by decide +kernel
theorem dX4_clear_0 : decode cX4_clear 0 = .ok (.aload_n 0, 1) := by decide +kernel
theorem dX4_clear_1 : decode cX4_clear 1 = .ok (.getfield 19, 3) := by decide +kernel
theorem dX4_clear_4 : decode cX4_clear 4 = .ok (.istore_n 1, 1) := by decide +kernel
theorem dX4_clear_5 : decode cX4_clear 5 = .ok (.aload_n 0, 1) := by decide +kernel
theorem dX4_clear_6 : decode cX4_clear 6 = .ok (.iconst 0, 1) := by decide +kernel
theorem dX4_clear_7 : decode cX4_clear 7 = .ok (.putfield 19, 3) := by decide +kernel
theorem dX4_clear_10 : decode cX4_clear 10 = .ok (.iload_n 1, 1) := by decide +kernel
theorem dX4_clear_11 : decode cX4_clear 11 = .ok (.ireturn, 1) := by decide +kernel
theorem dX4_readInto_0 : decode cX4_readInto 0 = .ok (.aload_n 0, 1) := by decide +kernel
theorem dX4_readInto_1 : decode cX4_readInto 1 = .ok (.iconst (-1), 1) := by decide +kernel
theorem dX4_readInto_2 : decode cX4_readInto 2 = .ok (.putfield 15, 3) := by decide +kernel
theorem dX4_readInto_5 : decode cX4_readInto 5 = .ok (.aload_n 0, 1) := by decide +kernel
theorem dX4_readInto_6 : decode cX4_readInto 6 = .ok (.iconst 0, 1) := by decide +kernel
theorem dX4_readInto_7 : decode cX4_readInto 7 = .ok (.putfield 22, 3) := by decide +kernel
theorem dX4_readInto_10 : decode cX4_readInto 10 = .ok (.aload_n 0, 1) := by decide +kernel
theorem dX4_readInto_11 : decode cX4_readInto 11 = .ok (.invokevirtual 25, 3) := by decide +kernel
theorem dX4_readInto_14 : decode cX4_readInto 14 = .ok (.iconst 1, 1) := by decide +kernel
theorem dX4_readInto_15 : decode cX4_readInto 15 = .ok (.istore_n 2, 1) := by decide +kernel
theorem dX4_readInto_16 : decode cX4_readInto 16 = .ok (.iload_n 2, 1) := by decide +kernel
theorem dX4_readInto_17 : decode cX4_readInto 17 = .ok (.sipush 250, 3) := by decide +kernel
theorem dX4_readInto_20 : decode cX4_readInto 20 = .ok (.if_icmp .gt 53, 3) := by decide +kernel
theorem dX4_readInto_23 : decode cX4_readInto 23 = .ok (.aload_n 0, 1) := by decide +kernel
theorem dX4_readInto_24 : decode cX4_readInto 24 = .ok (.aload_n 1, 1) := by decide +kernel
theorem dX4_readInto_25 : decode cX4_readInto 25 = .ok (.invokevirtual 28, 3) := by decide +kernel
theorem dX4_readInto_28 : decode cX4_readInto 28 = .ok (.aload_n 0, 1) := by decide +kernel
theorem dX4_readInto_29 : decode cX4_readInto 29 = .ok (.getfield 15, 3) := by decide +kernel
theorem dX4_readInto_32 : decode cX4_readInto 32 = .ok (.iconst (-1), 1) := by decide +kernel
theorem dX4_readInto_33 : decode cX4_readInto 33 = .ok (.if_icmp .ne 10, 3) := by decide +kernel
theorem dX4_readInto_36 : decode cX4_readInto 36 = .ok (.aload_n 0, 1) := by decide +kernel
theorem dX4_readInto_37 : decode cX4_readInto 37 = .ok (.getfield 32, 3) := by decide +kernel
theorem dX4_readInto_40 : decode cX4_readInto 40 = .ok (.ifCond .ne 5, 3) := by decide +kernel
theorem dX4_readInto_43 : decode cX4_readInto 43 = .ok (.iload_n 2, 1) := by decide +kernel
theorem dX4_readInto_44 : decode cX4_readInto 44 = .ok (.ireturn, 1) := by decide +kernel
theorem dX4_readInto_45 : decode cX4_readInto 45 = .ok (.aload_n 0, 1) := by decide +kernel
theorem dX4_readInto_46 : decode cX4_readInto 46 = .ok (.getfield 32, 3) := by decide +kernel
theorem dX4_readInto_49 : decode cX4_readInto 49 = .ok (.iconst 3, 1) := by decide +kernel
theorem dX4_readInto_50 : decode cX4_readInto 50 = .ok (.if_icmp .eq 13, 3) := by decide +kernel
theorem dX4_readInto_53 : decode cX4_readInto 53 = .ok (.aload_n 0, 1) := by decide +kernel
theorem dX4_readInto_54 : decode cX4_readInto 54 = .ok (.aload_n 0, 1) := by decide +kernel
theorem dX4_readInto_55 : decode cX4_readInto 55 = .ok (.getfield 35, 3) := by decide +kernel
theorem dX4_readInto_58 : decode cX4_readInto 58 = .ok (.putfield 15, 3) := by decide +kernel
theorem dX4_readInto_61 : decode cX4_readInto 61 = .ok (.iload_n 2, 1) := by decide +kernel
theorem dX4_readInto_62 : decode cX4_readInto 62 = .ok (.ireturn, 1) := by decide +kernel
theorem dX4_readInto_63 : decode cX4_readInto 63 = .ok (.aload_n 0, 1) := by decide +kernel
theorem dX4_readInto_64 : decode cX4_readInto 64 = .ok (.invokevirtual 25, 3) := by decide +kernel
theorem dX4_readInto_67 : decode cX4_readInto 67 = .ok (.iinc 2 1, 3) := by decide +kernel
theorem dX4_readInto_70 : decode cX4_readInto 70 = .ok (.goto (-54), 3) := by decide +kernel
theorem dX4_readInto_73 : decode cX4_readInto 73 = .ok (.iconst 0, 1) := by decide +kernel
theorem dX4_readInto_74 : decode cX4_readInto 74 = .ok (.ireturn, 1) := by decide +kernel
theorem dX4_readStatement_0 : decode cX4_readStatement 0 = .ok (.aload_n 0, 1) := by decide +kernel
theorem dX4_readStatement_1 : decode cX4_readStatement 1 = .ok (.ldc 38, 2) := by decide +kernel
theorem dX4_readStatement_3 : decode cX4_readStatement 3 = .ok (.invokevirtual 40, 3) := by decide +kernel
theorem dX4_readStatement_6 : decode cX4_readStatement 6 = .ok (.ifCond .eq 11, 3) := by decide +kernel
theorem dX4_readStatement_9 : decode cX4_readStatement 9 = .ok (.aload_n 0, 1) := by decide +kernel
theorem dX4_readStatement_10 : decode cX4_readStatement 10 = .ok (.aload_n 1, 1) := by decide +kernel
theorem dX4_readStatement_11 : decode cX4_readStatement 11 = .ok (.invokevirtual 44, 3) := by decide +kernel
theorem dX4_readStatement_14 : decode cX4_readStatement 14 = .ok (.goto 136, 3) := by decide +kernel
theorem dX4_readStatement_17 : decode cX4_readStatement 17 = .ok (.aload_n 0, 1) := by decide +kernel
theorem dX4_readStatement_18 : decode cX4_readStatement 18 = .ok (.ldc 47, 2) := by decide +kernel
theorem dX4_readStatement_20 : decode cX4_readStatement 20 = .ok (.invokevirtual 40, 3) := by decide +kernel
theorem dX4_readStatement_23 : decode cX4_readStatement 23 = .ok (.ifCond .eq 11, 3) := by decide +kernel
theorem dX4_readStatement_26 : decode cX4_readStatement 26 = .ok (.aload_n 0, 1) := by decide +kernel
theorem dX4_readStatement_27 : decode cX4_readStatement 27 = .ok (.aload_n 1, 1) := by decide +kernel
theorem dX4_readStatement_28 : decode cX4_readStatement 28 = .ok (.invokevirtual 49, 3) := by decide +kernel
theorem dX4_readStatement_31 : decode cX4_readStatement 31 = .ok (.goto 119, 3) := by decide +kernel
theorem dX4_readStatement_34 : decode cX4_readStatement 34 = .ok (.aload_n 0, 1) := by decide +kernel
theorem dX4_readStatement_35 : decode cX4_readStatement 35 = .ok (.ldc 52, 2) := by decide +kernel
theorem dX4_readStatement_37 : decode cX4_readStatement 37 = .ok (.invokevirtual 40, 3) := by decide +kernel
theorem dX4_readStatement_40 : decode cX4_readStatement 40 = .ok (.ifCond .eq 11, 3) := by decide +kernel
theorem dX4_readStatement_43 : decode cX4_readStatement 43 = .ok (.aload_n 0, 1) := by decide +kernel
theorem dX4_readStatement_44 : decode cX4_readStatement 44 = .ok (.aload_n 1, 1) := by decide +kernel
theorem dX4_readStatement_45 : decode cX4_readStatement 45 = .ok (.invokevirtual 54, 3) := by decide +kernel
theorem dX4_readStatement_48 : decode cX4_readStatement 48 = .ok (.goto 102, 3) := by decide +kernel
theorem dX4_readStatement_51 : decode cX4_readStatement 51 = .ok (.aload_n 0, 1) := by decide +kernel
theorem dX4_readStatement_52 : decode cX4_readStatement 52 = .ok (.ldc 57, 2) := by decide +kernel
theorem dX4_readStatement_54 : decode cX4_readStatement 54 = .ok (.invokevirtual 40, 3) := by decide +kernel
theorem dX4_readStatement_57 : decode cX4_readStatement 57 = .ok (.ifCond .eq 17, 3) := by decide +kernel
theorem dX4_readStatement_60 : decode cX4_readStatement 60 = .ok (.aload_n 1, 1) := by decide +kernel
theorem dX4_readStatement_61 : decode cX4_readStatement 61 = .ok (.aload_n 0, 1) := by decide +kernel
theorem dX4_readStatement_62 : decode cX4_readStatement 62 = .ok (.iconst 0, 1) := by decide +kernel
theorem dX4_readStatement_63 : decode cX4_readStatement 63 = .ok (.bipush 30, 2) := by decide +kernel
theorem dX4_readStatement_65 : decode cX4_readStatement 65 = .ok (.invokevirtual 59, 3) := by decide +kernel
theorem dX4_readStatement_68 : decode cX4_readStatement 68 = .ok (.putfield 63, 3) := by decide +kernel
theorem dX4_readStatement_71 : decode cX4_readStatement 71 = .ok (.goto 79, 3) := by decide +kernel
theorem dX4_readStatement_74 : decode cX4_readStatement 74 = .ok (.aload_n 0, 1) := by decide +kernel
theorem dX4_readStatement_75 : decode cX4_readStatement 75 = .ok (.ldc 67, 2) := by decide +kernel
theorem dX4_readStatement_77 : decode cX4_readStatement 77 = .ok (.invokevirtual 40, 3) := by decide +kernel
theorem dX4_readStatement_80 : decode cX4_readStatement 80 = .ok (.ifCond .eq 17, 3) := by decide +kernel
theorem dX4_readStatement_83 : decode cX4_readStatement 83 = .ok (.aload_n 1, 1) := by decide +kernel
theorem dX4_readStatement_84 : decode cX4_readStatement 84 = .ok (.aload_n 0, 1) := by decide +kernel
theorem dX4_readStatement_85 : decode cX4_readStatement 85 = .ok (.iconst 1, 1) := by decide +kernel
theorem dX4_readStatement_86 : decode cX4_readStatement 86 = .ok (.bipush 10, 2) := by decide +kernel
theorem dX4_readStatement_88 : decode cX4_readStatement 88 = .ok (.invokevirtual 59, 3) := by decide +kernel
theorem dX4_readStatement_91 : decode cX4_readStatement 91 = .ok (.putfield 69, 3) := by decide +kernel
theorem dX4_readStatement_94 : decode cX4_readStatement 94 = .ok (.goto 56, 3) := by decide +kernel
theorem dX4_readStatement_97 : decode cX4_readStatement 97 = .ok (.aload_n 0, 1) := by decide +kernel
theorem dX4_readStatement_98 : decode cX4_readStatement 98 = .ok (.ldc 71, 2) := by decide +kernel
theorem dX4_readStatement_100 : decode cX4_readStatement 100 = .ok (.invokevirtual 40, 3) := by decide +kernel
theorem dX4_readStatement_103 : decode cX4_readStatement 103 = .ok (.ifCond .eq 16, 3) := by decide +kernel
theorem dX4_readStatement_106 : decode cX4_readStatement 106 = .ok (.aload_n 1, 1) := by decide +kernel
theorem dX4_readStatement_107 : decode cX4_readStatement 107 = .ok (.aload_n 0, 1) := by decide +kernel
theorem dX4_readStatement_108 : decode cX4_readStatement 108 = .ok (.iconst 0, 1) := by decide +kernel
theorem dX4_readStatement_109 : decode cX4_readStatement 109 = .ok (.iconst 1, 1) := by decide +kernel
theorem dX4_readStatement_110 : decode cX4_readStatement 110 = .ok (.invokevirtual 59, 3) := by decide +kernel
theorem dX4_readStatement_113 : decode cX4_readStatement 113 = .ok (.putfield 73, 3) := by decide +kernel
theorem dX4_readStatement_116 : decode cX4_readStatement 116 = .ok (.goto 34, 3) := by decide +kernel
theorem dX4_readStatement_119 : decode cX4_readStatement 119 = .ok (.aload_n 0, 1) := by decide +kernel
theorem dX4_readStatement_120 : decode cX4_readStatement 120 = .ok (.ldc 75, 2) := by decide +kernel
theorem dX4_readStatement_122 : decode cX4_readStatement 122 = .ok (.invokevirtual 40, 3) := by decide +kernel
theorem dX4_readStatement_125 : decode cX4_readStatement 125 = .ok (.ifCond .eq 17, 3) := by decide +kernel
theorem dX4_readStatement_128 : decode cX4_readStatement 128 = .ok (.aload_n 1, 1) := by decide +kernel
theorem dX4_readStatement_129 : decode cX4_readStatement 129 = .ok (.aload_n 0, 1) := by decide +kernel
theorem dX4_readStatement_130 : decode cX4_readStatement 130 = .ok (.iconst 1, 1) := by decide +kernel
theorem dX4_readStatement_131 : decode cX4_readStatement 131 = .ok (.bipush 99, 2) := by decide +kernel
theorem dX4_readStatement_133 : decode cX4_readStatement 133 = .ok (.invokevirtual 59, 3) := by decide +kernel
theorem dX4_readStatement_136 : decode cX4_readStatement 136 = .ok (.putfield 77, 3) := by decide +kernel
theorem dX4_readStatement_139 : decode cX4_readStatement 139 = .ok (.goto 11, 3) := by decide +kernel
theorem dX4_readStatement_142 : decode cX4_readStatement 142 = .ok (.aload_n 0, 1) := by decide +kernel
theorem dX4_readStatement_143 : decode cX4_readStatement 143 = .ok (.aload_n 0, 1) := by decide +kernel
theorem dX4_readStatement_144 : decode cX4_readStatement 144 = .ok (.getfield 35, 3) := by decide +kernel
theorem dX4_readStatement_147 : decode cX4_readStatement 147 = .ok (.putfield 15, 3) := by decide +kernel
theorem dX4_readStatement_150 : decode cX4_readStatement 150 = .ok (.return_, 1) := by decide +kernel
theorem dX4_readOne_0 : decode cX4_readOne 0 = .ok (.aload_n 1, 1) := by decide +kernel
theorem dX4_readOne_1 : decode cX4_readOne 1 = .ok (.getfield 79, 3) := by decide +kernel
theorem dX4_readOne_4 : decode cX4_readOne 4 = .ok (.bipush 8, 2) := by decide +kernel
theorem dX4_readOne_6 : decode cX4_readOne 6 = .ok (.if_icmp .lt 12, 3) := by decide +kernel
theorem dX4_readOne_9 : decode cX4_readOne 9 = .ok (.aload_n 0, 1) := by decide +kernel
theorem dX4_readOne_10 : decode cX4_readOne 10 = .ok (.aload_n 0, 1) := by decide +kernel
theorem dX4_readOne_11 : decode cX4_readOne 11 = .ok (.getfield 35, 3) := by decide +kernel
theorem dX4_readOne_14 : decode cX4_readOne 14 = .ok (.putfield 15, 3) := by decide +kernel
theorem dX4_readOne_17 : decode cX4_readOne 17 = .ok (.return_, 1) := by decide +kernel
theorem dX4_readOne_18 : decode cX4_readOne 18 = .ok (.aload_n 0, 1) := by decide +kernel
theorem dX4_readOne_19 : decode cX4_readOne 19 = .ok (.invokevirtual 25, 3) := by decide +kernel
theorem dX4_readOne_22 : decode cX4_readOne 22 = .ok (.aload_n 0, 1) := by decide +kernel
theorem dX4_readOne_23 : decode cX4_readOne 23 = .ok (.iconst 0, 1) := by decide +kernel
theorem dX4_readOne_24 : decode cX4_readOne 24 = .ok (.iconst 1, 1) := by decide +kernel
theorem dX4_readOne_25 : decode cX4_readOne 25 = .ok (.invokevirtual 82, 3) := by decide +kernel
theorem dX4_readOne_28 : decode cX4_readOne 28 = .ok (.istore_n 2, 1) := by decide +kernel
theorem dX4_readOne_29 : decode cX4_readOne 29 = .ok (.aload_n 0, 1) := by decide +kernel
theorem dX4_readOne_30 : decode cX4_readOne 30 = .ok (.iconst 0, 1) := by decide +kernel
theorem dX4_readOne_31 : decode cX4_readOne 31 = .ok (.iconst 5, 1) := by decide +kernel
theorem dX4_readOne_32 : decode cX4_readOne 32 = .ok (.invokevirtual 82, 3) := by decide +kernel
theorem dX4_readOne_35 : decode cX4_readOne 35 = .ok (.istore_n 3, 1) := by decide +kernel
theorem dX4_readOne_36 : decode cX4_readOne 36 = .ok (.aload_n 0, 1) := by decide +kernel
theorem dX4_readOne_37 : decode cX4_readOne 37 = .ok (.iconst 0, 1) := by decide +kernel
theorem dX4_readOne_38 : decode cX4_readOne 38 = .ok (.bipush 20, 2) := by decide +kernel
theorem dX4_readOne_40 : decode cX4_readOne 40 = .ok (.invokevirtual 82, 3) := by decide +kernel
theorem dX4_readOne_43 : decode cX4_readOne 43 = .ok (.istore 4, 2) := by decide +kernel
theorem dX4_readOne_45 : decode cX4_readOne 45 = .ok (.aload_n 0, 1) := by decide +kernel
theorem dX4_readOne_46 : decode cX4_readOne 46 = .ok (.iconst 0, 1) := by decide +kernel
theorem dX4_readOne_47 : decode cX4_readOne 47 = .ok (.bipush 20, 2) := by decide +kernel
theorem dX4_readOne_49 : decode cX4_readOne 49 = .ok (.invokevirtual 82, 3) := by decide +kernel
theorem dX4_readOne_52 : decode cX4_readOne 52 = .ok (.istore 5, 2) := by decide +kernel
theorem dX4_readOne_54 : decode cX4_readOne 54 = .ok (.aload_n 0, 1) := by decide +kernel
theorem dX4_readOne_55 : decode cX4_readOne 55 = .ok (.iconst 0, 1) := by decide +kernel
theorem dX4_readOne_56 : decode cX4_readOne 56 = .ok (.bipush 9, 2) := by decide +kernel
theorem dX4_readOne_58 : decode cX4_readOne 58 = .ok (.invokevirtual 82, 3) := by decide +kernel
theorem dX4_readOne_61 : decode cX4_readOne 61 = .ok (.istore 6, 2) := by decide +kernel
theorem dX4_readOne_63 : decode cX4_readOne 63 = .ok (.aload_n 0, 1) := by decide +kernel
theorem dX4_readOne_64 : decode cX4_readOne 64 = .ok (.getfield 15, 3) := by decide +kernel
theorem dX4_readOne_67 : decode cX4_readOne 67 = .ok (.iconst (-1), 1) := by decide +kernel
theorem dX4_readOne_68 : decode cX4_readOne 68 = .ok (.if_icmp .ne 16, 3) := by decide +kernel
theorem dX4_readOne_71 : decode cX4_readOne 71 = .ok (.aload_n 1, 1) := by decide +kernel
theorem dX4_readOne_72 : decode cX4_readOne 72 = .ok (.iload_n 2, 1) := by decide +kernel
theorem dX4_readOne_73 : decode cX4_readOne 73 = .ok (.iload_n 3, 1) := by decide +kernel
theorem dX4_readOne_74 : decode cX4_readOne 74 = .ok (.iload 4, 2) := by decide +kernel
theorem dX4_readOne_76 : decode cX4_readOne 76 = .ok (.iload 5, 2) := by decide +kernel
theorem dX4_readOne_78 : decode cX4_readOne 78 = .ok (.iload 6, 2) := by decide +kernel
theorem dX4_readOne_80 : decode cX4_readOne 80 = .ok (.invokevirtual 85, 3) := by decide +kernel
theorem dX4_readOne_83 : decode cX4_readOne 83 = .ok (.pop, 1) := by decide +kernel
theorem dX4_readOne_84 : decode cX4_readOne 84 = .ok (.return_, 1) := by decide +kernel
theorem dX4_readTired_0 : decode cX4_readTired 0 = .ok (.aload_n 0, 1) := by decide +kernel
theorem dX4_readTired_1 : decode cX4_readTired 1 = .ok (.invokevirtual 25, 3) := by decide +kernel
theorem dX4_readTired_4 : decode cX4_readTired 4 = .ok (.aload_n 0, 1) := by decide +kernel
theorem dX4_readTired_5 : decode cX4_readTired 5 = .ok (.iconst 0, 1) := by decide +kernel
theorem dX4_readTired_6 : decode cX4_readTired 6 = .ok (.aload_n 1, 1) := by decide +kernel
theorem dX4_readTired_7 : decode cX4_readTired 7 = .ok (.getfield 79, 3) := by decide +kernel
theorem dX4_readTired_10 : decode cX4_readTired 10 = .ok (.iconst 1, 1) := by decide +kernel
theorem dX4_readTired_11 : decode cX4_readTired 11 = .ok (.isub, 1) := by decide +kernel
theorem dX4_readTired_12 : decode cX4_readTired 12 = .ok (.invokevirtual 82, 3) := by decide +kernel
theorem dX4_readTired_15 : decode cX4_readTired 15 = .ok (.istore_n 2, 1) := by decide +kernel
theorem dX4_readTired_16 : decode cX4_readTired 16 = .ok (.aload_n 0, 1) := by decide +kernel
theorem dX4_readTired_17 : decode cX4_readTired 17 = .ok (.iconst 0, 1) := by decide +kernel
theorem dX4_readTired_18 : decode cX4_readTired 18 = .ok (.bipush 20, 2) := by decide +kernel
theorem dX4_readTired_20 : decode cX4_readTired 20 = .ok (.invokevirtual 82, 3) := by decide +kernel
theorem dX4_readTired_23 : decode cX4_readTired 23 = .ok (.istore_n 3, 1) := by decide +kernel
theorem dX4_readTired_24 : decode cX4_readTired 24 = .ok (.aload_n 0, 1) := by decide +kernel
theorem dX4_readTired_25 : decode cX4_readTired 25 = .ok (.getfield 15, 3) := by decide +kernel
theorem dX4_readTired_28 : decode cX4_readTired 28 = .ok (.iconst (-1), 1) := by decide +kernel
theorem dX4_readTired_29 : decode cX4_readTired 29 = .ok (.if_icmp .ne 10, 3) := by decide +kernel
theorem dX4_readTired_32 : decode cX4_readTired 32 = .ok (.aload_n 1, 1) := by decide +kernel
theorem dX4_readTired_33 : decode cX4_readTired 33 = .ok (.getfield 89, 3) := by decide +kernel
theorem dX4_readTired_36 : decode cX4_readTired 36 = .ok (.iload_n 2, 1) := by decide +kernel
theorem dX4_readTired_37 : decode cX4_readTired 37 = .ok (.iload_n 3, 1) := by decide +kernel
theorem dX4_readTired_38 : decode cX4_readTired 38 = .ok (.iastore, 1) := by decide +kernel
theorem dX4_readTired_39 : decode cX4_readTired 39 = .ok (.return_, 1) := by decide +kernel
theorem dX4_readRun_0 : decode cX4_readRun 0 = .ok (.aload_n 0, 1) := by decide +kernel
theorem dX4_readRun_1 : decode cX4_readRun 1 = .ok (.invokevirtual 25, 3) := by decide +kernel
theorem dX4_readRun_4 : decode cX4_readRun 4 = .ok (.aload_n 0, 1) := by decide +kernel
theorem dX4_readRun_5 : decode cX4_readRun 5 = .ok (.getfield 35, 3) := by decide +kernel
theorem dX4_readRun_8 : decode cX4_readRun 8 = .ok (.istore_n 2, 1) := by decide +kernel
theorem dX4_readRun_9 : decode cX4_readRun 9 = .ok (.aload_n 0, 1) := by decide +kernel
theorem dX4_readRun_10 : decode cX4_readRun 10 = .ok (.iconst 0, 1) := by decide +kernel
theorem dX4_readRun_11 : decode cX4_readRun 11 = .ok (.aload_n 1, 1) := by decide +kernel
theorem dX4_readRun_12 : decode cX4_readRun 12 = .ok (.getfield 79, 3) := by decide +kernel
theorem dX4_readRun_15 : decode cX4_readRun 15 = .ok (.iconst 1, 1) := by decide +kernel
theorem dX4_readRun_16 : decode cX4_readRun 16 = .ok (.isub, 1) := by decide +kernel
theorem dX4_readRun_17 : decode cX4_readRun 17 = .ok (.invokevirtual 82, 3) := by decide +kernel
theorem dX4_readRun_20 : decode cX4_readRun 20 = .ok (.istore_n 3, 1) := by decide +kernel
theorem dX4_readRun_21 : decode cX4_readRun 21 = .ok (.aload_n 0, 1) := by decide +kernel
theorem dX4_readRun_22 : decode cX4_readRun 22 = .ok (.getfield 15, 3) := by decide +kernel
theorem dX4_readRun_25 : decode cX4_readRun 25 = .ok (.iconst (-1), 1) := by decide +kernel
theorem dX4_readRun_26 : decode cX4_readRun 26 = .ok (.if_icmp .ne 23, 3) := by decide +kernel
theorem dX4_readRun_29 : decode cX4_readRun 29 = .ok (.aload_n 1, 1) := by decide +kernel
theorem dX4_readRun_30 : decode cX4_readRun 30 = .ok (.invokevirtual 91, 3) := by decide +kernel
theorem dX4_readRun_33 : decode cX4_readRun 33 = .ok (.ifCond .ne 11, 3) := by decide +kernel
theorem dX4_readRun_36 : decode cX4_readRun 36 = .ok (.aload_n 1, 1) := by decide +kernel
theorem dX4_readRun_37 : decode cX4_readRun 37 = .ok (.iload_n 3, 1) := by decide +kernel
theorem dX4_readRun_38 : decode cX4_readRun 38 = .ok (.invokevirtual 95, 3) := by decide +kernel
theorem dX4_readRun_41 : decode cX4_readRun 41 = .ok (.ifCond .ne 8, 3) := by decide +kernel
theorem dX4_readRun_44 : decode cX4_readRun 44 = .ok (.aload_n 0, 1) := by decide +kernel
theorem dX4_readRun_45 : decode cX4_readRun 45 = .ok (.iload_n 2, 1) := by decide +kernel
theorem dX4_readRun_46 : decode cX4_readRun 46 = .ok (.putfield 15, 3) := by decide +kernel
theorem dX4_readRun_49 : decode cX4_readRun 49 = .ok (.aload_n 0, 1) := by decide +kernel
theorem dX4_readRun_50 : decode cX4_readRun 50 = .ok (.iconst 0, 1) := by decide +kernel
theorem dX4_readRun_51 : decode cX4_readRun 51 = .ok (.aload_n 1, 1) := by decide +kernel
theorem dX4_readRun_52 : decode cX4_readRun 52 = .ok (.getfield 99, 3) := by decide +kernel
theorem dX4_readRun_55 : decode cX4_readRun 55 = .ok (.aload_n 1, 1) := by decide +kernel
theorem dX4_readRun_56 : decode cX4_readRun 56 = .ok (.getfield 101, 3) := by decide +kernel
theorem dX4_readRun_59 : decode cX4_readRun 59 = .ok (.iaload, 1) := by decide +kernel
theorem dX4_readRun_60 : decode cX4_readRun 60 = .ok (.iconst 2, 1) := by decide +kernel
theorem dX4_readRun_61 : decode cX4_readRun 61 = .ok (.isub, 1) := by decide +kernel
theorem dX4_readRun_62 : decode cX4_readRun 62 = .ok (.invokevirtual 82, 3) := by decide +kernel
theorem dX4_readRun_65 : decode cX4_readRun 65 = .ok (.istore 4, 2) := by decide +kernel
theorem dX4_readRun_67 : decode cX4_readRun 67 = .ok (.aload_n 0, 1) := by decide +kernel
theorem dX4_readRun_68 : decode cX4_readRun 68 = .ok (.getfield 35, 3) := by decide +kernel
theorem dX4_readRun_71 : decode cX4_readRun 71 = .ok (.istore 5, 2) := by decide +kernel
theorem dX4_readRun_73 : decode cX4_readRun 73 = .ok (.aload_n 0, 1) := by decide +kernel
theorem dX4_readRun_74 : decode cX4_readRun 74 = .ok (.getfield 32, 3) := by decide +kernel
theorem dX4_readRun_77 : decode cX4_readRun 77 = .ok (.iconst 2, 1) := by decide +kernel
theorem dX4_readRun_78 : decode cX4_readRun 78 = .ok (.if_icmp .ne 14, 3) := by decide +kernel
theorem dX4_readRun_81 : decode cX4_readRun 81 = .ok (.iconst 1, 1) := by decide +kernel
theorem dX4_readRun_82 : decode cX4_readRun 82 = .ok (.aload_n 0, 1) := by decide +kernel
theorem dX4_readRun_83 : decode cX4_readRun 83 = .ok (.iconst 0, 1) := by decide +kernel
theorem dX4_readRun_84 : decode cX4_readRun 84 = .ok (.iconst 1, 1) := by decide +kernel
theorem dX4_readRun_85 : decode cX4_readRun 85 = .ok (.invokevirtual 82, 3) := by decide +kernel
theorem dX4_readRun_88 : decode cX4_readRun 88 = .ok (.iadd, 1) := by decide +kernel
theorem dX4_readRun_89 : decode cX4_readRun 89 = .ok (.goto 4, 3) := by decide +kernel
theorem dX4_readRun_92 : decode cX4_readRun 92 = .ok (.iconst 0, 1) := by decide +kernel
theorem dX4_readRun_93 : decode cX4_readRun 93 = .ok (.istore 6, 2) := by decide +kernel
theorem dX4_readRun_95 : decode cX4_readRun 95 = .ok (.aload_n 0, 1) := by decide +kernel
theorem dX4_readRun_96 : decode cX4_readRun 96 = .ok (.getfield 15, 3) := by decide +kernel
theorem dX4_readRun_99 : decode cX4_readRun 99 = .ok (.iconst (-1), 1) := by decide +kernel
theorem dX4_readRun_100 : decode cX4_readRun 100 = .ok (.if_icmp .eq 4, 3) := by decide +kernel
theorem dX4_readRun_103 : decode cX4_readRun 103 = .ok (.return_, 1) := by decide +kernel
theorem dX4_readRun_104 : decode cX4_readRun 104 = .ok (.aload_n 1, 1) := by decide +kernel
theorem dX4_readRun_105 : decode cX4_readRun 105 = .ok (.iload_n 3, 1) := by decide +kernel
theorem dX4_readRun_106 : decode cX4_readRun 106 = .ok (.iload 4, 2) := by decide +kernel
theorem dX4_readRun_108 : decode cX4_readRun 108 = .ok (.iload 6, 2) := by decide +kernel
theorem dX4_readRun_110 : decode cX4_readRun 110 = .ok (.invokevirtual 104, 3) := by decide +kernel
theorem dX4_readRun_113 : decode cX4_readRun 113 = .ok (.ifCond .ne 10, 3) := by decide +kernel
theorem dX4_readRun_116 : decode cX4_readRun 116 = .ok (.aload_n 0, 1) := by decide +kernel
theorem dX4_readRun_117 : decode cX4_readRun 117 = .ok (.iload 5, 2) := by decide +kernel
theorem dX4_readRun_119 : decode cX4_readRun 119 = .ok (.putfield 15, 3) := by decide +kernel
theorem dX4_readRun_122 : decode cX4_readRun 122 = .ok (.return_, 1) := by decide +kernel
theorem dX4_readRun_123 : decode cX4_readRun 123 = .ok (.aload_n 1, 1) := by decide +kernel
theorem dX4_readRun_124 : decode cX4_readRun 124 = .ok (.iload_n 3, 1) := by decide +kernel
theorem dX4_readRun_125 : decode cX4_readRun 125 = .ok (.iload 4, 2) := by decide +kernel
theorem dX4_readRun_127 : decode cX4_readRun 127 = .ok (.iload 6, 2) := by decide +kernel
theorem dX4_readRun_129 : decode cX4_readRun 129 = .ok (.invokevirtual 108, 3) := by decide +kernel
theorem dX4_readRun_132 : decode cX4_readRun 132 = .ok (.return_, 1) := by decide +kernel
theorem dX4_numberBehindWord_0 : decode cX4_numberBehindWord 0 = .ok (.aload_n 0, 1) := by decide +kernel
theorem dX4_numberBehindWord_1 : decode cX4_numberBehindWord 1 = .ok (.invokevirtual 25, 3) := by decide +kernel
theorem dX4_numberBehindWord_4 : decode cX4_numberBehindWord 4 = .ok (.aload_n 0, 1) := by decide +kernel
theorem dX4_numberBehindWord_5 : decode cX4_numberBehindWord 5 = .ok (.iload_n 1, 1) := by decide +kernel
theorem dX4_numberBehindWord_6 : decode cX4_numberBehindWord 6 = .ok (.iload_n 2, 1) := by decide +kernel
theorem dX4_numberBehindWord_7 : decode cX4_numberBehindWord 7 = .ok (.invokevirtual 82, 3) := by decide +kernel
theorem dX4_numberBehindWord_10 : decode cX4_numberBehindWord 10 = .ok (.ireturn, 1) := by decide +kernel
theorem dX4_number_0 : decode cX4_number 0 = .ok (.aload_n 0, 1) := by decide +kernel
theorem dX4_number_1 : decode cX4_number 1 = .ok (.getfield 15, 3) := by decide +kernel
theorem dX4_number_4 : decode cX4_number 4 = .ok (.iconst (-1), 1) := by decide +kernel
theorem dX4_number_5 : decode cX4_number 5 = .ok (.if_icmp .eq 5, 3) := by decide +kernel
theorem dX4_number_8 : decode cX4_number 8 = .ok (.iconst (-1), 1) := by decide +kernel
theorem dX4_number_9 : decode cX4_number 9 = .ok (.ireturn, 1) := by decide +kernel
theorem dX4_number_10 : decode cX4_number 10 = .ok (.aload_n 0, 1) := by decide +kernel
theorem dX4_number_11 : decode cX4_number 11 = .ok (.getfield 32, 3) := by decide +kernel
theorem dX4_number_14 : decode cX4_number 14 = .ok (.iconst 2, 1) := by decide +kernel
theorem dX4_number_15 : decode cX4_number 15 = .ok (.if_icmp .ne 10, 3) := by decide +kernel
theorem dX4_number_18 : decode cX4_number 18 = .ok (.aload_n 0, 1) := by decide +kernel
theorem dX4_number_19 : decode cX4_number 19 = .ok (.invokevirtual 112, 3) := by decide +kernel
theorem dX4_number_22 : decode cX4_number 22 = .ok (.goto 4, 3) := by decide +kernel
theorem dX4_number_25 : decode cX4_number 25 = .ok (.iconst (-1), 1) := by decide +kernel
theorem dX4_number_26 : decode cX4_number 26 = .ok (.istore_n 3, 1) := by decide +kernel
theorem dX4_number_27 : decode cX4_number 27 = .ok (.iload_n 3, 1) := by decide +kernel
theorem dX4_number_28 : decode cX4_number 28 = .ok (.iload_n 1, 1) := by decide +kernel
theorem dX4_number_29 : decode cX4_number 29 = .ok (.if_icmp .lt 8, 3) := by decide +kernel
theorem dX4_number_32 : decode cX4_number 32 = .ok (.iload_n 3, 1) := by decide +kernel
theorem dX4_number_33 : decode cX4_number 33 = .ok (.iload_n 2, 1) := by decide +kernel
theorem dX4_number_34 : decode cX4_number 34 = .ok (.if_icmp .le 13, 3) := by decide +kernel
theorem dX4_number_37 : decode cX4_number 37 = .ok (.aload_n 0, 1) := by decide +kernel
theorem dX4_number_38 : decode cX4_number 38 = .ok (.aload_n 0, 1) := by decide +kernel
theorem dX4_number_39 : decode cX4_number 39 = .ok (.getfield 35, 3) := by decide +kernel
theorem dX4_number_42 : decode cX4_number 42 = .ok (.putfield 15, 3) := by decide +kernel
theorem dX4_number_45 : decode cX4_number 45 = .ok (.iconst (-1), 1) := by decide +kernel
theorem dX4_number_46 : decode cX4_number 46 = .ok (.ireturn, 1) := by decide +kernel
theorem dX4_number_47 : decode cX4_number 47 = .ok (.aload_n 0, 1) := by decide +kernel
theorem dX4_number_48 : decode cX4_number 48 = .ok (.invokevirtual 25, 3) := by decide +kernel
theorem dX4_number_51 : decode cX4_number 51 = .ok (.iload_n 3, 1) := by decide +kernel
theorem dX4_number_52 : decode cX4_number 52 = .ok (.ireturn, 1) := by decide +kernel
theorem dX4_valueOfToken_0 : decode cX4_valueOfToken 0 = .ok (.aload_n 0, 1) := by decide +kernel
theorem dX4_valueOfToken_1 : decode cX4_valueOfToken 1 = .ok (.getfield 22, 3) := by decide +kernel
theorem dX4_valueOfToken_4 : decode cX4_valueOfToken 4 = .ok (.aload_n 0, 1) := by decide +kernel
theorem dX4_valueOfToken_5 : decode cX4_valueOfToken 5 = .ok (.getfield 35, 3) := by decide +kernel
theorem dX4_valueOfToken_8 : decode cX4_valueOfToken 8 = .ok (.isub, 1) := by decide +kernel
theorem dX4_valueOfToken_9 : decode cX4_valueOfToken 9 = .ok (.iconst 2, 1) := by decide +kernel
theorem dX4_valueOfToken_10 : decode cX4_valueOfToken 10 = .ok (.if_icmp .le 5, 3) := by decide +kernel
theorem dX4_valueOfToken_13 : decode cX4_valueOfToken 13 = .ok (.iconst (-1), 1) := by decide +kernel
theorem dX4_valueOfToken_14 : decode cX4_valueOfToken 14 = .ok (.ireturn, 1) := by decide +kernel
theorem dX4_valueOfToken_15 : decode cX4_valueOfToken 15 = .ok (.iconst 0, 1) := by decide +kernel
theorem dX4_valueOfToken_16 : decode cX4_valueOfToken 16 = .ok (.istore_n 1, 1) := by decide +kernel
theorem dX4_valueOfToken_17 : decode cX4_valueOfToken 17 = .ok (.aload_n 0, 1) := by decide +kernel
theorem dX4_valueOfToken_18 : decode cX4_valueOfToken 18 = .ok (.getfield 35, 3) := by decide +kernel
theorem dX4_valueOfToken_21 : decode cX4_valueOfToken 21 = .ok (.istore_n 2, 1) := by decide +kernel
theorem dX4_valueOfToken_22 : decode cX4_valueOfToken 22 = .ok (.iload_n 2, 1) := by decide +kernel
theorem dX4_valueOfToken_23 : decode cX4_valueOfToken 23 = .ok (.aload_n 0, 1) := by decide +kernel
theorem dX4_valueOfToken_24 : decode cX4_valueOfToken 24 = .ok (.getfield 22, 3) := by decide +kernel
theorem dX4_valueOfToken_27 : decode cX4_valueOfToken 27 = .ok (.if_icmp .ge 24, 3) := by decide +kernel
theorem dX4_valueOfToken_30 : decode cX4_valueOfToken 30 = .ok (.bipush 10, 2) := by decide +kernel
theorem dX4_valueOfToken_32 : decode cX4_valueOfToken 32 = .ok (.iload_n 1, 1) := by decide +kernel
theorem dX4_valueOfToken_33 : decode cX4_valueOfToken 33 = .ok (.imul, 1) := by decide +kernel
theorem dX4_valueOfToken_34 : decode cX4_valueOfToken 34 = .ok (.aload_n 0, 1) := by decide +kernel
theorem dX4_valueOfToken_35 : decode cX4_valueOfToken 35 = .ok (.getfield 9, 3) := by decide +kernel
theorem dX4_valueOfToken_38 : decode cX4_valueOfToken 38 = .ok (.iload_n 2, 1) := by decide +kernel
theorem dX4_valueOfToken_39 : decode cX4_valueOfToken 39 = .ok (.iaload, 1) := by decide +kernel
theorem dX4_valueOfToken_40 : decode cX4_valueOfToken 40 = .ok (.iadd, 1) := by decide +kernel
theorem dX4_valueOfToken_41 : decode cX4_valueOfToken 41 = .ok (.bipush 48, 2) := by decide +kernel
theorem dX4_valueOfToken_43 : decode cX4_valueOfToken 43 = .ok (.isub, 1) := by decide +kernel
theorem dX4_valueOfToken_44 : decode cX4_valueOfToken 44 = .ok (.istore_n 1, 1) := by decide +kernel
theorem dX4_valueOfToken_45 : decode cX4_valueOfToken 45 = .ok (.iinc 2 1, 3) := by decide +kernel
theorem dX4_valueOfToken_48 : decode cX4_valueOfToken 48 = .ok (.goto (-26), 3) := by decide +kernel
theorem dX4_valueOfToken_51 : decode cX4_valueOfToken 51 = .ok (.iload_n 1, 1) := by decide +kernel
theorem dX4_valueOfToken_52 : decode cX4_valueOfToken 52 = .ok (.ireturn, 1) := by decide +kernel
theorem dX4_isWord_0 : decode cX4_isWord 0 = .ok (.aload_n 0, 1) := by decide +kernel
theorem dX4_isWord_1 : decode cX4_isWord 1 = .ok (.getfield 32, 3) := by decide +kernel
theorem dX4_isWord_4 : decode cX4_isWord 4 = .ok (.iconst 1, 1) := by decide +kernel
theorem dX4_isWord_5 : decode cX4_isWord 5 = .ok (.if_icmp .ne 19, 3) := by decide +kernel
theorem dX4_isWord_8 : decode cX4_isWord 8 = .ok (.aload_n 0, 1) := by decide +kernel
theorem dX4_isWord_9 : decode cX4_isWord 9 = .ok (.getfield 22, 3) := by decide +kernel
theorem dX4_isWord_12 : decode cX4_isWord 12 = .ok (.aload_n 0, 1) := by decide +kernel
theorem dX4_isWord_13 : decode cX4_isWord 13 = .ok (.getfield 35, 3) := by decide +kernel
theorem dX4_isWord_16 : decode cX4_isWord 16 = .ok (.isub, 1) := by decide +kernel
theorem dX4_isWord_17 : decode cX4_isWord 17 = .ok (.aload_n 1, 1) := by decide +kernel
theorem dX4_isWord_18 : decode cX4_isWord 18 = .ok (.invokevirtual 116, 3) := by decide +kernel
theorem dX4_isWord_21 : decode cX4_isWord 21 = .ok (.if_icmp .eq 5, 3) := by decide +kernel
theorem dX4_isWord_24 : decode cX4_isWord 24 = .ok (.iconst 0, 1) := by decide +kernel
theorem dX4_isWord_25 : decode cX4_isWord 25 = .ok (.ireturn, 1) := by decide +kernel
theorem dX4_isWord_26 : decode cX4_isWord 26 = .ok (.iconst 0, 1) := by decide +kernel
theorem dX4_isWord_27 : decode cX4_isWord 27 = .ok (.istore_n 2, 1) := by decide +kernel
theorem dX4_isWord_28 : decode cX4_isWord 28 = .ok (.iload_n 2, 1) := by decide +kernel
theorem dX4_isWord_29 : decode cX4_isWord 29 = .ok (.aload_n 1, 1) := by decide +kernel
theorem dX4_isWord_30 : decode cX4_isWord 30 = .ok (.invokevirtual 116, 3) := by decide +kernel
theorem dX4_isWord_33 : decode cX4_isWord 33 = .ok (.if_icmp .ge 30, 3) := by decide +kernel
theorem dX4_isWord_36 : decode cX4_isWord 36 = .ok (.aload_n 0, 1) := by decide +kernel
theorem dX4_isWord_37 : decode cX4_isWord 37 = .ok (.getfield 9, 3) := by decide +kernel
theorem dX4_isWord_40 : decode cX4_isWord 40 = .ok (.aload_n 0, 1) := by decide +kernel
theorem dX4_isWord_41 : decode cX4_isWord 41 = .ok (.getfield 35, 3) := by decide +kernel
theorem dX4_isWord_44 : decode cX4_isWord 44 = .ok (.iload_n 2, 1) := by decide +kernel
theorem dX4_isWord_45 : decode cX4_isWord 45 = .ok (.iadd, 1) := by decide +kernel
theorem dX4_isWord_46 : decode cX4_isWord 46 = .ok (.iaload, 1) := by decide +kernel
theorem dX4_isWord_47 : decode cX4_isWord 47 = .ok (.aload_n 1, 1) := by decide +kernel
theorem dX4_isWord_48 : decode cX4_isWord 48 = .ok (.iload_n 2, 1) := by decide +kernel
theorem dX4_isWord_49 : decode cX4_isWord 49 = .ok (.invokevirtual 121, 3) := by decide +kernel
theorem dX4_isWord_52 : decode cX4_isWord 52 = .ok (.if_icmp .eq 5, 3) := by decide +kernel
theorem dX4_isWord_55 : decode cX4_isWord 55 = .ok (.iconst 0, 1) := by decide +kernel
theorem dX4_isWord_56 : decode cX4_isWord 56 = .ok (.ireturn, 1) := by decide +kernel
theorem dX4_isWord_57 : decode cX4_isWord 57 = .ok (.iinc 2 1, 3) := by decide +kernel
theorem dX4_isWord_60 : decode cX4_isWord 60 = .ok (.goto (-32), 3) := by decide +kernel
theorem dX4_isWord_63 : decode cX4_isWord 63 = .ok (.iconst 1, 1) := by decide +kernel
theorem dX4_isWord_64 : decode cX4_isWord 64 = .ok (.ireturn, 1) := by decide +kernel
theorem dX4_toNextToken_0 : decode cX4_toNextToken 0 = .ok (.aload_n 0, 1) := by decide +kernel
theorem dX4_toNextToken_1 : decode cX4_toNextToken 1 = .ok (.aload_n 0, 1) := by decide +kernel
theorem dX4_toNextToken_2 : decode cX4_toNextToken 2 = .ok (.getfield 22, 3) := by decide +kernel
theorem dX4_toNextToken_5 : decode cX4_toNextToken 5 = .ok (.putfield 35, 3) := by decide +kernel
theorem dX4_toNextToken_8 : decode cX4_toNextToken 8 = .ok (.aload_n 0, 1) := by decide +kernel
theorem dX4_toNextToken_9 : decode cX4_toNextToken 9 = .ok (.getfield 35, 3) := by decide +kernel
theorem dX4_toNextToken_12 : decode cX4_toNextToken 12 = .ok (.aload_n 0, 1) := by decide +kernel
theorem dX4_toNextToken_13 : decode cX4_toNextToken 13 = .ok (.getfield 19, 3) := by decide +kernel
theorem dX4_toNextToken_16 : decode cX4_toNextToken 16 = .ok (.if_icmp .ge 30, 3) := by decide +kernel
theorem dX4_toNextToken_19 : decode cX4_toNextToken 19 = .ok (.aload_n 0, 1) := by decide +kernel
theorem dX4_toNextToken_20 : decode cX4_toNextToken 20 = .ok (.getfield 9, 3) := by decide +kernel
theorem dX4_toNextToken_23 : decode cX4_toNextToken 23 = .ok (.aload_n 0, 1) := by decide +kernel
theorem dX4_toNextToken_24 : decode cX4_toNextToken 24 = .ok (.getfield 35, 3) := by decide +kernel
theorem dX4_toNextToken_27 : decode cX4_toNextToken 27 = .ok (.iaload, 1) := by decide +kernel
theorem dX4_toNextToken_28 : decode cX4_toNextToken 28 = .ok (.bipush 32, 2) := by decide +kernel
theorem dX4_toNextToken_30 : decode cX4_toNextToken 30 = .ok (.if_icmp .ne 16, 3) := by decide +kernel
theorem dX4_toNextToken_33 : decode cX4_toNextToken 33 = .ok (.aload_n 0, 1) := by decide +kernel
theorem dX4_toNextToken_34 : decode cX4_toNextToken 34 = .ok (.dup, 1) := by decide +kernel
theorem dX4_toNextToken_35 : decode cX4_toNextToken 35 = .ok (.getfield 35, 3) := by decide +kernel
theorem dX4_toNextToken_38 : decode cX4_toNextToken 38 = .ok (.iconst 1, 1) := by decide +kernel
theorem dX4_toNextToken_39 : decode cX4_toNextToken 39 = .ok (.iadd, 1) := by decide +kernel
theorem dX4_toNextToken_40 : decode cX4_toNextToken 40 = .ok (.putfield 35, 3) := by decide +kernel
theorem dX4_toNextToken_43 : decode cX4_toNextToken 43 = .ok (.goto (-35), 3) := by decide +kernel
theorem dX4_toNextToken_46 : decode cX4_toNextToken 46 = .ok (.aload_n 0, 1) := by decide +kernel
theorem dX4_toNextToken_47 : decode cX4_toNextToken 47 = .ok (.aload_n 0, 1) := by decide +kernel
theorem dX4_toNextToken_48 : decode cX4_toNextToken 48 = .ok (.getfield 35, 3) := by decide +kernel
theorem dX4_toNextToken_51 : decode cX4_toNextToken 51 = .ok (.aload_n 0, 1) := by decide +kernel
theorem dX4_toNextToken_52 : decode cX4_toNextToken 52 = .ok (.getfield 19, 3) := by decide +kernel
theorem dX4_toNextToken_55 : decode cX4_toNextToken 55 = .ok (.if_icmp .ge 18, 3) := by decide +kernel
theorem dX4_toNextToken_58 : decode cX4_toNextToken 58 = .ok (.aload_n 0, 1) := by decide +kernel
theorem dX4_toNextToken_59 : decode cX4_toNextToken 59 = .ok (.getfield 9, 3) := by decide +kernel
theorem dX4_toNextToken_62 : decode cX4_toNextToken 62 = .ok (.aload_n 0, 1) := by decide +kernel
theorem dX4_toNextToken_63 : decode cX4_toNextToken 63 = .ok (.getfield 35, 3) := by decide +kernel
theorem dX4_toNextToken_66 : decode cX4_toNextToken 66 = .ok (.iaload, 1) := by decide +kernel
theorem dX4_toNextToken_67 : decode cX4_toNextToken 67 = .ok (.invokestatic 125, 3) := by decide +kernel
theorem dX4_toNextToken_70 : decode cX4_toNextToken 70 = .ok (.goto 4, 3) := by decide +kernel
theorem dX4_toNextToken_73 : decode cX4_toNextToken 73 = .ok (.iconst 0, 1) := by decide +kernel
theorem dX4_toNextToken_74 : decode cX4_toNextToken 74 = .ok (.putfield 32, 3) := by decide +kernel
theorem dX4_toNextToken_77 : decode cX4_toNextToken 77 = .ok (.aload_n 0, 1) := by decide +kernel
theorem dX4_toNextToken_78 : decode cX4_toNextToken 78 = .ok (.aload_n 0, 1) := by decide +kernel
theorem dX4_toNextToken_79 : decode cX4_toNextToken 79 = .ok (.getfield 35, 3) := by decide +kernel
theorem dX4_toNextToken_82 : decode cX4_toNextToken 82 = .ok (.putfield 22, 3) := by decide +kernel
theorem dX4_toNextToken_85 : decode cX4_toNextToken 85 = .ok (.aload_n 0, 1) := by decide +kernel
theorem dX4_toNextToken_86 : decode cX4_toNextToken 86 = .ok (.getfield 32, 3) := by decide +kernel
theorem dX4_toNextToken_89 : decode cX4_toNextToken 89 = .ok (.iconst 1, 1) := by decide +kernel
theorem dX4_toNextToken_90 : decode cX4_toNextToken 90 = .ok (.if_icmp .eq 11, 3) := by decide +kernel
theorem dX4_toNextToken_93 : decode cX4_toNextToken 93 = .ok (.aload_n 0, 1) := by decide +kernel
theorem dX4_toNextToken_94 : decode cX4_toNextToken 94 = .ok (.getfield 32, 3) := by decide +kernel
theorem dX4_toNextToken_97 : decode cX4_toNextToken 97 = .ok (.iconst 2, 1) := by decide +kernel
theorem dX4_toNextToken_98 : decode cX4_toNextToken 98 = .ok (.if_icmp .ne 46, 3) := by decide +kernel
theorem dX4_toNextToken_101 : decode cX4_toNextToken 101 = .ok (.aload_n 0, 1) := by decide +kernel
theorem dX4_toNextToken_102 : decode cX4_toNextToken 102 = .ok (.getfield 22, 3) := by decide +kernel
theorem dX4_toNextToken_105 : decode cX4_toNextToken 105 = .ok (.aload_n 0, 1) := by decide +kernel
theorem dX4_toNextToken_106 : decode cX4_toNextToken 106 = .ok (.getfield 19, 3) := by decide +kernel
theorem dX4_toNextToken_109 : decode cX4_toNextToken 109 = .ok (.if_icmp .ge 52, 3) := by decide +kernel
theorem dX4_toNextToken_112 : decode cX4_toNextToken 112 = .ok (.aload_n 0, 1) := by decide +kernel
theorem dX4_toNextToken_113 : decode cX4_toNextToken 113 = .ok (.getfield 9, 3) := by decide +kernel
theorem dX4_toNextToken_116 : decode cX4_toNextToken 116 = .ok (.aload_n 0, 1) := by decide +kernel
theorem dX4_toNextToken_117 : decode cX4_toNextToken 117 = .ok (.getfield 22, 3) := by decide +kernel
theorem dX4_toNextToken_120 : decode cX4_toNextToken 120 = .ok (.iaload, 1) := by decide +kernel
theorem dX4_toNextToken_121 : decode cX4_toNextToken 121 = .ok (.invokestatic 125, 3) := by decide +kernel
theorem dX4_toNextToken_124 : decode cX4_toNextToken 124 = .ok (.aload_n 0, 1) := by decide +kernel
theorem dX4_toNextToken_125 : decode cX4_toNextToken 125 = .ok (.getfield 32, 3) := by decide +kernel
theorem dX4_toNextToken_128 : decode cX4_toNextToken 128 = .ok (.if_icmp .ne 33, 3) := by decide +kernel
theorem dX4_toNextToken_131 : decode cX4_toNextToken 131 = .ok (.aload_n 0, 1) := by decide +kernel
theorem dX4_toNextToken_132 : decode cX4_toNextToken 132 = .ok (.dup, 1) := by decide +kernel
theorem dX4_toNextToken_133 : decode cX4_toNextToken 133 = .ok (.getfield 22, 3) := by decide +kernel
theorem dX4_toNextToken_136 : decode cX4_toNextToken 136 = .ok (.iconst 1, 1) := by decide +kernel
theorem dX4_toNextToken_137 : decode cX4_toNextToken 137 = .ok (.iadd, 1) := by decide +kernel
theorem dX4_toNextToken_138 : decode cX4_toNextToken 138 = .ok (.putfield 22, 3) := by decide +kernel
theorem dX4_toNextToken_141 : decode cX4_toNextToken 141 = .ok (.goto (-40), 3) := by decide +kernel
theorem dX4_toNextToken_144 : decode cX4_toNextToken 144 = .ok (.aload_n 0, 1) := by decide +kernel
theorem dX4_toNextToken_145 : decode cX4_toNextToken 145 = .ok (.getfield 32, 3) := by decide +kernel
theorem dX4_toNextToken_148 : decode cX4_toNextToken 148 = .ok (.ifCond .eq 13, 3) := by decide +kernel
theorem dX4_toNextToken_151 : decode cX4_toNextToken 151 = .ok (.aload_n 0, 1) := by decide +kernel
theorem dX4_toNextToken_152 : decode cX4_toNextToken 152 = .ok (.dup, 1) := by decide +kernel
theorem dX4_toNextToken_153 : decode cX4_toNextToken 153 = .ok (.getfield 22, 3) := by decide +kernel
theorem dX4_toNextToken_156 : decode cX4_toNextToken 156 = .ok (.iconst 1, 1) := by decide +kernel
theorem dX4_toNextToken_157 : decode cX4_toNextToken 157 = .ok (.iadd, 1) := by decide +kernel
theorem dX4_toNextToken_158 : decode cX4_toNextToken 158 = .ok (.putfield 22, 3) := by decide +kernel
theorem dX4_toNextToken_161 : decode cX4_toNextToken 161 = .ok (.return_, 1) := by decide +kernel
theorem dX4_sortOf_0 : decode cX4_sortOf 0 = .ok (.iload_n 0, 1) := by decide +kernel
theorem dX4_sortOf_1 : decode cX4_sortOf 1 = .ok (.bipush 97, 2) := by decide +kernel
theorem dX4_sortOf_3 : decode cX4_sortOf 3 = .ok (.if_icmp .lt 11, 3) := by decide +kernel
theorem dX4_sortOf_6 : decode cX4_sortOf 6 = .ok (.iload_n 0, 1) := by decide +kernel
theorem dX4_sortOf_7 : decode cX4_sortOf 7 = .ok (.bipush 122, 2) := by decide +kernel
theorem dX4_sortOf_9 : decode cX4_sortOf 9 = .ok (.if_icmp .gt 5, 3) := by decide +kernel
theorem dX4_sortOf_12 : decode cX4_sortOf 12 = .ok (.iconst 1, 1) := by decide +kernel
theorem dX4_sortOf_13 : decode cX4_sortOf 13 = .ok (.ireturn, 1) := by decide +kernel
theorem dX4_sortOf_14 : decode cX4_sortOf 14 = .ok (.iload_n 0, 1) := by decide +kernel
theorem dX4_sortOf_15 : decode cX4_sortOf 15 = .ok (.bipush 48, 2) := by decide +kernel
theorem dX4_sortOf_17 : decode cX4_sortOf 17 = .ok (.if_icmp .lt 11, 3) := by decide +kernel
theorem dX4_sortOf_20 : decode cX4_sortOf 20 = .ok (.iload_n 0, 1) := by decide +kernel
theorem dX4_sortOf_21 : decode cX4_sortOf 21 = .ok (.bipush 57, 2) := by decide +kernel
theorem dX4_sortOf_23 : decode cX4_sortOf 23 = .ok (.if_icmp .gt 5, 3) := by decide +kernel
theorem dX4_sortOf_26 : decode cX4_sortOf 26 = .ok (.iconst 2, 1) := by decide +kernel
theorem dX4_sortOf_27 : decode cX4_sortOf 27 = .ok (.ireturn, 1) := by decide +kernel
theorem dX4_sortOf_28 : decode cX4_sortOf 28 = .ok (.iload_n 0, 1) := by decide +kernel
theorem dX4_sortOf_29 : decode cX4_sortOf 29 = .ok (.bipush 59, 2) := by decide +kernel
theorem dX4_sortOf_31 : decode cX4_sortOf 31 = .ok (.if_icmp .ne 7, 3) := by decide +kernel
theorem dX4_sortOf_34 : decode cX4_sortOf 34 = .ok (.iconst 3, 1) := by decide +kernel
theorem dX4_sortOf_35 : decode cX4_sortOf 35 = .ok (.goto 4, 3) := by decide +kernel
theorem dX4_sortOf_38 : decode cX4_sortOf 38 = .ok (.iconst 4, 1) := by decide +kernel
theorem dX4_sortOf_39 : decode cX4_sortOf 39 = .ok (.ireturn, 1) := by decide +kernel
theorem dX5_init_0 : decode cX5_init 0 = .ok (.aload_n 0, 1) := by decide +kernel
theorem dX5_init_1 : decode cX5_init 1 = .ok (.invokespecial 3, 3) := by decide +kernel
theorem dX5_init_4 : decode cX5_init 4 = .ok (.aload_n 0, 1) := by decide +kernel
theorem dX5_init_5 : decode cX5_init 5 = .ok (.bipush 8, 2) := by decide +kernel
theorem dX5_init_7 : decode cX5_init 7 = .ok (.newarray .int, 2) := by decide +kernel
theorem dX5_init_9 : decode cX5_init 9 = .ok (.putfield 9, 3) := by decide +kernel
theorem dX5_init_12 : decode cX5_init 12 = .ok (.aload_n 0, 1) := by decide +kernel
theorem dX5_init_13 : decode cX5_init 13 = .ok (.bipush 8, 2) := by decide +kernel
theorem dX5_init_15 : decode cX5_init 15 = .ok (.newarray .int, 2) := by decide +kernel
theorem dX5_init_17 : decode cX5_init 17 = .ok (.putfield 15, 3) := by decide +kernel
theorem dX5_init_20 : decode cX5_init 20 = .ok (.aload_n 0, 1) := by decide +kernel
theorem dX5_init_21 : decode cX5_init 21 = .ok (.bipush 8, 2) := by decide +kernel
theorem dX5_init_23 : decode cX5_init 23 = .ok (.newarray .int, 2) := by decide +kernel
theorem dX5_init_25 : decode cX5_init 25 = .ok (.putfield 18, 3) := by decide +kernel
theorem dX5_init_28 : decode cX5_init 28 = .ok (.aload_n 0, 1) := by decide +kernel
theorem dX5_init_29 : decode cX5_init 29 = .ok (.bipush 8, 2) := by decide +kernel
theorem dX5_init_31 : decode cX5_init 31 = .ok (.newarray .int, 2) := by decide +kernel
theorem dX5_init_33 : decode cX5_init 33 = .ok (.putfield 21, 3) := by decide +kernel
theorem dX5_init_36 : decode cX5_init 36 = .ok (.aload_n 0, 1) := by decide +kernel
theorem dX5_init_37 : decode cX5_init 37 = .ok (.bipush 8, 2) := by decide +kernel
theorem dX5_init_39 : decode cX5_init 39 = .ok (.newarray .int, 2) := by decide +kernel
theorem dX5_init_41 : decode cX5_init 41 = .ok (.putfield 24, 3) := by decide +kernel
theorem dX5_init_44 : decode cX5_init 44 = .ok (.aload_n 0, 1) := by decide +kernel
theorem dX5_init_45 : decode cX5_init 45 = .ok (.bipush 8, 2) := by decide +kernel
theorem dX5_init_47 : decode cX5_init 47 = .ok (.newarray .int, 2) := by decide +kernel
theorem dX5_init_49 : decode cX5_init 49 = .ok (.putfield 27, 3) := by decide +kernel
theorem dX5_init_52 : decode cX5_init 52 = .ok (.aload_n 0, 1) := by decide +kernel
theorem dX5_init_53 : decode cX5_init 53 = .ok (.iconst 2, 1) := by decide +kernel
theorem dX5_init_54 : decode cX5_init 54 = .ok (.bipush 8, 2) := by decide +kernel
theorem dX5_init_56 : decode cX5_init 56 = .ok (.multianewarray 30 2, 4) := by decide +kernel
theorem dX5_init_60 : decode cX5_init 60 = .ok (.putfield 32, 3) := by decide +kernel
theorem dX5_init_63 : decode cX5_init 63 = .ok (.aload_n 0, 1) := by decide +kernel
theorem dX5_init_64 : decode cX5_init 64 = .ok (.iconst 2, 1) := by decide +kernel
theorem dX5_init_65 : decode cX5_init 65 = .ok (.newarray .int, 2) := by decide +kernel
theorem dX5_init_67 : decode cX5_init 67 = .ok (.putfield 35, 3) := by decide +kernel
theorem dX5_init_70 : decode cX5_init 70 = .ok (.aload_n 0, 1) := by decide +kernel
theorem dX5_init_71 : decode cX5_init 71 = .ok (.bipush 9, 2) := by decide +kernel
theorem dX5_init_73 : decode cX5_init 73 = .ok (.putfield 38, 3) := by decide +kernel
theorem dX5_init_76 : decode cX5_init 76 = .ok (.aload_n 0, 1) := by decide +kernel
theorem dX5_init_77 : decode cX5_init 77 = .ok (.iconst 1, 1) := by decide +kernel
theorem dX5_init_78 : decode cX5_init 78 = .ok (.putfield 42, 3) := by decide +kernel
theorem dX5_init_81 : decode cX5_init 81 = .ok (.aload_n 0, 1) := by decide +kernel
theorem dX5_init_82 : decode cX5_init 82 = .ok (.bipush 20, 2) := by decide +kernel
theorem dX5_init_84 : decode cX5_init 84 = .ok (.putfield 45, 3) := by decide +kernel
theorem dX5_init_87 : decode cX5_init 87 = .ok (.aload_n 0, 1) := by decide +kernel
theorem dX5_init_88 : decode cX5_init 88 = .ok (.iconst 1, 1) := by decide +kernel
theorem dX5_init_89 : decode cX5_init 89 = .ok (.putfield 48, 3) := by decide +kernel
theorem dX5_init_92 : decode cX5_init 92 = .ok (.return_, 1) := by decide +kernel
theorem dX5_becomeAs_0 : decode cX5_becomeAs 0 = .ok (.aload_n 1, 1) := by decide +kernel
theorem dX5_becomeAs_1 : decode cX5_becomeAs 1 = .ok (.getfield 9, 3) := by decide +kernel
theorem dX5_becomeAs_4 : decode cX5_becomeAs 4 = .ok (.iconst 0, 1) := by decide +kernel
theorem dX5_becomeAs_5 : decode cX5_becomeAs 5 = .ok (.aload_n 0, 1) := by decide +kernel
theorem dX5_becomeAs_6 : decode cX5_becomeAs 6 = .ok (.getfield 9, 3) := by decide +kernel
theorem dX5_becomeAs_9 : decode cX5_becomeAs 9 = .ok (.iconst 0, 1) := by decide +kernel
theorem dX5_becomeAs_10 : decode cX5_becomeAs 10 = .ok (.bipush 8, 2) := by decide +kernel
theorem dX5_becomeAs_12 : decode cX5_becomeAs 12 = .ok (.invokestatic 51, 3) := by decide +kernel
theorem dX5_becomeAs_15 : decode cX5_becomeAs 15 = .ok (.aload_n 1, 1) := by decide +kernel
theorem dX5_becomeAs_16 : decode cX5_becomeAs 16 = .ok (.getfield 15, 3) := by decide +kernel
theorem dX5_becomeAs_19 : decode cX5_becomeAs 19 = .ok (.iconst 0, 1) := by decide +kernel
theorem dX5_becomeAs_20 : decode cX5_becomeAs 20 = .ok (.aload_n 0, 1) := by decide +kernel
theorem dX5_becomeAs_21 : decode cX5_becomeAs 21 = .ok (.getfield 15, 3) := by decide +kernel
theorem dX5_becomeAs_24 : decode cX5_becomeAs 24 = .ok (.iconst 0, 1) := by decide +kernel
theorem dX5_becomeAs_25 : decode cX5_becomeAs 25 = .ok (.bipush 8, 2) := by decide +kernel
theorem dX5_becomeAs_27 : decode cX5_becomeAs 27 = .ok (.invokestatic 51, 3) := by decide +kernel
theorem dX5_becomeAs_30 : decode cX5_becomeAs 30 = .ok (.aload_n 1, 1) := by decide +kernel
theorem dX5_becomeAs_31 : decode cX5_becomeAs 31 = .ok (.getfield 18, 3) := by decide +kernel
theorem dX5_becomeAs_34 : decode cX5_becomeAs 34 = .ok (.iconst 0, 1) := by decide +kernel
theorem dX5_becomeAs_35 : decode cX5_becomeAs 35 = .ok (.aload_n 0, 1) := by decide +kernel
theorem dX5_becomeAs_36 : decode cX5_becomeAs 36 = .ok (.getfield 18, 3) := by decide +kernel
theorem dX5_becomeAs_39 : decode cX5_becomeAs 39 = .ok (.iconst 0, 1) := by decide +kernel
theorem dX5_becomeAs_40 : decode cX5_becomeAs 40 = .ok (.bipush 8, 2) := by decide +kernel
theorem dX5_becomeAs_42 : decode cX5_becomeAs 42 = .ok (.invokestatic 51, 3) := by decide +kernel
theorem dX5_becomeAs_45 : decode cX5_becomeAs 45 = .ok (.aload_n 1, 1) := by decide +kernel
theorem dX5_becomeAs_46 : decode cX5_becomeAs 46 = .ok (.getfield 21, 3) := by decide +kernel
theorem dX5_becomeAs_49 : decode cX5_becomeAs 49 = .ok (.iconst 0, 1) := by decide +kernel
theorem dX5_becomeAs_50 : decode cX5_becomeAs 50 = .ok (.aload_n 0, 1) := by decide +kernel
theorem dX5_becomeAs_51 : decode cX5_becomeAs 51 = .ok (.getfield 21, 3) := by decide +kernel
theorem dX5_becomeAs_54 : decode cX5_becomeAs 54 = .ok (.iconst 0, 1) := by decide +kernel
theorem dX5_becomeAs_55 : decode cX5_becomeAs 55 = .ok (.bipush 8, 2) := by decide +kernel
theorem dX5_becomeAs_57 : decode cX5_becomeAs 57 = .ok (.invokestatic 51, 3) := by decide +kernel
theorem dX5_becomeAs_60 : decode cX5_becomeAs 60 = .ok (.aload_n 1, 1) := by decide +kernel
theorem dX5_becomeAs_61 : decode cX5_becomeAs 61 = .ok (.getfield 24, 3) := by decide +kernel
theorem dX5_becomeAs_64 : decode cX5_becomeAs 64 = .ok (.iconst 0, 1) := by decide +kernel
theorem dX5_becomeAs_65 : decode cX5_becomeAs 65 = .ok (.aload_n 0, 1) := by decide +kernel
theorem dX5_becomeAs_66 : decode cX5_becomeAs 66 = .ok (.getfield 24, 3) := by decide +kernel
theorem dX5_becomeAs_69 : decode cX5_becomeAs 69 = .ok (.iconst 0, 1) := by decide +kernel
theorem dX5_becomeAs_70 : decode cX5_becomeAs 70 = .ok (.bipush 8, 2) := by decide +kernel
theorem dX5_becomeAs_72 : decode cX5_becomeAs 72 = .ok (.invokestatic 51, 3) := by decide +kernel
theorem dX5_becomeAs_75 : decode cX5_becomeAs 75 = .ok (.aload_n 1, 1) := by decide +kernel
theorem dX5_becomeAs_76 : decode cX5_becomeAs 76 = .ok (.getfield 27, 3) := by decide +kernel
theorem dX5_becomeAs_79 : decode cX5_becomeAs 79 = .ok (.iconst 0, 1) := by decide +kernel
theorem dX5_becomeAs_80 : decode cX5_becomeAs 80 = .ok (.aload_n 0, 1) := by decide +kernel
theorem dX5_becomeAs_81 : decode cX5_becomeAs 81 = .ok (.getfield 27, 3) := by decide +kernel
theorem dX5_becomeAs_84 : decode cX5_becomeAs 84 = .ok (.iconst 0, 1) := by decide +kernel
theorem dX5_becomeAs_85 : decode cX5_becomeAs 85 = .ok (.bipush 8, 2) := by decide +kernel
theorem dX5_becomeAs_87 : decode cX5_becomeAs 87 = .ok (.invokestatic 51, 3) := by decide +kernel
theorem dX5_becomeAs_90 : decode cX5_becomeAs 90 = .ok (.aload_n 1, 1) := by decide +kernel
theorem dX5_becomeAs_91 : decode cX5_becomeAs 91 = .ok (.getfield 32, 3) := by decide +kernel
theorem dX5_becomeAs_94 : decode cX5_becomeAs 94 = .ok (.iconst 0, 1) := by decide +kernel
theorem dX5_becomeAs_95 : decode cX5_becomeAs 95 = .ok (.aaload, 1) := by decide +kernel
theorem dX5_becomeAs_96 : decode cX5_becomeAs 96 = .ok (.iconst 0, 1) := by decide +kernel
theorem dX5_becomeAs_97 : decode cX5_becomeAs 97 = .ok (.aload_n 0, 1) := by decide +kernel
theorem dX5_becomeAs_98 : decode cX5_becomeAs 98 = .ok (.getfield 32, 3) := by decide +kernel
theorem dX5_becomeAs_101 : decode cX5_becomeAs 101 = .ok (.iconst 0, 1) := by decide +kernel
theorem dX5_becomeAs_102 : decode cX5_becomeAs 102 = .ok (.aaload, 1) := by decide +kernel
theorem dX5_becomeAs_103 : decode cX5_becomeAs 103 = .ok (.iconst 0, 1) := by decide +kernel
theorem dX5_becomeAs_104 : decode cX5_becomeAs 104 = .ok (.bipush 8, 2) := by decide +kernel
theorem dX5_becomeAs_106 : decode cX5_becomeAs 106 = .ok (.invokestatic 51, 3) := by decide +kernel
theorem dX5_becomeAs_109 : decode cX5_becomeAs 109 = .ok (.aload_n 1, 1) := by decide +kernel
theorem dX5_becomeAs_110 : decode cX5_becomeAs 110 = .ok (.getfield 32, 3) := by decide +kernel
theorem dX5_becomeAs_113 : decode cX5_becomeAs 113 = .ok (.iconst 1, 1) := by decide +kernel
theorem dX5_becomeAs_114 : decode cX5_becomeAs 114 = .ok (.aaload, 1) := by decide +kernel
theorem dX5_becomeAs_115 : decode cX5_becomeAs 115 = .ok (.iconst 0, 1) := by decide +kernel
theorem dX5_becomeAs_116 : decode cX5_becomeAs 116 = .ok (.aload_n 0, 1) := by decide +kernel
theorem dX5_becomeAs_117 : decode cX5_becomeAs 117 = .ok (.getfield 32, 3) := by decide +kernel
theorem dX5_becomeAs_120 : decode cX5_becomeAs 120 = .ok (.iconst 1, 1) := by decide +kernel
theorem dX5_becomeAs_121 : decode cX5_becomeAs 121 = .ok (.aaload, 1) := by decide +kernel
theorem dX5_becomeAs_122 : decode cX5_becomeAs 122 = .ok (.iconst 0, 1) := by decide +kernel
theorem dX5_becomeAs_123 : decode cX5_becomeAs 123 = .ok (.bipush 8, 2) := by decide +kernel
theorem dX5_becomeAs_125 : decode cX5_becomeAs 125 = .ok (.invokestatic 51, 3) := by decide +kernel
theorem dX5_becomeAs_128 : decode cX5_becomeAs 128 = .ok (.aload_n 0, 1) := by decide +kernel
theorem dX5_becomeAs_129 : decode cX5_becomeAs 129 = .ok (.getfield 35, 3) := by decide +kernel
theorem dX5_becomeAs_132 : decode cX5_becomeAs 132 = .ok (.iconst 0, 1) := by decide +kernel
theorem dX5_becomeAs_133 : decode cX5_becomeAs 133 = .ok (.aload_n 1, 1) := by decide +kernel
theorem dX5_becomeAs_134 : decode cX5_becomeAs 134 = .ok (.getfield 35, 3) := by decide +kernel
theorem dX5_becomeAs_137 : decode cX5_becomeAs 137 = .ok (.iconst 0, 1) := by decide +kernel
theorem dX5_becomeAs_138 : decode cX5_becomeAs 138 = .ok (.iaload, 1) := by decide +kernel
theorem dX5_becomeAs_139 : decode cX5_becomeAs 139 = .ok (.iastore, 1) := by decide +kernel
theorem dX5_becomeAs_140 : decode cX5_becomeAs 140 = .ok (.aload_n 0, 1) := by decide +kernel
theorem dX5_becomeAs_141 : decode cX5_becomeAs 141 = .ok (.getfield 35, 3) := by decide +kernel
theorem dX5_becomeAs_144 : decode cX5_becomeAs 144 = .ok (.iconst 1, 1) := by decide +kernel
theorem dX5_becomeAs_145 : decode cX5_becomeAs 145 = .ok (.aload_n 1, 1) := by decide +kernel
theorem dX5_becomeAs_146 : decode cX5_becomeAs 146 = .ok (.getfield 35, 3) := by decide +kernel
theorem dX5_becomeAs_149 : decode cX5_becomeAs 149 = .ok (.iconst 1, 1) := by decide +kernel
theorem dX5_becomeAs_150 : decode cX5_becomeAs 150 = .ok (.iaload, 1) := by decide +kernel
theorem dX5_becomeAs_151 : decode cX5_becomeAs 151 = .ok (.iastore, 1) := by decide +kernel
theorem dX5_becomeAs_152 : decode cX5_becomeAs 152 = .ok (.aload_n 0, 1) := by decide +kernel
theorem dX5_becomeAs_153 : decode cX5_becomeAs 153 = .ok (.aload_n 1, 1) := by decide +kernel
theorem dX5_becomeAs_154 : decode cX5_becomeAs 154 = .ok (.getfield 57, 3) := by decide +kernel
theorem dX5_becomeAs_157 : decode cX5_becomeAs 157 = .ok (.putfield 57, 3) := by decide +kernel
theorem dX5_becomeAs_160 : decode cX5_becomeAs 160 = .ok (.aload_n 0, 1) := by decide +kernel
theorem dX5_becomeAs_161 : decode cX5_becomeAs 161 = .ok (.aload_n 1, 1) := by decide +kernel
theorem dX5_becomeAs_162 : decode cX5_becomeAs 162 = .ok (.getfield 38, 3) := by decide +kernel
theorem dX5_becomeAs_165 : decode cX5_becomeAs 165 = .ok (.putfield 38, 3) := by decide +kernel
theorem dX5_becomeAs_168 : decode cX5_becomeAs 168 = .ok (.aload_n 0, 1) := by decide +kernel
theorem dX5_becomeAs_169 : decode cX5_becomeAs 169 = .ok (.aload_n 1, 1) := by decide +kernel
theorem dX5_becomeAs_170 : decode cX5_becomeAs 170 = .ok (.getfield 42, 3) := by decide +kernel
theorem dX5_becomeAs_173 : decode cX5_becomeAs 173 = .ok (.putfield 42, 3) := by decide +kernel
theorem dX5_becomeAs_176 : decode cX5_becomeAs 176 = .ok (.aload_n 0, 1) := by decide +kernel
theorem dX5_becomeAs_177 : decode cX5_becomeAs 177 = .ok (.aload_n 1, 1) := by decide +kernel
theorem dX5_becomeAs_178 : decode cX5_becomeAs 178 = .ok (.getfield 60, 3) := by decide +kernel
theorem dX5_becomeAs_181 : decode cX5_becomeAs 181 = .ok (.putfield 60, 3) := by decide +kernel
theorem dX5_becomeAs_184 : decode cX5_becomeAs 184 = .ok (.aload_n 0, 1) := by decide +kernel
theorem dX5_becomeAs_185 : decode cX5_becomeAs 185 = .ok (.aload_n 1, 1) := by decide +kernel
theorem dX5_becomeAs_186 : decode cX5_becomeAs 186 = .ok (.getfield 45, 3) := by decide +kernel
theorem dX5_becomeAs_189 : decode cX5_becomeAs 189 = .ok (.putfield 45, 3) := by decide +kernel
theorem dX5_becomeAs_192 : decode cX5_becomeAs 192 = .ok (.aload_n 0, 1) := by decide +kernel
theorem dX5_becomeAs_193 : decode cX5_becomeAs 193 = .ok (.aload_n 1, 1) := by decide +kernel
theorem dX5_becomeAs_194 : decode cX5_becomeAs 194 = .ok (.getfield 63, 3) := by decide +kernel
theorem dX5_becomeAs_197 : decode cX5_becomeAs 197 = .ok (.putfield 63, 3) := by decide +kernel
theorem dX5_becomeAs_200 : decode cX5_becomeAs 200 = .ok (.aload_n 0, 1) := by decide +kernel
theorem dX5_becomeAs_201 : decode cX5_becomeAs 201 = .ok (.aload_n 1, 1) := by decide +kernel
theorem dX5_becomeAs_202 : decode cX5_becomeAs 202 = .ok (.getfield 66, 3) := by decide +kernel
theorem dX5_becomeAs_205 : decode cX5_becomeAs 205 = .ok (.putfield 66, 3) := by decide +kernel
theorem dX5_becomeAs_208 : decode cX5_becomeAs 208 = .ok (.aload_n 0, 1) := by decide +kernel
theorem dX5_becomeAs_209 : decode cX5_becomeAs 209 = .ok (.aload_n 1, 1) := by decide +kernel
theorem dX5_becomeAs_210 : decode cX5_becomeAs 210 = .ok (.getfield 48, 3) := by decide +kernel
theorem dX5_becomeAs_213 : decode cX5_becomeAs 213 = .ok (.putfield 48, 3) := by decide +kernel
theorem dX5_becomeAs_216 : decode cX5_becomeAs 216 = .ok (.return_, 1) := by decide +kernel
theorem dX5_has_0 : decode cX5_has 0 = .ok (.iload_n 1, 1) := by decide +kernel
theorem dX5_has_1 : decode cX5_has 1 = .ok (.ifCond .lt 15, 3) := by decide +kernel
theorem dX5_has_4 : decode cX5_has 4 = .ok (.iload_n 1, 1) := by decide +kernel
theorem dX5_has_5 : decode cX5_has 5 = .ok (.aload_n 0, 1) := by decide +kernel
theorem dX5_has_6 : decode cX5_has 6 = .ok (.getfield 57, 3) := by decide +kernel
theorem dX5_has_9 : decode cX5_has 9 = .ok (.if_icmp .ge 7, 3) := by decide +kernel
theorem dX5_has_12 : decode cX5_has 12 = .ok (.iconst 1, 1) := by decide +kernel
theorem dX5_has_13 : decode cX5_has 13 = .ok (.goto 4, 3) := by decide +kernel
theorem dX5_has_16 : decode cX5_has 16 = .ok (.iconst 0, 1) := by decide +kernel
theorem dX5_has_17 : decode cX5_has 17 = .ok (.ireturn, 1) := by decide +kernel
theorem dX5_hasPlace_0 : decode cX5_hasPlace 0 = .ok (.iload_n 2, 1) := by decide +kernel
theorem dX5_hasPlace_1 : decode cX5_hasPlace 1 = .ok (.ifCond .lt 17, 3) := by decide +kernel
theorem dX5_hasPlace_4 : decode cX5_hasPlace 4 = .ok (.iload_n 2, 1) := by decide +kernel
theorem dX5_hasPlace_5 : decode cX5_hasPlace 5 = .ok (.aload_n 0, 1) := by decide +kernel
theorem dX5_hasPlace_6 : decode cX5_hasPlace 6 = .ok (.getfield 35, 3) := by decide +kernel
theorem dX5_hasPlace_9 : decode cX5_hasPlace 9 = .ok (.iload_n 1, 1) := by decide +kernel
theorem dX5_hasPlace_10 : decode cX5_hasPlace 10 = .ok (.iaload, 1) := by decide +kernel
theorem dX5_hasPlace_11 : decode cX5_hasPlace 11 = .ok (.if_icmp .ge 7, 3) := by decide +kernel
theorem dX5_hasPlace_14 : decode cX5_hasPlace 14 = .ok (.iconst 1, 1) := by decide +kernel
theorem dX5_hasPlace_15 : decode cX5_hasPlace 15 = .ok (.goto 4, 3) := by decide +kernel
theorem dX5_hasPlace_18 : decode cX5_hasPlace 18 = .ok (.iconst 0, 1) := by decide +kernel
theorem dX5_hasPlace_19 : decode cX5_hasPlace 19 = .ok (.ireturn, 1) := by decide +kernel
theorem dX5_hasJoint_0 : decode cX5_hasJoint 0 = .ok (.iload_n 2, 1) := by decide +kernel
theorem dX5_hasJoint_1 : decode cX5_hasJoint 1 = .ok (.ifCond .lt 19, 3) := by decide +kernel
theorem dX5_hasJoint_4 : decode cX5_hasJoint 4 = .ok (.iload_n 2, 1) := by decide +kernel
theorem dX5_hasJoint_5 : decode cX5_hasJoint 5 = .ok (.aload_n 0, 1) := by decide +kernel
theorem dX5_hasJoint_6 : decode cX5_hasJoint 6 = .ok (.getfield 35, 3) := by decide +kernel
theorem dX5_hasJoint_9 : decode cX5_hasJoint 9 = .ok (.iload_n 1, 1) := by decide +kernel
theorem dX5_hasJoint_10 : decode cX5_hasJoint 10 = .ok (.iaload, 1) := by decide +kernel
theorem dX5_hasJoint_11 : decode cX5_hasJoint 11 = .ok (.iconst 1, 1) := by decide +kernel
theorem dX5_hasJoint_12 : decode cX5_hasJoint 12 = .ok (.isub, 1) := by decide +kernel
theorem dX5_hasJoint_13 : decode cX5_hasJoint 13 = .ok (.if_icmp .ge 7, 3) := by decide +kernel
theorem dX5_hasJoint_16 : decode cX5_hasJoint 16 = .ok (.iconst 1, 1) := by decide +kernel
