theorem dX7_hardest_78 : decode cX7_hardest 78 = .ok (.iload_n 1, 1) := by decide +kernel
theorem dX7_hardest_79 : decode cX7_hardest 79 = .ok (.aaload, 1) := by decide +kernel
theorem dX7_hardest_80 : decode cX7_hardest 80 = .ok (.iload_n 3, 1) := by decide +kernel
theorem dX7_hardest_81 : decode cX7_hardest 81 = .ok (.iaload, 1) := by decide +kernel
theorem dX7_hardest_82 : decode cX7_hardest 82 = .ok (.goto 4, 3) := by decide +kernel
theorem dX7_hardest_85 : decode cX7_hardest 85 = .ok (.iload_n 2, 1) := by decide +kernel
theorem dX7_hardest_86 : decode cX7_hardest 86 = .ok (.istore_n 2, 1) := by decide +kernel
theorem dX7_hardest_87 : decode cX7_hardest 87 = .ok (.iinc 3 1, 3) := by decide +kernel
theorem dX7_hardest_90 : decode cX7_hardest 90 = .ok (.goto (-46), 3) := by decide +kernel
theorem dX7_hardest_93 : decode cX7_hardest 93 = .ok (.iload_n 2, 1) := by decide +kernel
theorem dX7_hardest_94 : decode cX7_hardest 94 = .ok (.ireturn, 1) := by decide +kernel
theorem dX7_pair_0 : decode cX7_pair 0 = .ok (.aload_n 0, 1) := by decide +kernel
theorem dX7_pair_1 : decode cX7_pair 1 = .ok (.getfield 82, 3) := by decide +kernel
theorem dX7_pair_4 : decode cX7_pair 4 = .ok (.iconst 2, 1) := by decide +kernel
theorem dX7_pair_5 : decode cX7_pair 5 = .ok (.if_icmp .ge 10, 3) := by decide +kernel
theorem dX7_pair_8 : decode cX7_pair 8 = .ok (.aload_n 0, 1) := by decide +kernel
theorem dX7_pair_9 : decode cX7_pair 9 = .ok (.bipush (-5), 2) := by decide +kernel
theorem dX7_pair_11 : decode cX7_pair 11 = .ok (.invokevirtual 99, 3) := by decide +kernel
theorem dX7_pair_14 : decode cX7_pair 14 = .ok (.ireturn, 1) := by decide +kernel
theorem dX7_pair_15 : decode cX7_pair 15 = .ok (.iconst (-1), 1) := by decide +kernel
theorem dX7_pair_16 : decode cX7_pair 16 = .ok (.istore_n 1, 1) := by decide +kernel
theorem dX7_pair_17 : decode cX7_pair 17 = .ok (.iconst 0, 1) := by decide +kernel
theorem dX7_pair_18 : decode cX7_pair 18 = .ok (.istore_n 2, 1) := by decide +kernel
theorem dX7_pair_19 : decode cX7_pair 19 = .ok (.iconst 0, 1) := by decide +kernel
theorem dX7_pair_20 : decode cX7_pair 20 = .ok (.istore_n 3, 1) := by decide +kernel
theorem dX7_pair_21 : decode cX7_pair 21 = .ok (.iload_n 3, 1) := by decide +kernel
theorem dX7_pair_22 : decode cX7_pair 22 = .ok (.aload_n 0, 1) := by decide +kernel
theorem dX7_pair_23 : decode cX7_pair 23 = .ok (.getfield 82, 3) := by decide +kernel
theorem dX7_pair_26 : decode cX7_pair 26 = .ok (.if_icmp .ge 68, 3) := by decide +kernel
theorem dX7_pair_29 : decode cX7_pair 29 = .ok (.iload_n 3, 1) := by decide +kernel
theorem dX7_pair_30 : decode cX7_pair 30 = .ok (.iconst 1, 1) := by decide +kernel
theorem dX7_pair_31 : decode cX7_pair 31 = .ok (.iadd, 1) := by decide +kernel
theorem dX7_pair_32 : decode cX7_pair 32 = .ok (.istore 4, 2) := by decide +kernel
theorem dX7_pair_34 : decode cX7_pair 34 = .ok (.iload 4, 2) := by decide +kernel
theorem dX7_pair_36 : decode cX7_pair 36 = .ok (.aload_n 0, 1) := by decide +kernel
theorem dX7_pair_37 : decode cX7_pair 37 = .ok (.getfield 82, 3) := by decide +kernel
theorem dX7_pair_40 : decode cX7_pair 40 = .ok (.if_icmp .ge 48, 3) := by decide +kernel
theorem dX7_pair_43 : decode cX7_pair 43 = .ok (.aload_n 0, 1) := by decide +kernel
theorem dX7_pair_44 : decode cX7_pair 44 = .ok (.iload_n 3, 1) := by decide +kernel
theorem dX7_pair_45 : decode cX7_pair 45 = .ok (.iload 4, 2) := by decide +kernel
theorem dX7_pair_47 : decode cX7_pair 47 = .ok (.invokevirtual 122, 3) := by decide +kernel
theorem dX7_pair_50 : decode cX7_pair 50 = .ok (.aload_n 0, 1) := by decide +kernel
theorem dX7_pair_51 : decode cX7_pair 51 = .ok (.iload 4, 2) := by decide +kernel
theorem dX7_pair_53 : decode cX7_pair 53 = .ok (.iload_n 3, 1) := by decide +kernel
theorem dX7_pair_54 : decode cX7_pair 54 = .ok (.invokevirtual 122, 3) := by decide +kernel
theorem dX7_pair_57 : decode cX7_pair 57 = .ok (.iadd, 1) := by decide +kernel
theorem dX7_pair_58 : decode cX7_pair 58 = .ok (.istore 5, 2) := by decide +kernel
theorem dX7_pair_60 : decode cX7_pair 60 = .ok (.iload_n 1, 1) := by decide +kernel
theorem dX7_pair_61 : decode cX7_pair 61 = .ok (.iconst (-1), 1) := by decide +kernel
theorem dX7_pair_62 : decode cX7_pair 62 = .ok (.if_icmp .eq 9, 3) := by decide +kernel
theorem dX7_pair_65 : decode cX7_pair 65 = .ok (.iload 5, 2) := by decide +kernel
theorem dX7_pair_67 : decode cX7_pair 67 = .ok (.iload_n 2, 1) := by decide +kernel
theorem dX7_pair_68 : decode cX7_pair 68 = .ok (.if_icmp .le 14, 3) := by decide +kernel
theorem dX7_pair_71 : decode cX7_pair 71 = .ok (.bipush 10, 2) := by decide +kernel
theorem dX7_pair_73 : decode cX7_pair 73 = .ok (.iload_n 3, 1) := by decide +kernel
theorem dX7_pair_74 : decode cX7_pair 74 = .ok (.imul, 1) := by decide +kernel
theorem dX7_pair_75 : decode cX7_pair 75 = .ok (.iload 4, 2) := by decide +kernel
theorem dX7_pair_77 : decode cX7_pair 77 = .ok (.iadd, 1) := by decide +kernel
theorem dX7_pair_78 : decode cX7_pair 78 = .ok (.istore_n 1, 1) := by decide +kernel
theorem dX7_pair_79 : decode cX7_pair 79 = .ok (.iload 5, 2) := by decide +kernel
theorem dX7_pair_81 : decode cX7_pair 81 = .ok (.istore_n 2, 1) := by decide +kernel
theorem dX7_pair_82 : decode cX7_pair 82 = .ok (.iinc 4 1, 3) := by decide +kernel
theorem dX7_pair_85 : decode cX7_pair 85 = .ok (.goto (-51), 3) := by decide +kernel
theorem dX7_pair_88 : decode cX7_pair 88 = .ok (.iinc 3 1, 3) := by decide +kernel
theorem dX7_pair_91 : decode cX7_pair 91 = .ok (.goto (-70), 3) := by decide +kernel
theorem dX7_pair_94 : decode cX7_pair 94 = .ok (.iload_n 1, 1) := by decide +kernel
theorem dX7_pair_95 : decode cX7_pair 95 = .ok (.ireturn, 1) := by decide +kernel
theorem dX7_tiredest_0 : decode cX7_tiredest 0 = .ok (.aload_n 0, 1) := by decide +kernel
theorem dX7_tiredest_1 : decode cX7_tiredest 1 = .ok (.getfield 82, 3) := by decide +kernel
theorem dX7_tiredest_4 : decode cX7_tiredest 4 = .ok (.ifCond .ne 10, 3) := by decide +kernel
theorem dX7_tiredest_7 : decode cX7_tiredest 7 = .ok (.aload_n 0, 1) := by decide +kernel
theorem dX7_tiredest_8 : decode cX7_tiredest 8 = .ok (.bipush (-5), 2) := by decide +kernel
theorem dX7_tiredest_10 : decode cX7_tiredest 10 = .ok (.invokevirtual 99, 3) := by decide +kernel
theorem dX7_tiredest_13 : decode cX7_tiredest 13 = .ok (.ireturn, 1) := by decide +kernel
theorem dX7_tiredest_14 : decode cX7_tiredest 14 = .ok (.iconst 0, 1) := by decide +kernel
theorem dX7_tiredest_15 : decode cX7_tiredest 15 = .ok (.istore_n 1, 1) := by decide +kernel
theorem dX7_tiredest_16 : decode cX7_tiredest 16 = .ok (.iconst 1, 1) := by decide +kernel
theorem dX7_tiredest_17 : decode cX7_tiredest 17 = .ok (.istore_n 2, 1) := by decide +kernel
theorem dX7_tiredest_18 : decode cX7_tiredest 18 = .ok (.iload_n 2, 1) := by decide +kernel
theorem dX7_tiredest_19 : decode cX7_tiredest 19 = .ok (.aload_n 0, 1) := by decide +kernel
theorem dX7_tiredest_20 : decode cX7_tiredest 20 = .ok (.getfield 82, 3) := by decide +kernel
theorem dX7_tiredest_23 : decode cX7_tiredest 23 = .ok (.if_icmp .ge 30, 3) := by decide +kernel
theorem dX7_tiredest_26 : decode cX7_tiredest 26 = .ok (.aload_n 0, 1) := by decide +kernel
theorem dX7_tiredest_27 : decode cX7_tiredest 27 = .ok (.getfield 46, 3) := by decide +kernel
theorem dX7_tiredest_30 : decode cX7_tiredest 30 = .ok (.iload_n 2, 1) := by decide +kernel
theorem dX7_tiredest_31 : decode cX7_tiredest 31 = .ok (.iaload, 1) := by decide +kernel
theorem dX7_tiredest_32 : decode cX7_tiredest 32 = .ok (.aload_n 0, 1) := by decide +kernel
theorem dX7_tiredest_33 : decode cX7_tiredest 33 = .ok (.getfield 46, 3) := by decide +kernel
theorem dX7_tiredest_36 : decode cX7_tiredest 36 = .ok (.iload_n 1, 1) := by decide +kernel
theorem dX7_tiredest_37 : decode cX7_tiredest 37 = .ok (.iaload, 1) := by decide +kernel
theorem dX7_tiredest_38 : decode cX7_tiredest 38 = .ok (.if_icmp .le 7, 3) := by decide +kernel
theorem dX7_tiredest_41 : decode cX7_tiredest 41 = .ok (.iload_n 2, 1) := by decide +kernel
theorem dX7_tiredest_42 : decode cX7_tiredest 42 = .ok (.goto 4, 3) := by decide +kernel
theorem dX7_tiredest_45 : decode cX7_tiredest 45 = .ok (.iload_n 1, 1) := by decide +kernel
theorem dX7_tiredest_46 : decode cX7_tiredest 46 = .ok (.istore_n 1, 1) := by decide +kernel
theorem dX7_tiredest_47 : decode cX7_tiredest 47 = .ok (.iinc 2 1, 3) := by decide +kernel
theorem dX7_tiredest_50 : decode cX7_tiredest 50 = .ok (.goto (-32), 3) := by decide +kernel
theorem dX7_tiredest_53 : decode cX7_tiredest 53 = .ok (.iload_n 1, 1) := by decide +kernel
theorem dX7_tiredest_54 : decode cX7_tiredest 54 = .ok (.ireturn, 1) := by decide +kernel
theorem dX7_spreadFor_0 : decode cX7_spreadFor 0 = .ok (.aload_n 0, 1) := by decide +kernel
theorem dX7_spreadFor_1 : decode cX7_spreadFor 1 = .ok (.iload_n 1, 1) := by decide +kernel
theorem dX7_spreadFor_2 : decode cX7_spreadFor 2 = .ok (.invokevirtual 109, 3) := by decide +kernel
theorem dX7_spreadFor_5 : decode cX7_spreadFor 5 = .ok (.ifCond .eq 15, 3) := by decide +kernel
theorem dX7_spreadFor_8 : decode cX7_spreadFor 8 = .ok (.aload_n 0, 1) := by decide +kernel
theorem dX7_spreadFor_9 : decode cX7_spreadFor 9 = .ok (.aload_n 0, 1) := by decide +kernel
theorem dX7_spreadFor_10 : decode cX7_spreadFor 10 = .ok (.getfield 148, 3) := by decide +kernel
theorem dX7_spreadFor_13 : decode cX7_spreadFor 13 = .ok (.iload_n 2, 1) := by decide +kernel
theorem dX7_spreadFor_14 : decode cX7_spreadFor 14 = .ok (.invokevirtual 263, 3) := by decide +kernel
theorem dX7_spreadFor_17 : decode cX7_spreadFor 17 = .ok (.ifCond .ne 10, 3) := by decide +kernel
theorem dX7_spreadFor_20 : decode cX7_spreadFor 20 = .ok (.aload_n 0, 1) := by decide +kernel
theorem dX7_spreadFor_21 : decode cX7_spreadFor 21 = .ok (.bipush (-2), 2) := by decide +kernel
theorem dX7_spreadFor_23 : decode cX7_spreadFor 23 = .ok (.invokevirtual 99, 3) := by decide +kernel
theorem dX7_spreadFor_26 : decode cX7_spreadFor 26 = .ok (.ireturn, 1) := by decide +kernel
theorem dX7_spreadFor_27 : decode cX7_spreadFor 27 = .ok (.aload_n 0, 1) := by decide +kernel
theorem dX7_spreadFor_28 : decode cX7_spreadFor 28 = .ok (.iload_n 1, 1) := by decide +kernel
theorem dX7_spreadFor_29 : decode cX7_spreadFor 29 = .ok (.invokevirtual 119, 3) := by decide +kernel
theorem dX7_spreadFor_32 : decode cX7_spreadFor 32 = .ok (.aload_n 0, 1) := by decide +kernel
theorem dX7_spreadFor_33 : decode cX7_spreadFor 33 = .ok (.getfield 148, 3) := by decide +kernel
theorem dX7_spreadFor_36 : decode cX7_spreadFor 36 = .ok (.if_icmp .ne 10, 3) := by decide +kernel
theorem dX7_spreadFor_39 : decode cX7_spreadFor 39 = .ok (.aload_n 0, 1) := by decide +kernel
theorem dX7_spreadFor_40 : decode cX7_spreadFor 40 = .ok (.bipush (-5), 2) := by decide +kernel
theorem dX7_spreadFor_42 : decode cX7_spreadFor 42 = .ok (.invokevirtual 99, 3) := by decide +kernel
theorem dX7_spreadFor_45 : decode cX7_spreadFor 45 = .ok (.ireturn, 1) := by decide +kernel
theorem dX7_spreadFor_46 : decode cX7_spreadFor 46 = .ok (.aload_n 0, 1) := by decide +kernel
theorem dX7_spreadFor_47 : decode cX7_spreadFor 47 = .ok (.aload_n 0, 1) := by decide +kernel
theorem dX7_spreadFor_48 : decode cX7_spreadFor 48 = .ok (.getfield 54, 3) := by decide +kernel
theorem dX7_spreadFor_51 : decode cX7_spreadFor 51 = .ok (.aload_n 0, 1) := by decide +kernel
theorem dX7_spreadFor_52 : decode cX7_spreadFor 52 = .ok (.getfield 148, 3) := by decide +kernel
theorem dX7_spreadFor_55 : decode cX7_spreadFor 55 = .ok (.aaload, 1) := by decide +kernel
theorem dX7_spreadFor_56 : decode cX7_spreadFor 56 = .ok (.aload_n 0, 1) := by decide +kernel
theorem dX7_spreadFor_57 : decode cX7_spreadFor 57 = .ok (.getfield 57, 3) := by decide +kernel
theorem dX7_spreadFor_60 : decode cX7_spreadFor 60 = .ok (.aload_n 0, 1) := by decide +kernel
theorem dX7_spreadFor_61 : decode cX7_spreadFor 61 = .ok (.getfield 148, 3) := by decide +kernel
theorem dX7_spreadFor_64 : decode cX7_spreadFor 64 = .ok (.iaload, 1) := by decide +kernel
theorem dX7_spreadFor_65 : decode cX7_spreadFor 65 = .ok (.iload_n 2, 1) := by decide +kernel
theorem dX7_spreadFor_66 : decode cX7_spreadFor 66 = .ok (.invokevirtual 266, 3) := by decide +kernel
theorem dX7_spreadFor_69 : decode cX7_spreadFor 69 = .ok (.aload_n 0, 1) := by decide +kernel
theorem dX7_spreadFor_70 : decode cX7_spreadFor 70 = .ok (.iload_n 1, 1) := by decide +kernel
theorem dX7_spreadFor_71 : decode cX7_spreadFor 71 = .ok (.invokevirtual 126, 3) := by decide +kernel
theorem dX7_spreadFor_74 : decode cX7_spreadFor 74 = .ok (.isub, 1) := by decide +kernel
theorem dX7_spreadFor_75 : decode cX7_spreadFor 75 = .ok (.istore_n 3, 1) := by decide +kernel
theorem dX7_spreadFor_76 : decode cX7_spreadFor 76 = .ok (.iload_n 3, 1) := by decide +kernel
theorem dX7_spreadFor_77 : decode cX7_spreadFor 77 = .ok (.ifCond .ge 7, 3) := by decide +kernel
theorem dX7_spreadFor_80 : decode cX7_spreadFor 80 = .ok (.iconst 1, 1) := by decide +kernel
theorem dX7_spreadFor_81 : decode cX7_spreadFor 81 = .ok (.goto 6, 3) := by decide +kernel
theorem dX7_spreadFor_84 : decode cX7_spreadFor 84 = .ok (.iload_n 3, 1) := by decide +kernel
theorem dX7_spreadFor_85 : decode cX7_spreadFor 85 = .ok (.iconst 2, 1) := by decide +kernel
theorem dX7_spreadFor_86 : decode cX7_spreadFor 86 = .ok (.iadd, 1) := by decide +kernel
theorem dX7_spreadFor_87 : decode cX7_spreadFor 87 = .ok (.istore 4, 2) := by decide +kernel
theorem dX7_spreadFor_89 : decode cX7_spreadFor 89 = .ok (.iload 4, 2) := by decide +kernel
theorem dX7_spreadFor_91 : decode cX7_spreadFor 91 = .ok (.bipush 10, 2) := by decide +kernel
theorem dX7_spreadFor_93 : decode cX7_spreadFor 93 = .ok (.if_icmp .gt 8, 3) := by decide +kernel
theorem dX7_spreadFor_96 : decode cX7_spreadFor 96 = .ok (.iload 4, 2) := by decide +kernel
theorem dX7_spreadFor_98 : decode cX7_spreadFor 98 = .ok (.goto 4, 3) := by decide +kernel
theorem dX7_spreadFor_101 : decode cX7_spreadFor 101 = .ok (.iconst (-1), 1) := by decide +kernel
theorem dX7_spreadFor_102 : decode cX7_spreadFor 102 = .ok (.ireturn, 1) := by decide +kernel
theorem dX7_yardsFor_0 : decode cX7_yardsFor 0 = .ok (.aload_n 0, 1) := by decide +kernel
theorem dX7_yardsFor_1 : decode cX7_yardsFor 1 = .ok (.iload_n 1, 1) := by decide +kernel
theorem dX7_yardsFor_2 : decode cX7_yardsFor 2 = .ok (.invokevirtual 109, 3) := by decide +kernel
theorem dX7_yardsFor_5 : decode cX7_yardsFor 5 = .ok (.ifCond .eq 15, 3) := by decide +kernel
theorem dX7_yardsFor_8 : decode cX7_yardsFor 8 = .ok (.aload_n 0, 1) := by decide +kernel
theorem dX7_yardsFor_9 : decode cX7_yardsFor 9 = .ok (.aload_n 0, 1) := by decide +kernel
theorem dX7_yardsFor_10 : decode cX7_yardsFor 10 = .ok (.getfield 148, 3) := by decide +kernel
theorem dX7_yardsFor_13 : decode cX7_yardsFor 13 = .ok (.iload_n 2, 1) := by decide +kernel
theorem dX7_yardsFor_14 : decode cX7_yardsFor 14 = .ok (.invokevirtual 263, 3) := by decide +kernel
theorem dX7_yardsFor_17 : decode cX7_yardsFor 17 = .ok (.ifCond .ne 10, 3) := by decide +kernel
theorem dX7_yardsFor_20 : decode cX7_yardsFor 20 = .ok (.aload_n 0, 1) := by decide +kernel
theorem dX7_yardsFor_21 : decode cX7_yardsFor 21 = .ok (.bipush (-2), 2) := by decide +kernel
theorem dX7_yardsFor_23 : decode cX7_yardsFor 23 = .ok (.invokevirtual 99, 3) := by decide +kernel
theorem dX7_yardsFor_26 : decode cX7_yardsFor 26 = .ok (.ireturn, 1) := by decide +kernel
theorem dX7_yardsFor_27 : decode cX7_yardsFor 27 = .ok (.aload_n 0, 1) := by decide +kernel
theorem dX7_yardsFor_28 : decode cX7_yardsFor 28 = .ok (.iload_n 1, 1) := by decide +kernel
theorem dX7_yardsFor_29 : decode cX7_yardsFor 29 = .ok (.invokevirtual 119, 3) := by decide +kernel
theorem dX7_yardsFor_32 : decode cX7_yardsFor 32 = .ok (.aload_n 0, 1) := by decide +kernel
theorem dX7_yardsFor_33 : decode cX7_yardsFor 33 = .ok (.getfield 148, 3) := by decide +kernel
theorem dX7_yardsFor_36 : decode cX7_yardsFor 36 = .ok (.if_icmp .ne 10, 3) := by decide +kernel
theorem dX7_yardsFor_39 : decode cX7_yardsFor 39 = .ok (.aload_n 0, 1) := by decide +kernel
theorem dX7_yardsFor_40 : decode cX7_yardsFor 40 = .ok (.bipush (-5), 2) := by decide +kernel
theorem dX7_yardsFor_42 : decode cX7_yardsFor 42 = .ok (.invokevirtual 99, 3) := by decide +kernel
theorem dX7_yardsFor_45 : decode cX7_yardsFor 45 = .ok (.ireturn, 1) := by decide +kernel
theorem dX7_yardsFor_46 : decode cX7_yardsFor 46 = .ok (.aload_n 0, 1) := by decide +kernel
theorem dX7_yardsFor_47 : decode cX7_yardsFor 47 = .ok (.invokevirtual 250, 3) := by decide +kernel
theorem dX7_yardsFor_50 : decode cX7_yardsFor 50 = .ok (.astore_n 3, 1) := by decide +kernel
theorem dX7_yardsFor_51 : decode cX7_yardsFor 51 = .ok (.iconst 0, 1) := by decide +kernel
theorem dX7_yardsFor_52 : decode cX7_yardsFor 52 = .ok (.istore 4, 2) := by decide +kernel
theorem dX7_yardsFor_54 : decode cX7_yardsFor 54 = .ok (.iload 4, 2) := by decide +kernel
theorem dX7_yardsFor_56 : decode cX7_yardsFor 56 = .ok (.bipush 30, 2) := by decide +kernel
theorem dX7_yardsFor_58 : decode cX7_yardsFor 58 = .ok (.if_icmp .gt 49, 3) := by decide +kernel
theorem dX7_yardsFor_61 : decode cX7_yardsFor 61 = .ok (.aload_n 3, 1) := by decide +kernel
theorem dX7_yardsFor_62 : decode cX7_yardsFor 62 = .ok (.iload 4, 2) := by decide +kernel
theorem dX7_yardsFor_64 : decode cX7_yardsFor 64 = .ok (.putfield 60, 3) := by decide +kernel
theorem dX7_yardsFor_67 : decode cX7_yardsFor 67 = .ok (.aload_n 3, 1) := by decide +kernel
theorem dX7_yardsFor_68 : decode cX7_yardsFor 68 = .ok (.iload_n 1, 1) := by decide +kernel
theorem dX7_yardsFor_69 : decode cX7_yardsFor 69 = .ok (.invokevirtual 126, 3) := by decide +kernel
theorem dX7_yardsFor_72 : decode cX7_yardsFor 72 = .ok (.aload_n 0, 1) := by decide +kernel
theorem dX7_yardsFor_73 : decode cX7_yardsFor 73 = .ok (.aload_n 0, 1) := by decide +kernel
theorem dX7_yardsFor_74 : decode cX7_yardsFor 74 = .ok (.getfield 54, 3) := by decide +kernel
theorem dX7_yardsFor_77 : decode cX7_yardsFor 77 = .ok (.aload_n 0, 1) := by decide +kernel
theorem dX7_yardsFor_78 : decode cX7_yardsFor 78 = .ok (.getfield 148, 3) := by decide +kernel
theorem dX7_yardsFor_81 : decode cX7_yardsFor 81 = .ok (.aaload, 1) := by decide +kernel
theorem dX7_yardsFor_82 : decode cX7_yardsFor 82 = .ok (.aload_n 0, 1) := by decide +kernel
theorem dX7_yardsFor_83 : decode cX7_yardsFor 83 = .ok (.getfield 57, 3) := by decide +kernel
theorem dX7_yardsFor_86 : decode cX7_yardsFor 86 = .ok (.aload_n 0, 1) := by decide +kernel
theorem dX7_yardsFor_87 : decode cX7_yardsFor 87 = .ok (.getfield 148, 3) := by decide +kernel
theorem dX7_yardsFor_90 : decode cX7_yardsFor 90 = .ok (.iaload, 1) := by decide +kernel
theorem dX7_yardsFor_91 : decode cX7_yardsFor 91 = .ok (.iload_n 2, 1) := by decide +kernel
theorem dX7_yardsFor_92 : decode cX7_yardsFor 92 = .ok (.invokevirtual 266, 3) := by decide +kernel
theorem dX7_yardsFor_95 : decode cX7_yardsFor 95 = .ok (.if_icmp .le 6, 3) := by decide +kernel
theorem dX7_yardsFor_98 : decode cX7_yardsFor 98 = .ok (.iload 4, 2) := by decide +kernel
theorem dX7_yardsFor_100 : decode cX7_yardsFor 100 = .ok (.ireturn, 1) := by decide +kernel
theorem dX7_yardsFor_101 : decode cX7_yardsFor 101 = .ok (.iinc 4 1, 3) := by decide +kernel
theorem dX7_yardsFor_104 : decode cX7_yardsFor 104 = .ok (.goto (-50), 3) := by decide +kernel
theorem dX7_yardsFor_107 : decode cX7_yardsFor 107 = .ok (.iconst (-1), 1) := by decide +kernel
theorem dX7_yardsFor_108 : decode cX7_yardsFor 108 = .ok (.ireturn, 1) := by decide +kernel
theorem dX7_oddsOf_0 : decode cX7_oddsOf 0 = .ok (.iconst 0, 1) := by decide +kernel
theorem dX7_oddsOf_1 : decode cX7_oddsOf 1 = .ok (.istore_n 3, 1) := by decide +kernel
theorem dX7_oddsOf_2 : decode cX7_oddsOf 2 = .ok (.iconst 0, 1) := by decide +kernel
theorem dX7_oddsOf_3 : decode cX7_oddsOf 3 = .ok (.istore 4, 2) := by decide +kernel
theorem dX7_oddsOf_5 : decode cX7_oddsOf 5 = .ok (.iload 4, 2) := by decide +kernel
theorem dX7_oddsOf_7 : decode cX7_oddsOf 7 = .ok (.aload_n 0, 1) := by decide +kernel
theorem dX7_oddsOf_8 : decode cX7_oddsOf 8 = .ok (.getfield 64, 3) := by decide +kernel
theorem dX7_oddsOf_11 : decode cX7_oddsOf 11 = .ok (.if_icmp .ge 51, 3) := by decide +kernel
theorem dX7_oddsOf_14 : decode cX7_oddsOf 14 = .ok (.iload_n 3, 1) := by decide +kernel
theorem dX7_oddsOf_15 : decode cX7_oddsOf 15 = .ok (.aload_n 0, 1) := by decide +kernel
theorem dX7_oddsOf_16 : decode cX7_oddsOf 16 = .ok (.iload_n 1, 1) := by decide +kernel
theorem dX7_oddsOf_17 : decode cX7_oddsOf 17 = .ok (.invokevirtual 126, 3) := by decide +kernel
theorem dX7_oddsOf_20 : decode cX7_oddsOf 20 = .ok (.iload 4, 2) := by decide +kernel
theorem dX7_oddsOf_22 : decode cX7_oddsOf 22 = .ok (.iadd, 1) := by decide +kernel
theorem dX7_oddsOf_23 : decode cX7_oddsOf 23 = .ok (.aload_n 0, 1) := by decide +kernel
theorem dX7_oddsOf_24 : decode cX7_oddsOf 24 = .ok (.aload_n 0, 1) := by decide +kernel
theorem dX7_oddsOf_25 : decode cX7_oddsOf 25 = .ok (.getfield 54, 3) := by decide +kernel
theorem dX7_oddsOf_28 : decode cX7_oddsOf 28 = .ok (.aload_n 0, 1) := by decide +kernel
theorem dX7_oddsOf_29 : decode cX7_oddsOf 29 = .ok (.getfield 148, 3) := by decide +kernel
theorem dX7_oddsOf_32 : decode cX7_oddsOf 32 = .ok (.aaload, 1) := by decide +kernel
theorem dX7_oddsOf_33 : decode cX7_oddsOf 33 = .ok (.aload_n 0, 1) := by decide +kernel
theorem dX7_oddsOf_34 : decode cX7_oddsOf 34 = .ok (.getfield 57, 3) := by decide +kernel
theorem dX7_oddsOf_37 : decode cX7_oddsOf 37 = .ok (.aload_n 0, 1) := by decide +kernel
theorem dX7_oddsOf_38 : decode cX7_oddsOf 38 = .ok (.getfield 148, 3) := by decide +kernel
theorem dX7_oddsOf_41 : decode cX7_oddsOf 41 = .ok (.iaload, 1) := by decide +kernel
theorem dX7_oddsOf_42 : decode cX7_oddsOf 42 = .ok (.iload_n 2, 1) := by decide +kernel
theorem dX7_oddsOf_43 : decode cX7_oddsOf 43 = .ok (.invokevirtual 266, 3) := by decide +kernel
theorem dX7_oddsOf_46 : decode cX7_oddsOf 46 = .ok (.if_icmp .le 7, 3) := by decide +kernel
theorem dX7_oddsOf_49 : decode cX7_oddsOf 49 = .ok (.iconst 1, 1) := by decide +kernel
theorem dX7_oddsOf_50 : decode cX7_oddsOf 50 = .ok (.goto 4, 3) := by decide +kernel
theorem dX7_oddsOf_53 : decode cX7_oddsOf 53 = .ok (.iconst 0, 1) := by decide +kernel
theorem dX7_oddsOf_54 : decode cX7_oddsOf 54 = .ok (.iadd, 1) := by decide +kernel
theorem dX7_oddsOf_55 : decode cX7_oddsOf 55 = .ok (.istore_n 3, 1) := by decide +kernel
theorem dX7_oddsOf_56 : decode cX7_oddsOf 56 = .ok (.iinc 4 1, 3) := by decide +kernel
theorem dX7_oddsOf_59 : decode cX7_oddsOf 59 = .ok (.goto (-54), 3) := by decide +kernel
theorem dX7_oddsOf_62 : decode cX7_oddsOf 62 = .ok (.ldc 218, 2) := by decide +kernel
theorem dX7_oddsOf_64 : decode cX7_oddsOf 64 = .ok (.iload_n 3, 1) := by decide +kernel
theorem dX7_oddsOf_65 : decode cX7_oddsOf 65 = .ok (.imul, 1) := by decide +kernel
theorem dX7_oddsOf_66 : decode cX7_oddsOf 66 = .ok (.aload_n 0, 1) := by decide +kernel
theorem dX7_oddsOf_67 : decode cX7_oddsOf 67 = .ok (.getfield 64, 3) := by decide +kernel
theorem dX7_oddsOf_70 : decode cX7_oddsOf 70 = .ok (.idiv, 1) := by decide +kernel
theorem dX7_oddsOf_71 : decode cX7_oddsOf 71 = .ok (.ireturn, 1) := by decide +kernel
theorem dX7_odds_0 : decode cX7_odds 0 = .ok (.aload_n 0, 1) := by decide +kernel
theorem dX7_odds_1 : decode cX7_odds 1 = .ok (.iload_n 1, 1) := by decide +kernel
theorem dX7_odds_2 : decode cX7_odds 2 = .ok (.invokevirtual 109, 3) := by decide +kernel
theorem dX7_odds_5 : decode cX7_odds 5 = .ok (.ifCond .eq 15, 3) := by decide +kernel
theorem dX7_odds_8 : decode cX7_odds 8 = .ok (.aload_n 0, 1) := by decide +kernel
theorem dX7_odds_9 : decode cX7_odds 9 = .ok (.aload_n 0, 1) := by decide +kernel
theorem dX7_odds_10 : decode cX7_odds 10 = .ok (.getfield 148, 3) := by decide +kernel
theorem dX7_odds_13 : decode cX7_odds 13 = .ok (.iload_n 2, 1) := by decide +kernel
theorem dX7_odds_14 : decode cX7_odds 14 = .ok (.invokevirtual 263, 3) := by decide +kernel
theorem dX7_odds_17 : decode cX7_odds 17 = .ok (.ifCond .ne 10, 3) := by decide +kernel
theorem dX7_odds_20 : decode cX7_odds 20 = .ok (.aload_n 0, 1) := by decide +kernel
theorem dX7_odds_21 : decode cX7_odds 21 = .ok (.bipush (-2), 2) := by decide +kernel
theorem dX7_odds_23 : decode cX7_odds 23 = .ok (.invokevirtual 99, 3) := by decide +kernel
theorem dX7_odds_26 : decode cX7_odds 26 = .ok (.ireturn, 1) := by decide +kernel
theorem dX7_odds_27 : decode cX7_odds 27 = .ok (.aload_n 0, 1) := by decide +kernel
theorem dX7_odds_28 : decode cX7_odds 28 = .ok (.iload_n 1, 1) := by decide +kernel
theorem dX7_odds_29 : decode cX7_odds 29 = .ok (.invokevirtual 119, 3) := by decide +kernel
theorem dX7_odds_32 : decode cX7_odds 32 = .ok (.aload_n 0, 1) := by decide +kernel
theorem dX7_odds_33 : decode cX7_odds 33 = .ok (.getfield 148, 3) := by decide +kernel
theorem dX7_odds_36 : decode cX7_odds 36 = .ok (.if_icmp .ne 12, 3) := by decide +kernel
theorem dX7_odds_39 : decode cX7_odds 39 = .ok (.aload_n 0, 1) := by decide +kernel
theorem dX7_odds_40 : decode cX7_odds 40 = .ok (.bipush (-5), 2) := by decide +kernel
theorem dX7_odds_42 : decode cX7_odds 42 = .ok (.invokevirtual 99, 3) := by decide +kernel
theorem dX7_odds_45 : decode cX7_odds 45 = .ok (.goto 9, 3) := by decide +kernel
theorem dX7_odds_48 : decode cX7_odds 48 = .ok (.aload_n 0, 1) := by decide +kernel
theorem dX7_odds_49 : decode cX7_odds 49 = .ok (.iload_n 1, 1) := by decide +kernel
theorem dX7_odds_50 : decode cX7_odds 50 = .ok (.iload_n 2, 1) := by decide +kernel
theorem dX7_odds_51 : decode cX7_odds 51 = .ok (.invokevirtual 211, 3) := by decide +kernel
theorem dX7_odds_54 : decode cX7_odds 54 = .ok (.ireturn, 1) := by decide +kernel
theorem dX7_isOver_0 : decode cX7_isOver 0 = .ok (.aload_n 0, 1) := by decide +kernel
theorem dX7_isOver_1 : decode cX7_isOver 1 = .ok (.getfield 57, 3) := by decide +kernel
theorem dX7_isOver_4 : decode cX7_isOver 4 = .ok (.iconst 0, 1) := by decide +kernel
theorem dX7_isOver_5 : decode cX7_isOver 5 = .ok (.iaload, 1) := by decide +kernel
theorem dX7_isOver_6 : decode cX7_isOver 6 = .ok (.iconst 2, 1) := by decide +kernel
theorem dX7_isOver_7 : decode cX7_isOver 7 = .ok (.if_icmp .lt 24, 3) := by decide +kernel
theorem dX7_isOver_10 : decode cX7_isOver 10 = .ok (.aload_n 0, 1) := by decide +kernel
theorem dX7_isOver_11 : decode cX7_isOver 11 = .ok (.getfield 57, 3) := by decide +kernel
theorem dX7_isOver_14 : decode cX7_isOver 14 = .ok (.iconst 1, 1) := by decide +kernel
theorem dX7_isOver_15 : decode cX7_isOver 15 = .ok (.iaload, 1) := by decide +kernel
theorem dX7_isOver_16 : decode cX7_isOver 16 = .ok (.iconst 2, 1) := by decide +kernel
theorem dX7_isOver_17 : decode cX7_isOver 17 = .ok (.if_icmp .lt 14, 3) := by decide +kernel
theorem dX7_isOver_20 : decode cX7_isOver 20 = .ok (.aload_n 0, 1) := by decide +kernel
theorem dX7_isOver_21 : decode cX7_isOver 21 = .ok (.getfield 274, 3) := by decide +kernel
theorem dX7_isOver_24 : decode cX7_isOver 24 = .ok (.aload_n 0, 1) := by decide +kernel
theorem dX7_isOver_25 : decode cX7_isOver 25 = .ok (.getfield 67, 3) := by decide +kernel
theorem dX7_isOver_28 : decode cX7_isOver 28 = .ok (.if_icmp .lt 7, 3) := by decide +kernel
theorem dX7_isOver_31 : decode cX7_isOver 31 = .ok (.iconst 1, 1) := by decide +kernel
theorem dX7_isOver_32 : decode cX7_isOver 32 = .ok (.goto 4, 3) := by decide +kernel
theorem dX7_isOver_35 : decode cX7_isOver 35 = .ok (.iconst 0, 1) := by decide +kernel
theorem dX7_isOver_36 : decode cX7_isOver 36 = .ok (.ireturn, 1) := by decide +kernel
theorem dX7_wonNow_0 : decode cX7_wonNow 0 = .ok (.aload_n 0, 1) := by decide +kernel
theorem dX7_wonNow_1 : decode cX7_wonNow 1 = .ok (.invokevirtual 208, 3) := by decide +kernel
theorem dX7_wonNow_4 : decode cX7_wonNow 4 = .ok (.ifCond .eq 18, 3) := by decide +kernel
theorem dX7_wonNow_7 : decode cX7_wonNow 7 = .ok (.aload_n 0, 1) := by decide +kernel
theorem dX7_wonNow_8 : decode cX7_wonNow 8 = .ok (.getfield 57, 3) := by decide +kernel
theorem dX7_wonNow_11 : decode cX7_wonNow 11 = .ok (.iconst 0, 1) := by decide +kernel
theorem dX7_wonNow_12 : decode cX7_wonNow 12 = .ok (.iaload, 1) := by decide +kernel
theorem dX7_wonNow_13 : decode cX7_wonNow 13 = .ok (.aload_n 0, 1) := by decide +kernel
theorem dX7_wonNow_14 : decode cX7_wonNow 14 = .ok (.getfield 57, 3) := by decide +kernel
theorem dX7_wonNow_17 : decode cX7_wonNow 17 = .ok (.iconst 1, 1) := by decide +kernel
theorem dX7_wonNow_18 : decode cX7_wonNow 18 = .ok (.iaload, 1) := by decide +kernel
theorem dX7_wonNow_19 : decode cX7_wonNow 19 = .ok (.if_icmp .ne 7, 3) := by decide +kernel
theorem dX7_wonNow_22 : decode cX7_wonNow 22 = .ok (.iconst (-1), 1) := by decide +kernel
theorem dX7_wonNow_23 : decode cX7_wonNow 23 = .ok (.goto 23, 3) := by decide +kernel
theorem dX7_wonNow_26 : decode cX7_wonNow 26 = .ok (.aload_n 0, 1) := by decide +kernel
theorem dX7_wonNow_27 : decode cX7_wonNow 27 = .ok (.getfield 57, 3) := by decide +kernel
theorem dX7_wonNow_30 : decode cX7_wonNow 30 = .ok (.iconst 0, 1) := by decide +kernel
theorem dX7_wonNow_31 : decode cX7_wonNow 31 = .ok (.iaload, 1) := by decide +kernel
theorem dX7_wonNow_32 : decode cX7_wonNow 32 = .ok (.aload_n 0, 1) := by decide +kernel
theorem dX7_wonNow_33 : decode cX7_wonNow 33 = .ok (.getfield 57, 3) := by decide +kernel
theorem dX7_wonNow_36 : decode cX7_wonNow 36 = .ok (.iconst 1, 1) := by decide +kernel
theorem dX7_wonNow_37 : decode cX7_wonNow 37 = .ok (.iaload, 1) := by decide +kernel
theorem dX7_wonNow_38 : decode cX7_wonNow 38 = .ok (.if_icmp .le 7, 3) := by decide +kernel
theorem dX7_wonNow_41 : decode cX7_wonNow 41 = .ok (.iconst 0, 1) := by decide +kernel
theorem dX7_wonNow_42 : decode cX7_wonNow 42 = .ok (.goto 4, 3) := by decide +kernel
theorem dX7_wonNow_45 : decode cX7_wonNow 45 = .ok (.iconst 1, 1) := by decide +kernel
theorem dX7_wonNow_46 : decode cX7_wonNow 46 = .ok (.ireturn, 1) := by decide +kernel
theorem dX7_won_0 : decode cX7_won 0 = .ok (.aload_n 0, 1) := by decide +kernel
theorem dX7_won_1 : decode cX7_won 1 = .ok (.invokevirtual 277, 3) := by decide +kernel
theorem dX7_won_4 : decode cX7_won 4 = .ok (.ireturn, 1) := by decide +kernel
theorem dX7_over_0 : decode cX7_over 0 = .ok (.aload_n 0, 1) := by decide +kernel
theorem dX7_over_1 : decode cX7_over 1 = .ok (.invokevirtual 208, 3) := by decide +kernel
theorem dX7_over_4 : decode cX7_over 4 = .ok (.ifCond .eq 7, 3) := by decide +kernel
theorem dX7_over_7 : decode cX7_over 7 = .ok (.iconst 1, 1) := by decide +kernel
theorem dX7_over_8 : decode cX7_over 8 = .ok (.goto 4, 3) := by decide +kernel
theorem dX7_over_11 : decode cX7_over 11 = .ok (.iconst 0, 1) := by decide +kernel
theorem dX7_over_12 : decode cX7_over 12 = .ok (.ireturn, 1) := by decide +kernel
theorem dX7_atOf_0 : decode cX7_atOf 0 = .ok (.iconst 0, 1) := by decide +kernel
theorem dX7_atOf_1 : decode cX7_atOf 1 = .ok (.istore_n 2, 1) := by decide +kernel
theorem dX7_atOf_2 : decode cX7_atOf 2 = .ok (.iconst 1, 1) := by decide +kernel
theorem dX7_atOf_3 : decode cX7_atOf 3 = .ok (.istore_n 3, 1) := by decide +kernel
theorem dX7_atOf_4 : decode cX7_atOf 4 = .ok (.iload_n 3, 1) := by decide +kernel
theorem dX7_atOf_5 : decode cX7_atOf 5 = .ok (.aload_n 0, 1) := by decide +kernel
theorem dX7_atOf_6 : decode cX7_atOf 6 = .ok (.getfield 57, 3) := by decide +kernel
theorem dX7_atOf_9 : decode cX7_atOf 9 = .ok (.aload_n 0, 1) := by decide +kernel
theorem dX7_atOf_10 : decode cX7_atOf 10 = .ok (.getfield 148, 3) := by decide +kernel
theorem dX7_atOf_13 : decode cX7_atOf 13 = .ok (.iaload, 1) := by decide +kernel
theorem dX7_atOf_14 : decode cX7_atOf 14 = .ok (.iconst 1, 1) := by decide +kernel
theorem dX7_atOf_15 : decode cX7_atOf 15 = .ok (.isub, 1) := by decide +kernel
theorem dX7_atOf_16 : decode cX7_atOf 16 = .ok (.if_icmp .ge 30, 3) := by decide +kernel
theorem dX7_atOf_19 : decode cX7_atOf 19 = .ok (.aload_n 0, 1) := by decide +kernel
theorem dX7_atOf_20 : decode cX7_atOf 20 = .ok (.iload_n 1, 1) := by decide +kernel
theorem dX7_atOf_21 : decode cX7_atOf 21 = .ok (.iload_n 3, 1) := by decide +kernel
theorem dX7_atOf_22 : decode cX7_atOf 22 = .ok (.invokevirtual 211, 3) := by decide +kernel
theorem dX7_atOf_25 : decode cX7_atOf 25 = .ok (.aload_n 0, 1) := by decide +kernel
theorem dX7_atOf_26 : decode cX7_atOf 26 = .ok (.iload_n 1, 1) := by decide +kernel
theorem dX7_atOf_27 : decode cX7_atOf 27 = .ok (.iload_n 2, 1) := by decide +kernel
theorem dX7_atOf_28 : decode cX7_atOf 28 = .ok (.invokevirtual 211, 3) := by decide +kernel
theorem dX7_atOf_31 : decode cX7_atOf 31 = .ok (.if_icmp .le 7, 3) := by decide +kernel
theorem dX7_atOf_34 : decode cX7_atOf 34 = .ok (.iload_n 3, 1) := by decide +kernel
theorem dX7_atOf_35 : decode cX7_atOf 35 = .ok (.goto 4, 3) := by decide +kernel
theorem dX7_atOf_38 : decode cX7_atOf 38 = .ok (.iload_n 2, 1) := by decide +kernel
theorem dX7_atOf_39 : decode cX7_atOf 39 = .ok (.istore_n 2, 1) := by decide +kernel
theorem dX7_atOf_40 : decode cX7_atOf 40 = .ok (.iinc 3 1, 3) := by decide +kernel
theorem dX7_atOf_43 : decode cX7_atOf 43 = .ok (.goto (-39), 3) := by decide +kernel
theorem dX7_atOf_46 : decode cX7_atOf 46 = .ok (.iload_n 2, 1) := by decide +kernel
theorem dX7_atOf_47 : decode cX7_atOf 47 = .ok (.ireturn, 1) := by decide +kernel
theorem dX7_at_0 : decode cX7_at 0 = .ok (.aload_n 0, 1) := by decide +kernel
theorem dX7_at_1 : decode cX7_at 1 = .ok (.iload_n 1, 1) := by decide +kernel
theorem dX7_at_2 : decode cX7_at 2 = .ok (.invokevirtual 109, 3) := by decide +kernel
theorem dX7_at_5 : decode cX7_at 5 = .ok (.ifCond .ne 10, 3) := by decide +kernel
theorem dX7_at_8 : decode cX7_at 8 = .ok (.aload_n 0, 1) := by decide +kernel
theorem dX7_at_9 : decode cX7_at 9 = .ok (.bipush (-2), 2) := by decide +kernel
theorem dX7_at_11 : decode cX7_at 11 = .ok (.invokevirtual 99, 3) := by decide +kernel
theorem dX7_at_14 : decode cX7_at 14 = .ok (.ireturn, 1) := by decide +kernel
theorem dX7_at_15 : decode cX7_at 15 = .ok (.aload_n 0, 1) := by decide +kernel
theorem dX7_at_16 : decode cX7_at 16 = .ok (.iload_n 1, 1) := by decide +kernel
theorem dX7_at_17 : decode cX7_at 17 = .ok (.invokevirtual 119, 3) := by decide +kernel
theorem dX7_at_20 : decode cX7_at 20 = .ok (.aload_n 0, 1) := by decide +kernel
theorem dX7_at_21 : decode cX7_at 21 = .ok (.getfield 148, 3) := by decide +kernel
theorem dX7_at_24 : decode cX7_at 24 = .ok (.if_icmp .eq 10, 3) := by decide +kernel
theorem dX7_at_27 : decode cX7_at 27 = .ok (.aload_n 0, 1) := by decide +kernel
theorem dX7_at_28 : decode cX7_at 28 = .ok (.invokevirtual 208, 3) := by decide +kernel
theorem dX7_at_31 : decode cX7_at 31 = .ok (.ifCond .eq 12, 3) := by decide +kernel
theorem dX7_at_34 : decode cX7_at 34 = .ok (.aload_n 0, 1) := by decide +kernel
theorem dX7_at_35 : decode cX7_at 35 = .ok (.bipush (-5), 2) := by decide +kernel
theorem dX7_at_37 : decode cX7_at 37 = .ok (.invokevirtual 99, 3) := by decide +kernel
theorem dX7_at_40 : decode cX7_at 40 = .ok (.goto 8, 3) := by decide +kernel
theorem dX7_at_43 : decode cX7_at 43 = .ok (.aload_n 0, 1) := by decide +kernel
theorem dX7_at_44 : decode cX7_at 44 = .ok (.iload_n 1, 1) := by decide +kernel
theorem dX7_at_45 : decode cX7_at 45 = .ok (.invokevirtual 280, 3) := by decide +kernel
theorem dX7_at_48 : decode cX7_at 48 = .ok (.ireturn, 1) := by decide +kernel
theorem dX7_takeAt_0 : decode cX7_takeAt 0 = .ok (.aload_n 0, 1) := by decide +kernel
theorem dX7_takeAt_1 : decode cX7_takeAt 1 = .ok (.getfield 54, 3) := by decide +kernel
theorem dX7_takeAt_4 : decode cX7_takeAt 4 = .ok (.aload_n 0, 1) := by decide +kernel
theorem dX7_takeAt_5 : decode cX7_takeAt 5 = .ok (.getfield 148, 3) := by decide +kernel
theorem dX7_takeAt_8 : decode cX7_takeAt 8 = .ok (.aaload, 1) := by decide +kernel
theorem dX7_takeAt_9 : decode cX7_takeAt 9 = .ok (.iload_n 1, 1) := by decide +kernel
theorem dX7_takeAt_10 : decode cX7_takeAt 10 = .ok (.iaload, 1) := by decide +kernel
theorem dX7_takeAt_11 : decode cX7_takeAt 11 = .ok (.istore_n 2, 1) := by decide +kernel
theorem dX7_takeAt_12 : decode cX7_takeAt 12 = .ok (.aload_n 0, 1) := by decide +kernel
theorem dX7_takeAt_13 : decode cX7_takeAt 13 = .ok (.getfield 54, 3) := by decide +kernel
theorem dX7_takeAt_16 : decode cX7_takeAt 16 = .ok (.aload_n 0, 1) := by decide +kernel
theorem dX7_takeAt_17 : decode cX7_takeAt 17 = .ok (.getfield 148, 3) := by decide +kernel
theorem dX7_takeAt_20 : decode cX7_takeAt 20 = .ok (.aaload, 1) := by decide +kernel
theorem dX7_takeAt_21 : decode cX7_takeAt 21 = .ok (.iload_n 1, 1) := by decide +kernel
theorem dX7_takeAt_22 : decode cX7_takeAt 22 = .ok (.iconst 1, 1) := by decide +kernel
theorem dX7_takeAt_23 : decode cX7_takeAt 23 = .ok (.iadd, 1) := by decide +kernel
theorem dX7_takeAt_24 : decode cX7_takeAt 24 = .ok (.iaload, 1) := by decide +kernel
theorem dX7_takeAt_25 : decode cX7_takeAt 25 = .ok (.istore_n 3, 1) := by decide +kernel
theorem dX7_takeAt_26 : decode cX7_takeAt 26 = .ok (.aload_n 0, 1) := by decide +kernel
theorem dX7_takeAt_27 : decode cX7_takeAt 27 = .ok (.iload_n 3, 1) := by decide +kernel
theorem dX7_takeAt_28 : decode cX7_takeAt 28 = .ok (.iload_n 2, 1) := by decide +kernel
theorem dX7_takeAt_29 : decode cX7_takeAt 29 = .ok (.invokevirtual 122, 3) := by decide +kernel
theorem dX7_takeAt_32 : decode cX7_takeAt 32 = .ok (.aload_n 0, 1) := by decide +kernel
theorem dX7_takeAt_33 : decode cX7_takeAt 33 = .ok (.iload_n 2, 1) := by decide +kernel
theorem dX7_takeAt_34 : decode cX7_takeAt 34 = .ok (.iload_n 3, 1) := by decide +kernel
theorem dX7_takeAt_35 : decode cX7_takeAt 35 = .ok (.invokevirtual 122, 3) := by decide +kernel
theorem dX7_takeAt_38 : decode cX7_takeAt 38 = .ok (.if_icmp .le 7, 3) := by decide +kernel
theorem dX7_takeAt_41 : decode cX7_takeAt 41 = .ok (.iconst 1, 1) := by decide +kernel
theorem dX7_takeAt_42 : decode cX7_takeAt 42 = .ok (.goto 4, 3) := by decide +kernel
theorem dX7_takeAt_45 : decode cX7_takeAt 45 = .ok (.iconst 0, 1) := by decide +kernel
theorem dX7_takeAt_46 : decode cX7_takeAt 46 = .ok (.ireturn, 1) := by decide +kernel
theorem dX7_take_0 : decode cX7_take 0 = .ok (.aload_n 0, 1) := by decide +kernel
theorem dX7_take_1 : decode cX7_take 1 = .ok (.aload_n 0, 1) := by decide +kernel
theorem dX7_take_2 : decode cX7_take 2 = .ok (.getfield 148, 3) := by decide +kernel
theorem dX7_take_5 : decode cX7_take 5 = .ok (.iload_n 1, 1) := by decide +kernel
theorem dX7_take_6 : decode cX7_take 6 = .ok (.invokevirtual 263, 3) := by decide +kernel
theorem dX7_take_9 : decode cX7_take 9 = .ok (.ifCond .eq 11, 3) := by decide +kernel
theorem dX7_take_12 : decode cX7_take 12 = .ok (.aload_n 0, 1) := by decide +kernel
theorem dX7_take_13 : decode cX7_take 13 = .ok (.iload_n 1, 1) := by decide +kernel
theorem dX7_take_14 : decode cX7_take 14 = .ok (.invokevirtual 283, 3) := by decide +kernel
theorem dX7_take_17 : decode cX7_take 17 = .ok (.goto 9, 3) := by decide +kernel
theorem dX7_take_20 : decode cX7_take 20 = .ok (.aload_n 0, 1) := by decide +kernel
theorem dX7_take_21 : decode cX7_take 21 = .ok (.bipush (-2), 2) := by decide +kernel
theorem dX7_take_23 : decode cX7_take 23 = .ok (.invokevirtual 99, 3) := by decide +kernel
theorem dX7_take_26 : decode cX7_take 26 = .ok (.ireturn, 1) := by decide +kernel
theorem dX7_callBy_0 : decode cX7_callBy 0 = .ok (.iconst (-1), 1) := by decide +kernel
theorem dX7_callBy_1 : decode cX7_callBy 1 = .ok (.istore_n 2, 1) := by decide +kernel
theorem dX7_callBy_2 : decode cX7_callBy 2 = .ok (.iconst 0, 1) := by decide +kernel
theorem dX7_callBy_3 : decode cX7_callBy 3 = .ok (.istore_n 3, 1) := by decide +kernel
theorem dX7_callBy_4 : decode cX7_callBy 4 = .ok (.iload_n 3, 1) := by decide +kernel
theorem dX7_callBy_5 : decode cX7_callBy 5 = .ok (.aload_n 0, 1) := by decide +kernel
theorem dX7_callBy_6 : decode cX7_callBy 6 = .ok (.getfield 82, 3) := by decide +kernel
theorem dX7_callBy_9 : decode cX7_callBy 9 = .ok (.if_icmp .ge 98, 3) := by decide +kernel
theorem dX7_callBy_12 : decode cX7_callBy 12 = .ok (.aload_n 0, 1) := by decide +kernel
theorem dX7_callBy_13 : decode cX7_callBy 13 = .ok (.iload_n 3, 1) := by decide +kernel
theorem dX7_callBy_14 : decode cX7_callBy 14 = .ok (.invokevirtual 119, 3) := by decide +kernel
theorem dX7_callBy_17 : decode cX7_callBy 17 = .ok (.aload_n 0, 1) := by decide +kernel
theorem dX7_callBy_18 : decode cX7_callBy 18 = .ok (.getfield 148, 3) := by decide +kernel
theorem dX7_callBy_21 : decode cX7_callBy 21 = .ok (.if_icmp .eq 80, 3) := by decide +kernel
theorem dX7_callBy_24 : decode cX7_callBy 24 = .ok (.iload_n 1, 1) := by decide +kernel
theorem dX7_callBy_25 : decode cX7_callBy 25 = .ok (.iconst 1, 1) := by decide +kernel
theorem dX7_callBy_26 : decode cX7_callBy 26 = .ok (.if_icmp .ne 12, 3) := by decide +kernel
theorem dX7_callBy_29 : decode cX7_callBy 29 = .ok (.aload_n 0, 1) := by decide +kernel
theorem dX7_callBy_30 : decode cX7_callBy 30 = .ok (.getfield 43, 3) := by decide +kernel
theorem dX7_callBy_33 : decode cX7_callBy 33 = .ok (.iload_n 3, 1) := by decide +kernel
theorem dX7_callBy_34 : decode cX7_callBy 34 = .ok (.iaload, 1) := by decide +kernel
theorem dX7_callBy_35 : decode cX7_callBy 35 = .ok (.goto 13, 3) := by decide +kernel
theorem dX7_callBy_38 : decode cX7_callBy 38 = .ok (.aload_n 0, 1) := by decide +kernel
theorem dX7_callBy_39 : decode cX7_callBy 39 = .ok (.iload_n 3, 1) := by decide +kernel
theorem dX7_callBy_40 : decode cX7_callBy 40 = .ok (.aload_n 0, 1) := by decide +kernel
theorem dX7_callBy_41 : decode cX7_callBy 41 = .ok (.iload_n 3, 1) := by decide +kernel
theorem dX7_callBy_42 : decode cX7_callBy 42 = .ok (.invokevirtual 280, 3) := by decide +kernel
theorem dX7_callBy_45 : decode cX7_callBy 45 = .ok (.invokevirtual 211, 3) := by decide +kernel
theorem dX7_callBy_48 : decode cX7_callBy 48 = .ok (.istore 4, 2) := by decide +kernel
theorem dX7_callBy_50 : decode cX7_callBy 50 = .ok (.iload_n 2, 1) := by decide +kernel
theorem dX7_callBy_51 : decode cX7_callBy 51 = .ok (.iconst (-1), 1) := by decide +kernel
theorem dX7_callBy_52 : decode cX7_callBy 52 = .ok (.if_icmp .ne 10, 3) := by decide +kernel
theorem dX7_callBy_55 : decode cX7_callBy 55 = .ok (.iload 4, 2) := by decide +kernel
theorem dX7_callBy_57 : decode cX7_callBy 57 = .ok (.iconst 1, 1) := by decide +kernel
theorem dX7_callBy_58 : decode cX7_callBy 58 = .ok (.iadd, 1) := by decide +kernel
theorem dX7_callBy_59 : decode cX7_callBy 59 = .ok (.goto 27, 3) := by decide +kernel
theorem dX7_callBy_62 : decode cX7_callBy 62 = .ok (.iload_n 1, 1) := by decide +kernel
theorem dX7_callBy_63 : decode cX7_callBy 63 = .ok (.iconst 1, 1) := by decide +kernel
theorem dX7_callBy_64 : decode cX7_callBy 64 = .ok (.if_icmp .ne 12, 3) := by decide +kernel
theorem dX7_callBy_67 : decode cX7_callBy 67 = .ok (.aload_n 0, 1) := by decide +kernel
theorem dX7_callBy_68 : decode cX7_callBy 68 = .ok (.getfield 43, 3) := by decide +kernel
theorem dX7_callBy_71 : decode cX7_callBy 71 = .ok (.iload_n 2, 1) := by decide +kernel
theorem dX7_callBy_72 : decode cX7_callBy 72 = .ok (.iaload, 1) := by decide +kernel
theorem dX7_callBy_73 : decode cX7_callBy 73 = .ok (.goto 13, 3) := by decide +kernel
theorem dX7_callBy_76 : decode cX7_callBy 76 = .ok (.aload_n 0, 1) := by decide +kernel
theorem dX7_callBy_77 : decode cX7_callBy 77 = .ok (.iload_n 2, 1) := by decide +kernel
theorem dX7_callBy_78 : decode cX7_callBy 78 = .ok (.aload_n 0, 1) := by decide +kernel
theorem dX7_callBy_79 : decode cX7_callBy 79 = .ok (.iload_n 2, 1) := by decide +kernel
theorem dX7_callBy_80 : decode cX7_callBy 80 = .ok (.invokevirtual 280, 3) := by decide +kernel
theorem dX7_callBy_83 : decode cX7_callBy 83 = .ok (.invokevirtual 211, 3) := by decide +kernel
theorem dX7_callBy_86 : decode cX7_callBy 86 = .ok (.istore 5, 2) := by decide +kernel
theorem dX7_callBy_88 : decode cX7_callBy 88 = .ok (.iload 4, 2) := by decide +kernel
theorem dX7_callBy_90 : decode cX7_callBy 90 = .ok (.iload 5, 2) := by decide +kernel
theorem dX7_callBy_92 : decode cX7_callBy 92 = .ok (.if_icmp .ge 7, 3) := by decide +kernel
theorem dX7_callBy_95 : decode cX7_callBy 95 = .ok (.iload_n 3, 1) := by decide +kernel
theorem dX7_callBy_96 : decode cX7_callBy 96 = .ok (.goto 4, 3) := by decide +kernel
theorem dX7_callBy_99 : decode cX7_callBy 99 = .ok (.iload_n 2, 1) := by decide +kernel
theorem dX7_callBy_100 : decode cX7_callBy 100 = .ok (.istore_n 2, 1) := by decide +kernel
theorem dX7_callBy_101 : decode cX7_callBy 101 = .ok (.iinc 3 1, 3) := by decide +kernel
theorem dX7_callBy_104 : decode cX7_callBy 104 = .ok (.goto (-100), 3) := by decide +kernel
theorem dX7_callBy_107 : decode cX7_callBy 107 = .ok (.iload_n 2, 1) := by decide +kernel
theorem dX7_callBy_108 : decode cX7_callBy 108 = .ok (.ireturn, 1) := by decide +kernel
theorem dX7_call_0 : decode cX7_call 0 = .ok (.aload_n 0, 1) := by decide +kernel
theorem dX7_call_1 : decode cX7_call 1 = .ok (.invokevirtual 208, 3) := by decide +kernel
theorem dX7_call_4 : decode cX7_call 4 = .ok (.ifCond .eq 12, 3) := by decide +kernel
theorem dX7_call_7 : decode cX7_call 7 = .ok (.aload_n 0, 1) := by decide +kernel
theorem dX7_call_8 : decode cX7_call 8 = .ok (.bipush (-5), 2) := by decide +kernel
theorem dX7_call_10 : decode cX7_call 10 = .ok (.invokevirtual 99, 3) := by decide +kernel
theorem dX7_call_13 : decode cX7_call 13 = .ok (.goto 8, 3) := by decide +kernel
theorem dX7_call_16 : decode cX7_call 16 = .ok (.aload_n 0, 1) := by decide +kernel
theorem dX7_call_17 : decode cX7_call 17 = .ok (.iconst 0, 1) := by decide +kernel
theorem dX7_call_18 : decode cX7_call 18 = .ok (.invokevirtual 286, 3) := by decide +kernel
theorem dX7_call_21 : decode cX7_call 21 = .ok (.ireturn, 1) := by decide +kernel
theorem dX7_goesOut_0 : decode cX7_goesOut 0 = .ok (.iload_n 2, 1) := by decide +kernel
theorem dX7_goesOut_1 : decode cX7_goesOut 1 = .ok (.istore_n 3, 1) := by decide +kernel
theorem dX7_goesOut_2 : decode cX7_goesOut 2 = .ok (.iload_n 3, 1) := by decide +kernel
theorem dX7_goesOut_3 : decode cX7_goesOut 3 = .ok (.aload_n 0, 1) := by decide +kernel
theorem dX7_goesOut_4 : decode cX7_goesOut 4 = .ok (.getfield 57, 3) := by decide +kernel
theorem dX7_goesOut_7 : decode cX7_goesOut 7 = .ok (.iload_n 1, 1) := by decide +kernel
theorem dX7_goesOut_8 : decode cX7_goesOut 8 = .ok (.iaload, 1) := by decide +kernel
theorem dX7_goesOut_9 : decode cX7_goesOut 9 = .ok (.iconst 1, 1) := by decide +kernel
theorem dX7_goesOut_10 : decode cX7_goesOut 10 = .ok (.isub, 1) := by decide +kernel
theorem dX7_goesOut_11 : decode cX7_goesOut 11 = .ok (.if_icmp .ge 27, 3) := by decide +kernel
theorem dX7_goesOut_14 : decode cX7_goesOut 14 = .ok (.aload_n 0, 1) := by decide +kernel
theorem dX7_goesOut_15 : decode cX7_goesOut 15 = .ok (.getfield 54, 3) := by decide +kernel
theorem dX7_goesOut_18 : decode cX7_goesOut 18 = .ok (.iload_n 1, 1) := by decide +kernel
theorem dX7_goesOut_19 : decode cX7_goesOut 19 = .ok (.aaload, 1) := by decide +kernel
theorem dX7_goesOut_20 : decode cX7_goesOut 20 = .ok (.iload_n 3, 1) := by decide +kernel
theorem dX7_goesOut_21 : decode cX7_goesOut 21 = .ok (.aload_n 0, 1) := by decide +kernel
theorem dX7_goesOut_22 : decode cX7_goesOut 22 = .ok (.getfield 54, 3) := by decide +kernel
theorem dX7_goesOut_25 : decode cX7_goesOut 25 = .ok (.iload_n 1, 1) := by decide +kernel
theorem dX7_goesOut_26 : decode cX7_goesOut 26 = .ok (.aaload, 1) := by decide +kernel
theorem dX7_goesOut_27 : decode cX7_goesOut 27 = .ok (.iload_n 3, 1) := by decide +kernel
theorem dX7_goesOut_28 : decode cX7_goesOut 28 = .ok (.iconst 1, 1) := by decide +kernel
theorem dX7_goesOut_29 : decode cX7_goesOut 29 = .ok (.iadd, 1) := by decide +kernel
theorem dX7_goesOut_30 : decode cX7_goesOut 30 = .ok (.iaload, 1) := by decide +kernel
theorem dX7_goesOut_31 : decode cX7_goesOut 31 = .ok (.iastore, 1) := by decide +kernel
theorem dX7_goesOut_32 : decode cX7_goesOut 32 = .ok (.iinc 3 1, 3) := by decide +kernel
theorem dX7_goesOut_35 : decode cX7_goesOut 35 = .ok (.goto (-33), 3) := by decide +kernel
theorem dX7_goesOut_38 : decode cX7_goesOut 38 = .ok (.aload_n 0, 1) := by decide +kernel
theorem dX7_goesOut_39 : decode cX7_goesOut 39 = .ok (.getfield 57, 3) := by decide +kernel
theorem dX7_goesOut_42 : decode cX7_goesOut 42 = .ok (.iload_n 1, 1) := by decide +kernel
theorem dX7_goesOut_43 : decode cX7_goesOut 43 = .ok (.dup2, 1) := by decide +kernel
theorem dX7_goesOut_44 : decode cX7_goesOut 44 = .ok (.iaload, 1) := by decide +kernel
theorem dX7_goesOut_45 : decode cX7_goesOut 45 = .ok (.iconst 1, 1) := by decide +kernel
theorem dX7_goesOut_46 : decode cX7_goesOut 46 = .ok (.isub, 1) := by decide +kernel
theorem dX7_goesOut_47 : decode cX7_goesOut 47 = .ok (.iastore, 1) := by decide +kernel
theorem dX7_goesOut_48 : decode cX7_goesOut 48 = .ok (.return_, 1) := by decide +kernel
theorem dX7_tires_0 : decode cX7_tires 0 = .ok (.iload_n 1, 1) := by decide +kernel
theorem dX7_tires_1 : decode cX7_tires 1 = .ok (.istore_n 2, 1) := by decide +kernel
theorem dX7_tires_2 : decode cX7_tires 2 = .ok (.iload_n 2, 1) := by decide +kernel
theorem dX7_tires_3 : decode cX7_tires 3 = .ok (.iload_n 1, 1) := by decide +kernel
theorem dX7_tires_4 : decode cX7_tires 4 = .ok (.iconst 1, 1) := by decide +kernel
theorem dX7_tires_5 : decode cX7_tires 5 = .ok (.iadd, 1) := by decide +kernel
theorem dX7_tires_6 : decode cX7_tires 6 = .ok (.if_icmp .gt 46, 3) := by decide +kernel
theorem dX7_tires_9 : decode cX7_tires 9 = .ok (.aload_n 0, 1) := by decide +kernel
theorem dX7_tires_10 : decode cX7_tires 10 = .ok (.getfield 54, 3) := by decide +kernel
theorem dX7_tires_13 : decode cX7_tires 13 = .ok (.aload_n 0, 1) := by decide +kernel
theorem dX7_tires_14 : decode cX7_tires 14 = .ok (.getfield 148, 3) := by decide +kernel
theorem dX7_tires_17 : decode cX7_tires 17 = .ok (.aaload, 1) := by decide +kernel
theorem dX7_tires_18 : decode cX7_tires 18 = .ok (.iload_n 2, 1) := by decide +kernel
theorem dX7_tires_19 : decode cX7_tires 19 = .ok (.iaload, 1) := by decide +kernel
theorem dX7_tires_20 : decode cX7_tires 20 = .ok (.istore_n 3, 1) := by decide +kernel
theorem dX7_tires_21 : decode cX7_tires 21 = .ok (.aload_n 0, 1) := by decide +kernel
theorem dX7_tires_22 : decode cX7_tires 22 = .ok (.getfield 46, 3) := by decide +kernel
theorem dX7_tires_25 : decode cX7_tires 25 = .ok (.iload_n 3, 1) := by decide +kernel
theorem dX7_tires_26 : decode cX7_tires 26 = .ok (.dup2, 1) := by decide +kernel
theorem dX7_tires_27 : decode cX7_tires 27 = .ok (.iaload, 1) := by decide +kernel
theorem dX7_tires_28 : decode cX7_tires 28 = .ok (.aload_n 0, 1) := by decide +kernel
theorem dX7_tires_29 : decode cX7_tires 29 = .ok (.getfield 46, 3) := by decide +kernel
theorem dX7_tires_32 : decode cX7_tires 32 = .ok (.iload_n 3, 1) := by decide +kernel
theorem dX7_tires_33 : decode cX7_tires 33 = .ok (.iaload, 1) := by decide +kernel
theorem dX7_tires_34 : decode cX7_tires 34 = .ok (.bipush 20, 2) := by decide +kernel
theorem dX7_tires_36 : decode cX7_tires 36 = .ok (.if_icmp .ge 7, 3) := by decide +kernel
theorem dX7_tires_39 : decode cX7_tires 39 = .ok (.iconst 1, 1) := by decide +kernel
theorem dX7_tires_40 : decode cX7_tires 40 = .ok (.goto 4, 3) := by decide +kernel
theorem dX7_tires_43 : decode cX7_tires 43 = .ok (.iconst 0, 1) := by decide +kernel
theorem dX7_tires_44 : decode cX7_tires 44 = .ok (.iadd, 1) := by decide +kernel
theorem dX7_tires_45 : decode cX7_tires 45 = .ok (.iastore, 1) := by decide +kernel
theorem dX7_tires_46 : decode cX7_tires 46 = .ok (.iinc 2 1, 3) := by decide +kernel
theorem dX7_tires_49 : decode cX7_tires 49 = .ok (.goto (-47), 3) := by decide +kernel
theorem dX7_tires_52 : decode cX7_tires 52 = .ok (.return_, 1) := by decide +kernel
theorem dX7_ends_0 : decode cX7_ends 0 = .ok (.aload_n 0, 1) := by decide +kernel
theorem dX7_ends_1 : decode cX7_ends 1 = .ok (.iconst 1, 1) := by decide +kernel
theorem dX7_ends_2 : decode cX7_ends 2 = .ok (.aload_n 0, 1) := by decide +kernel
theorem dX7_ends_3 : decode cX7_ends 3 = .ok (.getfield 148, 3) := by decide +kernel
theorem dX7_ends_6 : decode cX7_ends 6 = .ok (.isub, 1) := by decide +kernel
theorem dX7_ends_7 : decode cX7_ends 7 = .ok (.putfield 148, 3) := by decide +kernel
theorem dX7_ends_10 : decode cX7_ends 10 = .ok (.aload_n 0, 1) := by decide +kernel
theorem dX7_ends_11 : decode cX7_ends 11 = .ok (.dup, 1) := by decide +kernel
theorem dX7_ends_12 : decode cX7_ends 12 = .ok (.getfield 274, 3) := by decide +kernel
theorem dX7_ends_15 : decode cX7_ends 15 = .ok (.iconst 1, 1) := by decide +kernel
theorem dX7_ends_16 : decode cX7_ends 16 = .ok (.iadd, 1) := by decide +kernel
theorem dX7_ends_17 : decode cX7_ends 17 = .ok (.putfield 274, 3) := by decide +kernel
theorem dX7_ends_20 : decode cX7_ends 20 = .ok (.return_, 1) := by decide +kernel
theorem dX7_runsHeld_0 : decode cX7_runsHeld 0 = .ok (.aload_n 0, 1) := by decide +kernel
theorem dX7_runsHeld_1 : decode cX7_runsHeld 1 = .ok (.iload_n 2, 1) := by decide +kernel
theorem dX7_runsHeld_2 : decode cX7_runsHeld 2 = .ok (.invokevirtual 289, 3) := by decide +kernel
theorem dX7_runsHeld_5 : decode cX7_runsHeld 5 = .ok (.aload_n 0, 1) := by decide +kernel
theorem dX7_runsHeld_6 : decode cX7_runsHeld 6 = .ok (.iconst 1, 1) := by decide +kernel
theorem dX7_runsHeld_7 : decode cX7_runsHeld 7 = .ok (.aload_n 0, 1) := by decide +kernel
theorem dX7_runsHeld_8 : decode cX7_runsHeld 8 = .ok (.getfield 148, 3) := by decide +kernel
theorem dX7_runsHeld_11 : decode cX7_runsHeld 11 = .ok (.isub, 1) := by decide +kernel
theorem dX7_runsHeld_12 : decode cX7_runsHeld 12 = .ok (.aload_n 0, 1) := by decide +kernel
theorem dX7_runsHeld_13 : decode cX7_runsHeld 13 = .ok (.iload_n 1, 1) := by decide +kernel
theorem dX7_runsHeld_14 : decode cX7_runsHeld 14 = .ok (.invokevirtual 89, 3) := by decide +kernel
theorem dX7_runsHeld_17 : decode cX7_runsHeld 17 = .ok (.bipush 10, 2) := by decide +kernel
theorem dX7_runsHeld_19 : decode cX7_runsHeld 19 = .ok (.irem, 1) := by decide +kernel
theorem dX7_runsHeld_20 : decode cX7_runsHeld 20 = .ok (.invokevirtual 293, 3) := by decide +kernel
theorem dX7_runsHeld_23 : decode cX7_runsHeld 23 = .ok (.aload_n 0, 1) := by decide +kernel
theorem dX7_runsHeld_24 : decode cX7_runsHeld 24 = .ok (.getfield 57, 3) := by decide +kernel
theorem dX7_runsHeld_27 : decode cX7_runsHeld 27 = .ok (.aload_n 0, 1) := by decide +kernel
theorem dX7_runsHeld_28 : decode cX7_runsHeld 28 = .ok (.getfield 148, 3) := by decide +kernel
theorem dX7_runsHeld_31 : decode cX7_runsHeld 31 = .ok (.iaload, 1) := by decide +kernel
theorem dX7_runsHeld_32 : decode cX7_runsHeld 32 = .ok (.istore_n 3, 1) := by decide +kernel
theorem dX7_runsHeld_33 : decode cX7_runsHeld 33 = .ok (.iload_n 3, 1) := by decide +kernel
theorem dX7_runsHeld_34 : decode cX7_runsHeld 34 = .ok (.iload_n 2, 1) := by decide +kernel
theorem dX7_runsHeld_35 : decode cX7_runsHeld 35 = .ok (.iconst 1, 1) := by decide +kernel
theorem dX7_runsHeld_36 : decode cX7_runsHeld 36 = .ok (.iadd, 1) := by decide +kernel
theorem dX7_runsHeld_37 : decode cX7_runsHeld 37 = .ok (.if_icmp .le 33, 3) := by decide +kernel
theorem dX7_runsHeld_40 : decode cX7_runsHeld 40 = .ok (.aload_n 0, 1) := by decide +kernel
theorem dX7_runsHeld_41 : decode cX7_runsHeld 41 = .ok (.getfield 54, 3) := by decide +kernel
theorem dX7_runsHeld_44 : decode cX7_runsHeld 44 = .ok (.aload_n 0, 1) := by decide +kernel
theorem dX7_runsHeld_45 : decode cX7_runsHeld 45 = .ok (.getfield 148, 3) := by decide +kernel
theorem dX7_runsHeld_48 : decode cX7_runsHeld 48 = .ok (.aaload, 1) := by decide +kernel
theorem dX7_runsHeld_49 : decode cX7_runsHeld 49 = .ok (.iload_n 3, 1) := by decide +kernel
theorem dX7_runsHeld_50 : decode cX7_runsHeld 50 = .ok (.aload_n 0, 1) := by decide +kernel
theorem dX7_runsHeld_51 : decode cX7_runsHeld 51 = .ok (.getfield 54, 3) := by decide +kernel
theorem dX7_runsHeld_54 : decode cX7_runsHeld 54 = .ok (.aload_n 0, 1) := by decide +kernel
theorem dX7_runsHeld_55 : decode cX7_runsHeld 55 = .ok (.getfield 148, 3) := by decide +kernel
theorem dX7_runsHeld_58 : decode cX7_runsHeld 58 = .ok (.aaload, 1) := by decide +kernel
theorem dX7_runsHeld_59 : decode cX7_runsHeld 59 = .ok (.iload_n 3, 1) := by decide +kernel
theorem dX7_runsHeld_60 : decode cX7_runsHeld 60 = .ok (.iconst 1, 1) := by decide +kernel
theorem dX7_runsHeld_61 : decode cX7_runsHeld 61 = .ok (.isub, 1) := by decide +kernel
theorem dX7_runsHeld_62 : decode cX7_runsHeld 62 = .ok (.iaload, 1) := by decide +kernel
theorem dX7_runsHeld_63 : decode cX7_runsHeld 63 = .ok (.iastore, 1) := by decide +kernel
theorem dX7_runsHeld_64 : decode cX7_runsHeld 64 = .ok (.iinc 3 (-1), 3) := by decide +kernel
theorem dX7_runsHeld_67 : decode cX7_runsHeld 67 = .ok (.goto (-34), 3) := by decide +kernel
theorem dX7_runsHeld_70 : decode cX7_runsHeld 70 = .ok (.aload_n 0, 1) := by decide +kernel
theorem dX7_runsHeld_71 : decode cX7_runsHeld 71 = .ok (.getfield 54, 3) := by decide +kernel
theorem dX7_runsHeld_74 : decode cX7_runsHeld 74 = .ok (.aload_n 0, 1) := by decide +kernel
theorem dX7_runsHeld_75 : decode cX7_runsHeld 75 = .ok (.getfield 148, 3) := by decide +kernel
theorem dX7_runsHeld_78 : decode cX7_runsHeld 78 = .ok (.aaload, 1) := by decide +kernel
theorem dX7_runsHeld_79 : decode cX7_runsHeld 79 = .ok (.iload_n 2, 1) := by decide +kernel
theorem dX7_runsHeld_80 : decode cX7_runsHeld 80 = .ok (.iconst 1, 1) := by decide +kernel
theorem dX7_runsHeld_81 : decode cX7_runsHeld 81 = .ok (.iadd, 1) := by decide +kernel
theorem dX7_runsHeld_82 : decode cX7_runsHeld 82 = .ok (.iload_n 1, 1) := by decide +kernel
theorem dX7_runsHeld_83 : decode cX7_runsHeld 83 = .ok (.iastore, 1) := by decide +kernel
theorem dX7_runsHeld_84 : decode cX7_runsHeld 84 = .ok (.aload_n 0, 1) := by decide +kernel
theorem dX7_runsHeld_85 : decode cX7_runsHeld 85 = .ok (.getfield 57, 3) := by decide +kernel
theorem dX7_runsHeld_88 : decode cX7_runsHeld 88 = .ok (.aload_n 0, 1) := by decide +kernel
theorem dX7_runsHeld_89 : decode cX7_runsHeld 89 = .ok (.getfield 148, 3) := by decide +kernel
theorem dX7_runsHeld_92 : decode cX7_runsHeld 92 = .ok (.dup2, 1) := by decide +kernel
theorem dX7_runsHeld_93 : decode cX7_runsHeld 93 = .ok (.iaload, 1) := by decide +kernel
theorem dX7_runsHeld_94 : decode cX7_runsHeld 94 = .ok (.iconst 1, 1) := by decide +kernel
theorem dX7_runsHeld_95 : decode cX7_runsHeld 95 = .ok (.iadd, 1) := by decide +kernel
theorem dX7_runsHeld_96 : decode cX7_runsHeld 96 = .ok (.iastore, 1) := by decide +kernel
theorem dX7_runsHeld_97 : decode cX7_runsHeld 97 = .ok (.aload_n 0, 1) := by decide +kernel
theorem dX7_runsHeld_98 : decode cX7_runsHeld 98 = .ok (.invokevirtual 296, 3) := by decide +kernel
theorem dX7_runsHeld_101 : decode cX7_runsHeld 101 = .ok (.return_, 1) := by decide +kernel
theorem dX7_runsTorn_0 : decode cX7_runsTorn 0 = .ok (.aload_n 0, 1) := by decide +kernel
theorem dX7_runsTorn_1 : decode cX7_runsTorn 1 = .ok (.iload_n 2, 1) := by decide +kernel
theorem dX7_runsTorn_2 : decode cX7_runsTorn 2 = .ok (.invokevirtual 289, 3) := by decide +kernel
theorem dX7_runsTorn_5 : decode cX7_runsTorn 5 = .ok (.iconst 1, 1) := by decide +kernel
theorem dX7_runsTorn_6 : decode cX7_runsTorn 6 = .ok (.aload_n 0, 1) := by decide +kernel
theorem dX7_runsTorn_7 : decode cX7_runsTorn 7 = .ok (.getfield 148, 3) := by decide +kernel
theorem dX7_runsTorn_10 : decode cX7_runsTorn 10 = .ok (.isub, 1) := by decide +kernel
theorem dX7_runsTorn_11 : decode cX7_runsTorn 11 = .ok (.istore 4, 2) := by decide +kernel
theorem dX7_runsTorn_13 : decode cX7_runsTorn 13 = .ok (.aload_n 0, 1) := by decide +kernel
theorem dX7_runsTorn_14 : decode cX7_runsTorn 14 = .ok (.iload 4, 2) := by decide +kernel
theorem dX7_runsTorn_16 : decode cX7_runsTorn 16 = .ok (.aload_n 0, 1) := by decide +kernel
theorem dX7_runsTorn_17 : decode cX7_runsTorn 17 = .ok (.iload_n 1, 1) := by decide +kernel
theorem dX7_runsTorn_18 : decode cX7_runsTorn 18 = .ok (.invokevirtual 89, 3) := by decide +kernel
theorem dX7_runsTorn_21 : decode cX7_runsTorn 21 = .ok (.bipush 10, 2) := by decide +kernel
theorem dX7_runsTorn_23 : decode cX7_runsTorn 23 = .ok (.irem, 1) := by decide +kernel
theorem dX7_runsTorn_24 : decode cX7_runsTorn 24 = .ok (.invokevirtual 293, 3) := by decide +kernel
theorem dX7_runsTorn_27 : decode cX7_runsTorn 27 = .ok (.aload_n 0, 1) := by decide +kernel
theorem dX7_runsTorn_28 : decode cX7_runsTorn 28 = .ok (.getfield 54, 3) := by decide +kernel
theorem dX7_runsTorn_31 : decode cX7_runsTorn 31 = .ok (.iload 4, 2) := by decide +kernel
theorem dX7_runsTorn_33 : decode cX7_runsTorn 33 = .ok (.aaload, 1) := by decide +kernel
theorem dX7_runsTorn_34 : decode cX7_runsTorn 34 = .ok (.aload_n 0, 1) := by decide +kernel
theorem dX7_runsTorn_35 : decode cX7_runsTorn 35 = .ok (.getfield 57, 3) := by decide +kernel
theorem dX7_runsTorn_38 : decode cX7_runsTorn 38 = .ok (.iload 4, 2) := by decide +kernel
theorem dX7_runsTorn_40 : decode cX7_runsTorn 40 = .ok (.dup2, 1) := by decide +kernel
theorem dX7_runsTorn_41 : decode cX7_runsTorn 41 = .ok (.iaload, 1) := by decide +kernel
theorem dX7_runsTorn_42 : decode cX7_runsTorn 42 = .ok (.dup_x2, 1) := by decide +kernel
theorem dX7_runsTorn_43 : decode cX7_runsTorn 43 = .ok (.iconst 1, 1) := by decide +kernel
theorem dX7_runsTorn_44 : decode cX7_runsTorn 44 = .ok (.iadd, 1) := by decide +kernel
theorem dX7_runsTorn_45 : decode cX7_runsTorn 45 = .ok (.iastore, 1) := by decide +kernel
theorem dX7_runsTorn_46 : decode cX7_runsTorn 46 = .ok (.iload_n 1, 1) := by decide +kernel
theorem dX7_runsTorn_47 : decode cX7_runsTorn 47 = .ok (.iastore, 1) := by decide +kernel
theorem dX7_runsTorn_48 : decode cX7_runsTorn 48 = .ok (.aload_n 0, 1) := by decide +kernel
theorem dX7_runsTorn_49 : decode cX7_runsTorn 49 = .ok (.getfield 54, 3) := by decide +kernel
theorem dX7_runsTorn_52 : decode cX7_runsTorn 52 = .ok (.aload_n 0, 1) := by decide +kernel
theorem dX7_runsTorn_53 : decode cX7_runsTorn 53 = .ok (.getfield 148, 3) := by decide +kernel
theorem dX7_runsTorn_56 : decode cX7_runsTorn 56 = .ok (.aaload, 1) := by decide +kernel
theorem dX7_runsTorn_57 : decode cX7_runsTorn 57 = .ok (.iload_n 2, 1) := by decide +kernel
theorem dX7_runsTorn_58 : decode cX7_runsTorn 58 = .ok (.iload_n 3, 1) := by decide +kernel
theorem dX7_runsTorn_59 : decode cX7_runsTorn 59 = .ok (.iadd, 1) := by decide +kernel
theorem dX7_runsTorn_60 : decode cX7_runsTorn 60 = .ok (.iaload, 1) := by decide +kernel
theorem dX7_runsTorn_61 : decode cX7_runsTorn 61 = .ok (.istore 5, 2) := by decide +kernel
theorem dX7_runsTorn_63 : decode cX7_runsTorn 63 = .ok (.aload_n 0, 1) := by decide +kernel
theorem dX7_runsTorn_64 : decode cX7_runsTorn 64 = .ok (.aload_n 0, 1) := by decide +kernel
theorem dX7_runsTorn_65 : decode cX7_runsTorn 65 = .ok (.getfield 148, 3) := by decide +kernel
theorem dX7_runsTorn_68 : decode cX7_runsTorn 68 = .ok (.iload_n 2, 1) := by decide +kernel
theorem dX7_runsTorn_69 : decode cX7_runsTorn 69 = .ok (.iload_n 3, 1) := by decide +kernel
theorem dX7_runsTorn_70 : decode cX7_runsTorn 70 = .ok (.iadd, 1) := by decide +kernel
theorem dX7_runsTorn_71 : decode cX7_runsTorn 71 = .ok (.invokevirtual 293, 3) := by decide +kernel
theorem dX7_runsTorn_74 : decode cX7_runsTorn 74 = .ok (.aload_n 0, 1) := by decide +kernel
theorem dX7_runsTorn_75 : decode cX7_runsTorn 75 = .ok (.getfield 54, 3) := by decide +kernel
theorem dX7_runsTorn_78 : decode cX7_runsTorn 78 = .ok (.iload 4, 2) := by decide +kernel
theorem dX7_runsTorn_80 : decode cX7_runsTorn 80 = .ok (.aaload, 1) := by decide +kernel
theorem dX7_runsTorn_81 : decode cX7_runsTorn 81 = .ok (.aload_n 0, 1) := by decide +kernel
theorem dX7_runsTorn_82 : decode cX7_runsTorn 82 = .ok (.getfield 57, 3) := by decide +kernel
theorem dX7_runsTorn_85 : decode cX7_runsTorn 85 = .ok (.iload 4, 2) := by decide +kernel
theorem dX7_runsTorn_87 : decode cX7_runsTorn 87 = .ok (.dup2, 1) := by decide +kernel
theorem dX7_runsTorn_88 : decode cX7_runsTorn 88 = .ok (.iaload, 1) := by decide +kernel
theorem dX7_runsTorn_89 : decode cX7_runsTorn 89 = .ok (.dup_x2, 1) := by decide +kernel
theorem dX7_runsTorn_90 : decode cX7_runsTorn 90 = .ok (.iconst 1, 1) := by decide +kernel
theorem dX7_runsTorn_91 : decode cX7_runsTorn 91 = .ok (.iadd, 1) := by decide +kernel
theorem dX7_runsTorn_92 : decode cX7_runsTorn 92 = .ok (.iastore, 1) := by decide +kernel
theorem dX7_runsTorn_93 : decode cX7_runsTorn 93 = .ok (.iload 5, 2) := by decide +kernel
theorem dX7_runsTorn_95 : decode cX7_runsTorn 95 = .ok (.iastore, 1) := by decide +kernel
theorem dX7_runsTorn_96 : decode cX7_runsTorn 96 = .ok (.aload_n 0, 1) := by decide +kernel
theorem dX7_runsTorn_97 : decode cX7_runsTorn 97 = .ok (.invokevirtual 296, 3) := by decide +kernel
theorem dX7_runsTorn_100 : decode cX7_runsTorn 100 = .ok (.return_, 1) := by decide +kernel
theorem dX7_fresh_0 : decode cX7_fresh 0 = .ok (.aload_n 0, 1) := by decide +kernel
theorem dX7_fresh_1 : decode cX7_fresh 1 = .ok (.getfield 299, 3) := by decide +kernel
theorem dX7_fresh_4 : decode cX7_fresh 4 = .ok (.ifnonnull 14, 3) := by decide +kernel
theorem dX7_fresh_7 : decode cX7_fresh 7 = .ok (.aload_n 0, 1) := by decide +kernel
theorem dX7_fresh_8 : decode cX7_fresh 8 = .ok (.new 8, 3) := by decide +kernel
theorem dX7_fresh_11 : decode cX7_fresh 11 = .ok (.dup, 1) := by decide +kernel
theorem dX7_fresh_12 : decode cX7_fresh 12 = .ok (.invokespecial 303, 3) := by decide +kernel
theorem dX7_fresh_15 : decode cX7_fresh 15 = .ok (.putfield 299, 3) := by decide +kernel
theorem dX7_fresh_18 : decode cX7_fresh 18 = .ok (.aload_n 0, 1) := by decide +kernel
theorem dX7_fresh_19 : decode cX7_fresh 19 = .ok (.getfield 299, 3) := by decide +kernel
theorem dX7_fresh_22 : decode cX7_fresh 22 = .ok (.aload_n 0, 1) := by decide +kernel
theorem dX7_fresh_23 : decode cX7_fresh 23 = .ok (.invokevirtual 257, 3) := by decide +kernel
theorem dX7_fresh_26 : decode cX7_fresh 26 = .ok (.aload_n 0, 1) := by decide +kernel
theorem dX7_fresh_27 : decode cX7_fresh 27 = .ok (.getfield 299, 3) := by decide +kernel
theorem dX7_fresh_30 : decode cX7_fresh 30 = .ok (.areturn, 1) := by decide +kernel
theorem dX7_plays_0 : decode cX7_plays 0 = .ok (.aload_n 0, 1) := by decide +kernel
theorem dX7_plays_1 : decode cX7_plays 1 = .ok (.iload_n 1, 1) := by decide +kernel
theorem dX7_plays_2 : decode cX7_plays 2 = .ok (.invokevirtual 286, 3) := by decide +kernel
theorem dX7_plays_5 : decode cX7_plays 5 = .ok (.istore_n 2, 1) := by decide +kernel
theorem dX7_plays_6 : decode cX7_plays 6 = .ok (.aload_n 0, 1) := by decide +kernel
theorem dX7_plays_7 : decode cX7_plays 7 = .ok (.iload_n 2, 1) := by decide +kernel
theorem dX7_plays_8 : decode cX7_plays 8 = .ok (.invokevirtual 280, 3) := by decide +kernel
theorem dX7_plays_11 : decode cX7_plays 11 = .ok (.istore_n 3, 1) := by decide +kernel
theorem dX7_plays_12 : decode cX7_plays 12 = .ok (.aload_n 0, 1) := by decide +kernel
theorem dX7_plays_13 : decode cX7_plays 13 = .ok (.iload_n 2, 1) := by decide +kernel
theorem dX7_plays_14 : decode cX7_plays 14 = .ok (.iload_n 3, 1) := by decide +kernel
theorem dX7_plays_15 : decode cX7_plays 15 = .ok (.invokevirtual 211, 3) := by decide +kernel
theorem dX7_plays_18 : decode cX7_plays 18 = .ok (.ldc_w 304, 3) := by decide +kernel
theorem dX7_plays_21 : decode cX7_plays 21 = .ok (.if_icmp .lt 17, 3) := by decide +kernel
theorem dX7_plays_24 : decode cX7_plays 24 = .ok (.aload_n 0, 1) := by decide +kernel
theorem dX7_plays_25 : decode cX7_plays 25 = .ok (.iload_n 2, 1) := by decide +kernel
theorem dX7_plays_26 : decode cX7_plays 26 = .ok (.iload_n 3, 1) := by decide +kernel
theorem dX7_plays_27 : decode cX7_plays 27 = .ok (.aload_n 0, 1) := by decide +kernel
theorem dX7_plays_28 : decode cX7_plays 28 = .ok (.iload_n 3, 1) := by decide +kernel
theorem dX7_plays_29 : decode cX7_plays 29 = .ok (.invokevirtual 283, 3) := by decide +kernel
theorem dX7_plays_32 : decode cX7_plays 32 = .ok (.invokevirtual 214, 3) := by decide +kernel
theorem dX7_plays_35 : decode cX7_plays 35 = .ok (.goto 9, 3) := by decide +kernel
theorem dX7_plays_38 : decode cX7_plays 38 = .ok (.aload_n 0, 1) := by decide +kernel
theorem dX7_plays_39 : decode cX7_plays 39 = .ok (.iload_n 2, 1) := by decide +kernel
theorem dX7_plays_40 : decode cX7_plays 40 = .ok (.iload_n 3, 1) := by decide +kernel
theorem dX7_plays_41 : decode cX7_plays 41 = .ok (.invokevirtual 219, 3) := by decide +kernel
theorem dX7_plays_44 : decode cX7_plays 44 = .ok (.return_, 1) := by decide +kernel
theorem dX7_leads_0 : decode cX7_leads 0 = .ok (.iload_n 1, 1) := by decide +kernel
theorem dX7_leads_1 : decode cX7_leads 1 = .ok (.i2l, 1) := by decide +kernel
theorem dX7_leads_2 : decode cX7_leads 2 = .ok (.lconst 0, 1) := by decide +kernel
theorem dX7_leads_3 : decode cX7_leads 3 = .ok (.lconst 1, 1) := by decide +kernel
theorem dX7_leads_4 : decode cX7_leads 4 = .ok (.invokestatic 85, 3) := by decide +kernel
theorem dX7_leads_7 : decode cX7_leads 7 = .ok (.ifCond .ne 10, 3) := by decide +kernel
theorem dX7_leads_10 : decode cX7_leads 10 = .ok (.aload_n 0, 1) := by decide +kernel
theorem dX7_leads_11 : decode cX7_leads 11 = .ok (.bipush (-2), 2) := by decide +kernel
theorem dX7_leads_13 : decode cX7_leads 13 = .ok (.invokevirtual 99, 3) := by decide +kernel
theorem dX7_leads_16 : decode cX7_leads 16 = .ok (.ireturn, 1) := by decide +kernel
theorem dX7_leads_17 : decode cX7_leads 17 = .ok (.aload_n 0, 1) := by decide +kernel
theorem dX7_leads_18 : decode cX7_leads 18 = .ok (.invokevirtual 250, 3) := by decide +kernel
theorem dX7_leads_21 : decode cX7_leads 21 = .ok (.astore_n 2, 1) := by decide +kernel
theorem dX7_leads_22 : decode cX7_leads 22 = .ok (.iconst (-1), 1) := by decide +kernel
theorem dX7_leads_23 : decode cX7_leads 23 = .ok (.istore_n 3, 1) := by decide +kernel
theorem dX7_leads_24 : decode cX7_leads 24 = .ok (.iconst 0, 1) := by decide +kernel
theorem dX7_leads_25 : decode cX7_leads 25 = .ok (.istore 4, 2) := by decide +kernel
theorem dX7_leads_27 : decode cX7_leads 27 = .ok (.aload_n 2, 1) := by decide +kernel
theorem dX7_leads_28 : decode cX7_leads 28 = .ok (.invokevirtual 208, 3) := by decide +kernel
theorem dX7_leads_31 : decode cX7_leads 31 = .ok (.ifCond .ne 76, 3) := by decide +kernel
theorem dX7_leads_34 : decode cX7_leads 34 = .ok (.aload_n 2, 1) := by decide +kernel
theorem dX7_leads_35 : decode cX7_leads 35 = .ok (.iload_n 1, 1) := by decide +kernel
theorem dX7_leads_36 : decode cX7_leads 36 = .ok (.invokevirtual 305, 3) := by decide +kernel
theorem dX7_leads_39 : decode cX7_leads 39 = .ok (.aload_n 2, 1) := by decide +kernel
theorem dX7_leads_40 : decode cX7_leads 40 = .ok (.getfield 57, 3) := by decide +kernel
theorem dX7_leads_43 : decode cX7_leads 43 = .ok (.iconst 0, 1) := by decide +kernel
theorem dX7_leads_44 : decode cX7_leads 44 = .ok (.iaload, 1) := by decide +kernel
theorem dX7_leads_45 : decode cX7_leads 45 = .ok (.aload_n 2, 1) := by decide +kernel
theorem dX7_leads_46 : decode cX7_leads 46 = .ok (.getfield 57, 3) := by decide +kernel
theorem dX7_leads_49 : decode cX7_leads 49 = .ok (.iconst 1, 1) := by decide +kernel
theorem dX7_leads_50 : decode cX7_leads 50 = .ok (.iaload, 1) := by decide +kernel
theorem dX7_leads_51 : decode cX7_leads 51 = .ok (.if_icmp .ne 7, 3) := by decide +kernel
theorem dX7_leads_54 : decode cX7_leads 54 = .ok (.iload_n 3, 1) := by decide +kernel
theorem dX7_leads_55 : decode cX7_leads 55 = .ok (.goto 23, 3) := by decide +kernel
theorem dX7_leads_58 : decode cX7_leads 58 = .ok (.aload_n 2, 1) := by decide +kernel
theorem dX7_leads_59 : decode cX7_leads 59 = .ok (.getfield 57, 3) := by decide +kernel
theorem dX7_leads_62 : decode cX7_leads 62 = .ok (.iconst 0, 1) := by decide +kernel
theorem dX7_leads_63 : decode cX7_leads 63 = .ok (.iaload, 1) := by decide +kernel
theorem dX7_leads_64 : decode cX7_leads 64 = .ok (.aload_n 2, 1) := by decide +kernel
theorem dX7_leads_65 : decode cX7_leads 65 = .ok (.getfield 57, 3) := by decide +kernel
theorem dX7_leads_68 : decode cX7_leads 68 = .ok (.iconst 1, 1) := by decide +kernel
theorem dX7_leads_69 : decode cX7_leads 69 = .ok (.iaload, 1) := by decide +kernel
theorem dX7_leads_70 : decode cX7_leads 70 = .ok (.if_icmp .le 7, 3) := by decide +kernel
theorem dX7_leads_73 : decode cX7_leads 73 = .ok (.iconst 0, 1) := by decide +kernel
theorem dX7_leads_74 : decode cX7_leads 74 = .ok (.goto 4, 3) := by decide +kernel
theorem dX7_leads_77 : decode cX7_leads 77 = .ok (.iconst 1, 1) := by decide +kernel
theorem dX7_leads_78 : decode cX7_leads 78 = .ok (.istore 5, 2) := by decide +kernel
theorem dX7_leads_80 : decode cX7_leads 80 = .ok (.iload 4, 2) := by decide +kernel
theorem dX7_leads_82 : decode cX7_leads 82 = .ok (.iload_n 3, 1) := by decide +kernel
theorem dX7_leads_83 : decode cX7_leads 83 = .ok (.iconst (-1), 1) := by decide +kernel
theorem dX7_leads_84 : decode cX7_leads 84 = .ok (.if_icmp .eq 13, 3) := by decide +kernel
theorem dX7_leads_87 : decode cX7_leads 87 = .ok (.iload 5, 2) := by decide +kernel
theorem dX7_leads_89 : decode cX7_leads 89 = .ok (.iload_n 3, 1) := by decide +kernel
theorem dX7_leads_90 : decode cX7_leads 90 = .ok (.if_icmp .eq 7, 3) := by decide +kernel
theorem dX7_leads_93 : decode cX7_leads 93 = .ok (.iconst 1, 1) := by decide +kernel
theorem dX7_leads_94 : decode cX7_leads 94 = .ok (.goto 4, 3) := by decide +kernel
theorem dX7_leads_97 : decode cX7_leads 97 = .ok (.iconst 0, 1) := by decide +kernel
theorem dX7_leads_98 : decode cX7_leads 98 = .ok (.iadd, 1) := by decide +kernel
theorem dX7_leads_99 : decode cX7_leads 99 = .ok (.istore 4, 2) := by decide +kernel
theorem dX7_leads_101 : decode cX7_leads 101 = .ok (.iload 5, 2) := by decide +kernel
theorem dX7_leads_103 : decode cX7_leads 103 = .ok (.istore_n 3, 1) := by decide +kernel
theorem dX7_leads_104 : decode cX7_leads 104 = .ok (.goto (-77), 3) := by decide +kernel
theorem dX7_leads_107 : decode cX7_leads 107 = .ok (.iload 4, 2) := by decide +kernel
theorem dX7_leads_109 : decode cX7_leads 109 = .ok (.ireturn, 1) := by decide +kernel
theorem dX7_play_0 : decode cX7_play 0 = .ok (.iload_n 1, 1) := by decide +kernel
theorem dX7_play_1 : decode cX7_play 1 = .ok (.i2l, 1) := by decide +kernel
theorem dX7_play_2 : decode cX7_play 2 = .ok (.lconst 0, 1) := by decide +kernel
theorem dX7_play_3 : decode cX7_play 3 = .ok (.lconst 1, 1) := by decide +kernel
theorem dX7_play_4 : decode cX7_play 4 = .ok (.invokestatic 85, 3) := by decide +kernel
theorem dX7_play_7 : decode cX7_play 7 = .ok (.ifCond .eq 15, 3) := by decide +kernel
theorem dX7_play_10 : decode cX7_play 10 = .ok (.iload_n 2, 1) := by decide +kernel
theorem dX7_play_11 : decode cX7_play 11 = .ok (.i2l, 1) := by decide +kernel
theorem dX7_play_12 : decode cX7_play 12 = .ok (.lconst 0, 1) := by decide +kernel
theorem dX7_play_13 : decode cX7_play 13 = .ok (.ldc2_w 137, 3) := by decide +kernel
theorem dX7_play_16 : decode cX7_play 16 = .ok (.invokestatic 85, 3) := by decide +kernel
theorem dX7_play_19 : decode cX7_play 19 = .ok (.ifCond .ne 10, 3) := by decide +kernel
theorem dX7_play_22 : decode cX7_play 22 = .ok (.aload_n 0, 1) := by decide +kernel
theorem dX7_play_23 : decode cX7_play 23 = .ok (.bipush (-2), 2) := by decide +kernel
theorem dX7_play_25 : decode cX7_play 25 = .ok (.invokevirtual 99, 3) := by decide +kernel
theorem dX7_play_28 : decode cX7_play 28 = .ok (.ireturn, 1) := by decide +kernel
theorem dX7_play_29 : decode cX7_play 29 = .ok (.aload_n 0, 1) := by decide +kernel
theorem dX7_play_30 : decode cX7_play 30 = .ok (.invokevirtual 250, 3) := by decide +kernel
theorem dX7_play_33 : decode cX7_play 33 = .ok (.astore_n 3, 1) := by decide +kernel
theorem dX7_play_34 : decode cX7_play 34 = .ok (.aload_n 3, 1) := by decide +kernel
theorem dX7_play_35 : decode cX7_play 35 = .ok (.invokevirtual 208, 3) := by decide +kernel
theorem dX7_play_38 : decode cX7_play 38 = .ok (.ifCond .ne 11, 3) := by decide +kernel
theorem dX7_play_41 : decode cX7_play 41 = .ok (.aload_n 3, 1) := by decide +kernel
theorem dX7_play_42 : decode cX7_play 42 = .ok (.iload_n 1, 1) := by decide +kernel
theorem dX7_play_43 : decode cX7_play 43 = .ok (.invokevirtual 305, 3) := by decide +kernel
theorem dX7_play_46 : decode cX7_play 46 = .ok (.goto (-12), 3) := by decide +kernel
theorem dX7_play_49 : decode cX7_play 49 = .ok (.iload_n 2, 1) := by decide +kernel
theorem dX7_play_50 : decode cX7_play 50 = .ok (.ifCond .ne 10, 3) := by decide +kernel
theorem dX7_play_53 : decode cX7_play 53 = .ok (.aload_n 3, 1) := by decide +kernel
theorem dX7_play_54 : decode cX7_play 54 = .ok (.invokevirtual 277, 3) := by decide +kernel
theorem dX7_play_57 : decode cX7_play 57 = .ok (.goto 26, 3) := by decide +kernel
theorem dX7_play_60 : decode cX7_play 60 = .ok (.iload_n 2, 1) := by decide +kernel
theorem dX7_play_61 : decode cX7_play 61 = .ok (.iconst 1, 1) := by decide +kernel
theorem dX7_play_62 : decode cX7_play 62 = .ok (.if_icmp .ne 15, 3) := by decide +kernel
theorem dX7_play_65 : decode cX7_play 65 = .ok (.aload_n 3, 1) := by decide +kernel
theorem dX7_play_66 : decode cX7_play 66 = .ok (.getfield 274, 3) := by decide +kernel
theorem dX7_play_69 : decode cX7_play 69 = .ok (.aload_n 0, 1) := by decide +kernel
theorem dX7_play_70 : decode cX7_play 70 = .ok (.getfield 274, 3) := by decide +kernel
theorem dX7_play_73 : decode cX7_play 73 = .ok (.isub, 1) := by decide +kernel
theorem dX7_play_74 : decode cX7_play 74 = .ok (.goto 9, 3) := by decide +kernel
theorem dX7_play_77 : decode cX7_play 77 = .ok (.aload_n 3, 1) := by decide +kernel
theorem dX7_play_78 : decode cX7_play 78 = .ok (.getfield 57, 3) := by decide +kernel
theorem dX7_play_81 : decode cX7_play 81 = .ok (.iconst 0, 1) := by decide +kernel
theorem dX7_play_82 : decode cX7_play 82 = .ok (.iaload, 1) := by decide +kernel
theorem dX7_play_83 : decode cX7_play 83 = .ok (.ireturn, 1) := by decide +kernel
theorem dX7_seekStand_0 : decode cX7_seekStand 0 = .ok (.iload_n 2, 1) := by decide +kernel
theorem dX7_seekStand_1 : decode cX7_seekStand 1 = .ok (.aload_n 0, 1) := by decide +kernel
theorem dX7_seekStand_2 : decode cX7_seekStand 2 = .ok (.getfield 57, 3) := by decide +kernel
theorem dX7_seekStand_5 : decode cX7_seekStand 5 = .ok (.iload_n 1, 1) := by decide +kernel
theorem dX7_seekStand_6 : decode cX7_seekStand 6 = .ok (.iaload, 1) := by decide +kernel
theorem dX7_seekStand_7 : decode cX7_seekStand 7 = .ok (.if_icmp .ne 67, 3) := by decide +kernel
theorem dX7_seekStand_10 : decode cX7_seekStand 10 = .ok (.aload_n 0, 1) := by decide +kernel
theorem dX7_seekStand_11 : decode cX7_seekStand 11 = .ok (.aload_n 0, 1) := by decide +kernel
theorem dX7_seekStand_12 : decode cX7_seekStand 12 = .ok (.getfield 76, 3) := by decide +kernel
theorem dX7_seekStand_15 : decode cX7_seekStand 15 = .ok (.iload_n 2, 1) := by decide +kernel
theorem dX7_seekStand_16 : decode cX7_seekStand 16 = .ok (.invokevirtual 270, 3) := by decide +kernel
theorem dX7_seekStand_19 : decode cX7_seekStand 19 = .ok (.istore 4, 2) := by decide +kernel
theorem dX7_seekStand_21 : decode cX7_seekStand 21 = .ok (.aload_n 0, 1) := by decide +kernel
theorem dX7_seekStand_22 : decode cX7_seekStand 22 = .ok (.getfield 308, 3) := by decide +kernel
theorem dX7_seekStand_25 : decode cX7_seekStand 25 = .ok (.iconst (-1), 1) := by decide +kernel
theorem dX7_seekStand_26 : decode cX7_seekStand 26 = .ok (.if_icmp .eq 12, 3) := by decide +kernel
theorem dX7_seekStand_29 : decode cX7_seekStand 29 = .ok (.iload 4, 2) := by decide +kernel
theorem dX7_seekStand_31 : decode cX7_seekStand 31 = .ok (.aload_n 0, 1) := by decide +kernel
theorem dX7_seekStand_32 : decode cX7_seekStand 32 = .ok (.getfield 308, 3) := by decide +kernel
theorem dX7_seekStand_35 : decode cX7_seekStand 35 = .ok (.if_icmp .le 38, 3) := by decide +kernel
theorem dX7_seekStand_38 : decode cX7_seekStand 38 = .ok (.aload_n 0, 1) := by decide +kernel
theorem dX7_seekStand_39 : decode cX7_seekStand 39 = .ok (.iload 4, 2) := by decide +kernel
theorem dX7_seekStand_41 : decode cX7_seekStand 41 = .ok (.putfield 308, 3) := by decide +kernel
theorem dX7_seekStand_44 : decode cX7_seekStand 44 = .ok (.iconst 0, 1) := by decide +kernel
theorem dX7_seekStand_45 : decode cX7_seekStand 45 = .ok (.istore 5, 2) := by decide +kernel
theorem dX7_seekStand_47 : decode cX7_seekStand 47 = .ok (.iload 5, 2) := by decide +kernel
theorem dX7_seekStand_49 : decode cX7_seekStand 49 = .ok (.iload_n 2, 1) := by decide +kernel
theorem dX7_seekStand_50 : decode cX7_seekStand 50 = .ok (.if_icmp .ge 23, 3) := by decide +kernel
theorem dX7_seekStand_53 : decode cX7_seekStand 53 = .ok (.aload_n 0, 1) := by decide +kernel
theorem dX7_seekStand_54 : decode cX7_seekStand 54 = .ok (.getfield 79, 3) := by decide +kernel
theorem dX7_seekStand_57 : decode cX7_seekStand 57 = .ok (.iload 5, 2) := by decide +kernel
theorem dX7_seekStand_59 : decode cX7_seekStand 59 = .ok (.aload_n 0, 1) := by decide +kernel
theorem dX7_seekStand_60 : decode cX7_seekStand 60 = .ok (.getfield 76, 3) := by decide +kernel
theorem dX7_seekStand_63 : decode cX7_seekStand 63 = .ok (.iload 5, 2) := by decide +kernel
theorem dX7_seekStand_65 : decode cX7_seekStand 65 = .ok (.iaload, 1) := by decide +kernel
theorem dX7_seekStand_66 : decode cX7_seekStand 66 = .ok (.iastore, 1) := by decide +kernel
theorem dX7_seekStand_67 : decode cX7_seekStand 67 = .ok (.iinc 5 1, 3) := by decide +kernel
theorem dX7_seekStand_70 : decode cX7_seekStand 70 = .ok (.goto (-23), 3) := by decide +kernel
theorem dX7_seekStand_73 : decode cX7_seekStand 73 = .ok (.return_, 1) := by decide +kernel
theorem dX7_seekStand_74 : decode cX7_seekStand 74 = .ok (.iconst 0, 1) := by decide +kernel
theorem dX7_seekStand_75 : decode cX7_seekStand 75 = .ok (.istore 4, 2) := by decide +kernel
theorem dX7_seekStand_77 : decode cX7_seekStand 77 = .ok (.iload 4, 2) := by decide +kernel
theorem dX7_seekStand_79 : decode cX7_seekStand 79 = .ok (.aload_n 0, 1) := by decide +kernel
theorem dX7_seekStand_80 : decode cX7_seekStand 80 = .ok (.getfield 82, 3) := by decide +kernel
theorem dX7_seekStand_83 : decode cX7_seekStand 83 = .ok (.if_icmp .ge 50, 3) := by decide +kernel
theorem dX7_seekStand_86 : decode cX7_seekStand 86 = .ok (.iload_n 3, 1) := by decide +kernel
theorem dX7_seekStand_87 : decode cX7_seekStand 87 = .ok (.iload 4, 2) := by decide +kernel
theorem dX7_seekStand_89 : decode cX7_seekStand 89 = .ok (.ishr, 1) := by decide +kernel
theorem dX7_seekStand_90 : decode cX7_seekStand 90 = .ok (.iconst 1, 1) := by decide +kernel
theorem dX7_seekStand_91 : decode cX7_seekStand 91 = .ok (.iand, 1) := by decide +kernel
theorem dX7_seekStand_92 : decode cX7_seekStand 92 = .ok (.ifCond .ne 35, 3) := by decide +kernel
theorem dX7_seekStand_95 : decode cX7_seekStand 95 = .ok (.aload_n 0, 1) := by decide +kernel
theorem dX7_seekStand_96 : decode cX7_seekStand 96 = .ok (.iload 4, 2) := by decide +kernel
theorem dX7_seekStand_98 : decode cX7_seekStand 98 = .ok (.invokevirtual 119, 3) := by decide +kernel
theorem dX7_seekStand_101 : decode cX7_seekStand 101 = .ok (.iload_n 1, 1) := by decide +kernel
theorem dX7_seekStand_102 : decode cX7_seekStand 102 = .ok (.if_icmp .ne 25, 3) := by decide +kernel
theorem dX7_seekStand_105 : decode cX7_seekStand 105 = .ok (.aload_n 0, 1) := by decide +kernel
theorem dX7_seekStand_106 : decode cX7_seekStand 106 = .ok (.getfield 76, 3) := by decide +kernel
theorem dX7_seekStand_109 : decode cX7_seekStand 109 = .ok (.iload_n 2, 1) := by decide +kernel
theorem dX7_seekStand_110 : decode cX7_seekStand 110 = .ok (.iload 4, 2) := by decide +kernel
theorem dX7_seekStand_112 : decode cX7_seekStand 112 = .ok (.iastore, 1) := by decide +kernel
theorem dX7_seekStand_113 : decode cX7_seekStand 113 = .ok (.aload_n 0, 1) := by decide +kernel
theorem dX7_seekStand_114 : decode cX7_seekStand 114 = .ok (.iload_n 1, 1) := by decide +kernel
theorem dX7_seekStand_115 : decode cX7_seekStand 115 = .ok (.iload_n 2, 1) := by decide +kernel
theorem dX7_seekStand_116 : decode cX7_seekStand 116 = .ok (.iconst 1, 1) := by decide +kernel
theorem dX7_seekStand_117 : decode cX7_seekStand 117 = .ok (.iadd, 1) := by decide +kernel
theorem dX7_seekStand_118 : decode cX7_seekStand 118 = .ok (.iload_n 3, 1) := by decide +kernel
theorem dX7_seekStand_119 : decode cX7_seekStand 119 = .ok (.iconst 1, 1) := by decide +kernel
theorem dX7_seekStand_120 : decode cX7_seekStand 120 = .ok (.iload 4, 2) := by decide +kernel
theorem dX7_seekStand_122 : decode cX7_seekStand 122 = .ok (.ishl, 1) := by decide +kernel
theorem dX7_seekStand_123 : decode cX7_seekStand 123 = .ok (.ior, 1) := by decide +kernel
theorem dX7_seekStand_124 : decode cX7_seekStand 124 = .ok (.invokevirtual 311, 3) := by decide +kernel
theorem dX7_seekStand_127 : decode cX7_seekStand 127 = .ok (.iinc 4 1, 3) := by decide +kernel
theorem dX7_seekStand_130 : decode cX7_seekStand 130 = .ok (.goto (-53), 3) := by decide +kernel
theorem dX7_seekStand_133 : decode cX7_seekStand 133 = .ok (.return_, 1) := by decide +kernel
theorem dX7_findStand_0 : decode cX7_findStand 0 = .ok (.aload_n 0, 1) := by decide +kernel
theorem dX7_findStand_1 : decode cX7_findStand 1 = .ok (.iconst (-1), 1) := by decide +kernel
theorem dX7_findStand_2 : decode cX7_findStand 2 = .ok (.putfield 308, 3) := by decide +kernel
theorem dX7_findStand_5 : decode cX7_findStand 5 = .ok (.aload_n 0, 1) := by decide +kernel
theorem dX7_findStand_6 : decode cX7_findStand 6 = .ok (.getfield 57, 3) := by decide +kernel
theorem dX7_findStand_9 : decode cX7_findStand 9 = .ok (.iload_n 1, 1) := by decide +kernel
theorem dX7_findStand_10 : decode cX7_findStand 10 = .ok (.iaload, 1) := by decide +kernel
theorem dX7_findStand_11 : decode cX7_findStand 11 = .ok (.iconst 2, 1) := by decide +kernel
theorem dX7_findStand_12 : decode cX7_findStand 12 = .ok (.if_icmp .ge 43, 3) := by decide +kernel
theorem dX7_findStand_15 : decode cX7_findStand 15 = .ok (.aload_n 0, 1) := by decide +kernel
theorem dX7_findStand_16 : decode cX7_findStand 16 = .ok (.iconst 0, 1) := by decide +kernel
theorem dX7_findStand_17 : decode cX7_findStand 17 = .ok (.putfield 308, 3) := by decide +kernel
theorem dX7_findStand_20 : decode cX7_findStand 20 = .ok (.iconst 0, 1) := by decide +kernel
theorem dX7_findStand_21 : decode cX7_findStand 21 = .ok (.istore_n 2, 1) := by decide +kernel
theorem dX7_findStand_22 : decode cX7_findStand 22 = .ok (.iload_n 2, 1) := by decide +kernel
theorem dX7_findStand_23 : decode cX7_findStand 23 = .ok (.aload_n 0, 1) := by decide +kernel
theorem dX7_findStand_24 : decode cX7_findStand 24 = .ok (.getfield 57, 3) := by decide +kernel
theorem dX7_findStand_27 : decode cX7_findStand 27 = .ok (.iload_n 1, 1) := by decide +kernel
theorem dX7_findStand_28 : decode cX7_findStand 28 = .ok (.iaload, 1) := by decide +kernel
theorem dX7_findStand_29 : decode cX7_findStand 29 = .ok (.if_icmp .ge 23, 3) := by decide +kernel
theorem dX7_findStand_32 : decode cX7_findStand 32 = .ok (.aload_n 0, 1) := by decide +kernel
theorem dX7_findStand_33 : decode cX7_findStand 33 = .ok (.getfield 79, 3) := by decide +kernel
theorem dX7_findStand_36 : decode cX7_findStand 36 = .ok (.iload_n 2, 1) := by decide +kernel
theorem dX7_findStand_37 : decode cX7_findStand 37 = .ok (.aload_n 0, 1) := by decide +kernel
theorem dX7_findStand_38 : decode cX7_findStand 38 = .ok (.getfield 54, 3) := by decide +kernel
theorem dX7_findStand_41 : decode cX7_findStand 41 = .ok (.iload_n 1, 1) := by decide +kernel
theorem dX7_findStand_42 : decode cX7_findStand 42 = .ok (.aaload, 1) := by decide +kernel
theorem dX7_findStand_43 : decode cX7_findStand 43 = .ok (.iload_n 2, 1) := by decide +kernel
theorem dX7_findStand_44 : decode cX7_findStand 44 = .ok (.iaload, 1) := by decide +kernel
theorem dX7_findStand_45 : decode cX7_findStand 45 = .ok (.iastore, 1) := by decide +kernel
theorem dX7_findStand_46 : decode cX7_findStand 46 = .ok (.iinc 2 1, 3) := by decide +kernel
theorem dX7_findStand_49 : decode cX7_findStand 49 = .ok (.goto (-27), 3) := by decide +kernel
theorem dX7_findStand_52 : decode cX7_findStand 52 = .ok (.goto 10, 3) := by decide +kernel
theorem dX7_findStand_55 : decode cX7_findStand 55 = .ok (.aload_n 0, 1) := by decide +kernel
theorem dX7_findStand_56 : decode cX7_findStand 56 = .ok (.iload_n 1, 1) := by decide +kernel
theorem dX7_findStand_57 : decode cX7_findStand 57 = .ok (.iconst 0, 1) := by decide +kernel
theorem dX7_findStand_58 : decode cX7_findStand 58 = .ok (.iconst 0, 1) := by decide +kernel
theorem dX7_findStand_59 : decode cX7_findStand 59 = .ok (.invokevirtual 311, 3) := by decide +kernel
theorem dX7_findStand_62 : decode cX7_findStand 62 = .ok (.return_, 1) := by decide +kernel
theorem dX7_stand_0 : decode cX7_stand 0 = .ok (.iload_n 1, 1) := by decide +kernel
theorem dX7_stand_1 : decode cX7_stand 1 = .ok (.i2l, 1) := by decide +kernel
theorem dX7_stand_2 : decode cX7_stand 2 = .ok (.lconst 0, 1) := by decide +kernel
theorem dX7_stand_3 : decode cX7_stand 3 = .ok (.lconst 1, 1) := by decide +kernel
theorem dX7_stand_4 : decode cX7_stand 4 = .ok (.invokestatic 85, 3) := by decide +kernel
theorem dX7_stand_7 : decode cX7_stand 7 = .ok (.ifCond .eq 23, 3) := by decide +kernel
theorem dX7_stand_10 : decode cX7_stand 10 = .ok (.iload_n 2, 1) := by decide +kernel
theorem dX7_stand_11 : decode cX7_stand 11 = .ok (.i2l, 1) := by decide +kernel
theorem dX7_stand_12 : decode cX7_stand 12 = .ok (.ldc2_w 261, 3) := by decide +kernel
theorem dX7_stand_15 : decode cX7_stand 15 = .ok (.aload_n 0, 1) := by decide +kernel
theorem dX7_stand_16 : decode cX7_stand 16 = .ok (.getfield 57, 3) := by decide +kernel
theorem dX7_stand_19 : decode cX7_stand 19 = .ok (.iload_n 1, 1) := by decide +kernel
theorem dX7_stand_20 : decode cX7_stand 20 = .ok (.iaload, 1) := by decide +kernel
theorem dX7_stand_21 : decode cX7_stand 21 = .ok (.iconst 1, 1) := by decide +kernel
theorem dX7_stand_22 : decode cX7_stand 22 = .ok (.isub, 1) := by decide +kernel
theorem dX7_stand_23 : decode cX7_stand 23 = .ok (.i2l, 1) := by decide +kernel
theorem dX7_stand_24 : decode cX7_stand 24 = .ok (.invokestatic 85, 3) := by decide +kernel
theorem dX7_stand_27 : decode cX7_stand 27 = .ok (.ifCond .ne 10, 3) := by decide +kernel
theorem dX7_stand_30 : decode cX7_stand 30 = .ok (.aload_n 0, 1) := by decide +kernel
theorem dX7_stand_31 : decode cX7_stand 31 = .ok (.bipush (-2), 2) := by decide +kernel
theorem dX7_stand_33 : decode cX7_stand 33 = .ok (.invokevirtual 99, 3) := by decide +kernel
theorem dX7_stand_36 : decode cX7_stand 36 = .ok (.ireturn, 1) := by decide +kernel
theorem dX7_stand_37 : decode cX7_stand 37 = .ok (.aload_n 0, 1) := by decide +kernel
theorem dX7_stand_38 : decode cX7_stand 38 = .ok (.getfield 57, 3) := by decide +kernel
theorem dX7_stand_41 : decode cX7_stand 41 = .ok (.iload_n 1, 1) := by decide +kernel
theorem dX7_stand_42 : decode cX7_stand 42 = .ok (.iaload, 1) := by decide +kernel
theorem dX7_stand_43 : decode cX7_stand 43 = .ok (.bipush 7, 2) := by decide +kernel
theorem dX7_stand_45 : decode cX7_stand 45 = .ok (.if_icmp .le 10, 3) := by decide +kernel
theorem dX7_stand_48 : decode cX7_stand 48 = .ok (.aload_n 0, 1) := by decide +kernel
theorem dX7_stand_49 : decode cX7_stand 49 = .ok (.bipush (-6), 2) := by decide +kernel
theorem dX7_stand_51 : decode cX7_stand 51 = .ok (.invokevirtual 99, 3) := by decide +kernel
theorem dX7_stand_54 : decode cX7_stand 54 = .ok (.ireturn, 1) := by decide +kernel
theorem dX7_stand_55 : decode cX7_stand 55 = .ok (.aload_n 0, 1) := by decide +kernel
theorem dX7_stand_56 : decode cX7_stand 56 = .ok (.iload_n 1, 1) := by decide +kernel
theorem dX7_stand_57 : decode cX7_stand 57 = .ok (.invokevirtual 314, 3) := by decide +kernel
theorem dX7_stand_60 : decode cX7_stand 60 = .ok (.iload_n 2, 1) := by decide +kernel
theorem dX7_stand_61 : decode cX7_stand 61 = .ok (.iconst (-1), 1) := by decide +kernel
theorem dX7_stand_62 : decode cX7_stand 62 = .ok (.if_icmp .ne 10, 3) := by decide +kernel
theorem dX7_stand_65 : decode cX7_stand 65 = .ok (.aload_n 0, 1) := by decide +kernel
theorem dX7_stand_66 : decode cX7_stand 66 = .ok (.getfield 308, 3) := by decide +kernel
theorem dX7_stand_69 : decode cX7_stand 69 = .ok (.goto 9, 3) := by decide +kernel
theorem dX7_stand_72 : decode cX7_stand 72 = .ok (.aload_n 0, 1) := by decide +kernel
theorem dX7_stand_73 : decode cX7_stand 73 = .ok (.getfield 79, 3) := by decide +kernel
theorem dX7_stand_76 : decode cX7_stand 76 = .ok (.iload_n 2, 1) := by decide +kernel
theorem dX7_stand_77 : decode cX7_stand 77 = .ok (.iaload, 1) := by decide +kernel
theorem dX7_stand_78 : decode cX7_stand 78 = .ok (.ireturn, 1) := by decide +kernel
theorem dX7_worth_0 : decode cX7_worth 0 = .ok (.iload_n 1, 1) := by decide +kernel
theorem dX7_worth_1 : decode cX7_worth 1 = .ok (.i2l, 1) := by decide +kernel
theorem dX7_worth_2 : decode cX7_worth 2 = .ok (.lconst 0, 1) := by decide +kernel
theorem dX7_worth_3 : decode cX7_worth 3 = .ok (.lconst 1, 1) := by decide +kernel
theorem dX7_worth_4 : decode cX7_worth 4 = .ok (.invokestatic 85, 3) := by decide +kernel
theorem dX7_worth_7 : decode cX7_worth 7 = .ok (.ifCond .ne 10, 3) := by decide +kernel
theorem dX7_worth_10 : decode cX7_worth 10 = .ok (.aload_n 0, 1) := by decide +kernel
theorem dX7_worth_11 : decode cX7_worth 11 = .ok (.bipush (-2), 2) := by decide +kernel
theorem dX7_worth_13 : decode cX7_worth 13 = .ok (.invokevirtual 99, 3) := by decide +kernel
theorem dX7_worth_16 : decode cX7_worth 16 = .ok (.ireturn, 1) := by decide +kernel
theorem dX7_worth_17 : decode cX7_worth 17 = .ok (.aload_n 0, 1) := by decide +kernel
theorem dX7_worth_18 : decode cX7_worth 18 = .ok (.getfield 57, 3) := by decide +kernel
theorem dX7_worth_21 : decode cX7_worth 21 = .ok (.iload_n 1, 1) := by decide +kernel
theorem dX7_worth_22 : decode cX7_worth 22 = .ok (.iaload, 1) := by decide +kernel
theorem dX7_worth_23 : decode cX7_worth 23 = .ok (.bipush 7, 2) := by decide +kernel
theorem dX7_worth_25 : decode cX7_worth 25 = .ok (.if_icmp .le 10, 3) := by decide +kernel
theorem dX7_worth_28 : decode cX7_worth 28 = .ok (.aload_n 0, 1) := by decide +kernel
theorem dX7_worth_29 : decode cX7_worth 29 = .ok (.bipush (-6), 2) := by decide +kernel
theorem dX7_worth_31 : decode cX7_worth 31 = .ok (.invokevirtual 99, 3) := by decide +kernel
theorem dX7_worth_34 : decode cX7_worth 34 = .ok (.ireturn, 1) := by decide +kernel
theorem dX7_worth_35 : decode cX7_worth 35 = .ok (.aload_n 0, 1) := by decide +kernel
theorem dX7_worth_36 : decode cX7_worth 36 = .ok (.getfield 57, 3) := by decide +kernel
theorem dX7_worth_39 : decode cX7_worth 39 = .ok (.iload_n 1, 1) := by decide +kernel
theorem dX7_worth_40 : decode cX7_worth 40 = .ok (.iaload, 1) := by decide +kernel
theorem dX7_worth_41 : decode cX7_worth 41 = .ok (.iconst 2, 1) := by decide +kernel
theorem dX7_worth_42 : decode cX7_worth 42 = .ok (.if_icmp .ge 5, 3) := by decide +kernel
theorem dX7_worth_45 : decode cX7_worth 45 = .ok (.iconst 0, 1) := by decide +kernel
theorem dX7_worth_46 : decode cX7_worth 46 = .ok (.ireturn, 1) := by decide +kernel
theorem dX7_worth_47 : decode cX7_worth 47 = .ok (.aload_n 0, 1) := by decide +kernel
theorem dX7_worth_48 : decode cX7_worth 48 = .ok (.iload_n 1, 1) := by decide +kernel
theorem dX7_worth_49 : decode cX7_worth 49 = .ok (.invokevirtual 314, 3) := by decide +kernel
theorem dX7_worth_52 : decode cX7_worth 52 = .ok (.aload_n 0, 1) := by decide +kernel
theorem dX7_worth_53 : decode cX7_worth 53 = .ok (.getfield 308, 3) := by decide +kernel
theorem dX7_worth_56 : decode cX7_worth 56 = .ok (.aload_n 0, 1) := by decide +kernel
theorem dX7_worth_57 : decode cX7_worth 57 = .ok (.aload_n 0, 1) := by decide +kernel
theorem dX7_worth_58 : decode cX7_worth 58 = .ok (.getfield 54, 3) := by decide +kernel
theorem dX7_worth_61 : decode cX7_worth 61 = .ok (.iload_n 1, 1) := by decide +kernel
theorem dX7_worth_62 : decode cX7_worth 62 = .ok (.aaload, 1) := by decide +kernel
theorem dX7_worth_63 : decode cX7_worth 63 = .ok (.aload_n 0, 1) := by decide +kernel
theorem dX7_worth_64 : decode cX7_worth 64 = .ok (.getfield 57, 3) := by decide +kernel
theorem dX7_worth_67 : decode cX7_worth 67 = .ok (.iload_n 1, 1) := by decide +kernel
theorem dX7_worth_68 : decode cX7_worth 68 = .ok (.iaload, 1) := by decide +kernel
theorem dX7_worth_69 : decode cX7_worth 69 = .ok (.invokevirtual 270, 3) := by decide +kernel
theorem dX7_worth_72 : decode cX7_worth 72 = .ok (.isub, 1) := by decide +kernel
theorem dX7_worth_73 : decode cX7_worth 73 = .ok (.ireturn, 1) := by decide +kernel
theorem dX7_togetherIn_0 : decode cX7_togetherIn 0 = .ok (.iload_n 2, 1) := by decide +kernel
theorem dX7_togetherIn_1 : decode cX7_togetherIn 1 = .ok (.aload_n 0, 1) := by decide +kernel
theorem dX7_togetherIn_2 : decode cX7_togetherIn 2 = .ok (.getfield 57, 3) := by decide +kernel
theorem dX7_togetherIn_5 : decode cX7_togetherIn 5 = .ok (.iload_n 1, 1) := by decide +kernel
theorem dX7_togetherIn_6 : decode cX7_togetherIn 6 = .ok (.iaload, 1) := by decide +kernel
theorem dX7_togetherIn_7 : decode cX7_togetherIn 7 = .ok (.if_icmp .ne 14, 3) := by decide +kernel
theorem dX7_togetherIn_10 : decode cX7_togetherIn 10 = .ok (.iload 4, 2) := by decide +kernel
theorem dX7_togetherIn_12 : decode cX7_togetherIn 12 = .ok (.ifCond .eq 7, 3) := by decide +kernel
theorem dX7_togetherIn_15 : decode cX7_togetherIn 15 = .ok (.iconst 1, 1) := by decide +kernel
theorem dX7_togetherIn_16 : decode cX7_togetherIn 16 = .ok (.goto 4, 3) := by decide +kernel
theorem dX7_togetherIn_19 : decode cX7_togetherIn 19 = .ok (.iconst 0, 1) := by decide +kernel
theorem dX7_togetherIn_20 : decode cX7_togetherIn 20 = .ok (.ireturn, 1) := by decide +kernel
theorem dX7_togetherIn_21 : decode cX7_togetherIn 21 = .ok (.iconst 0, 1) := by decide +kernel
theorem dX7_togetherIn_22 : decode cX7_togetherIn 22 = .ok (.istore 5, 2) := by decide +kernel
theorem dX7_togetherIn_24 : decode cX7_togetherIn 24 = .ok (.iconst 0, 1) := by decide +kernel
theorem dX7_togetherIn_25 : decode cX7_togetherIn 25 = .ok (.istore 6, 2) := by decide +kernel
theorem dX7_togetherIn_27 : decode cX7_togetherIn 27 = .ok (.iload 6, 2) := by decide +kernel
theorem dX7_togetherIn_29 : decode cX7_togetherIn 29 = .ok (.aload_n 0, 1) := by decide +kernel
theorem dX7_togetherIn_30 : decode cX7_togetherIn 30 = .ok (.getfield 82, 3) := by decide +kernel
theorem dX7_togetherIn_33 : decode cX7_togetherIn 33 = .ok (.if_icmp .ge 109, 3) := by decide +kernel
theorem dX7_togetherIn_36 : decode cX7_togetherIn 36 = .ok (.iload_n 3, 1) := by decide +kernel
theorem dX7_togetherIn_37 : decode cX7_togetherIn 37 = .ok (.iload 6, 2) := by decide +kernel
theorem dX7_togetherIn_39 : decode cX7_togetherIn 39 = .ok (.ishr, 1) := by decide +kernel
theorem dX7_togetherIn_40 : decode cX7_togetherIn 40 = .ok (.iconst 1, 1) := by decide +kernel
theorem dX7_togetherIn_41 : decode cX7_togetherIn 41 = .ok (.iand, 1) := by decide +kernel
theorem dX7_togetherIn_42 : decode cX7_togetherIn 42 = .ok (.ifCond .ne 94, 3) := by decide +kernel
theorem dX7_togetherIn_45 : decode cX7_togetherIn 45 = .ok (.aload_n 0, 1) := by decide +kernel
theorem dX7_togetherIn_46 : decode cX7_togetherIn 46 = .ok (.iload 6, 2) := by decide +kernel
theorem dX7_togetherIn_48 : decode cX7_togetherIn 48 = .ok (.invokevirtual 119, 3) := by decide +kernel
theorem dX7_togetherIn_51 : decode cX7_togetherIn 51 = .ok (.iload_n 1, 1) := by decide +kernel
theorem dX7_togetherIn_52 : decode cX7_togetherIn 52 = .ok (.if_icmp .ne 84, 3) := by decide +kernel
theorem dX7_togetherIn_55 : decode cX7_togetherIn 55 = .ok (.aload_n 0, 1) := by decide +kernel
theorem dX7_togetherIn_56 : decode cX7_togetherIn 56 = .ok (.getfield 76, 3) := by decide +kernel
theorem dX7_togetherIn_59 : decode cX7_togetherIn 59 = .ok (.iload_n 2, 1) := by decide +kernel
theorem dX7_togetherIn_60 : decode cX7_togetherIn 60 = .ok (.iload 6, 2) := by decide +kernel
theorem dX7_togetherIn_62 : decode cX7_togetherIn 62 = .ok (.iastore, 1) := by decide +kernel
theorem dX7_togetherIn_63 : decode cX7_togetherIn 63 = .ok (.iload_n 2, 1) := by decide +kernel
theorem dX7_togetherIn_64 : decode cX7_togetherIn 64 = .ok (.ifCond .le 35, 3) := by decide +kernel
theorem dX7_togetherIn_67 : decode cX7_togetherIn 67 = .ok (.aload_n 0, 1) := by decide +kernel
theorem dX7_togetherIn_68 : decode cX7_togetherIn 68 = .ok (.getfield 37, 3) := by decide +kernel
theorem dX7_togetherIn_71 : decode cX7_togetherIn 71 = .ok (.iload 6, 2) := by decide +kernel
theorem dX7_togetherIn_73 : decode cX7_togetherIn 73 = .ok (.iaload, 1) := by decide +kernel
theorem dX7_togetherIn_74 : decode cX7_togetherIn 74 = .ok (.iconst 3, 1) := by decide +kernel
theorem dX7_togetherIn_75 : decode cX7_togetherIn 75 = .ok (.if_icmp .ne 24, 3) := by decide +kernel
theorem dX7_togetherIn_78 : decode cX7_togetherIn 78 = .ok (.aload_n 0, 1) := by decide +kernel
theorem dX7_togetherIn_79 : decode cX7_togetherIn 79 = .ok (.getfield 37, 3) := by decide +kernel
theorem dX7_togetherIn_82 : decode cX7_togetherIn 82 = .ok (.aload_n 0, 1) := by decide +kernel
theorem dX7_togetherIn_83 : decode cX7_togetherIn 83 = .ok (.getfield 76, 3) := by decide +kernel
theorem dX7_togetherIn_86 : decode cX7_togetherIn 86 = .ok (.iload_n 2, 1) := by decide +kernel
theorem dX7_togetherIn_87 : decode cX7_togetherIn 87 = .ok (.iconst 1, 1) := by decide +kernel
theorem dX7_togetherIn_88 : decode cX7_togetherIn 88 = .ok (.isub, 1) := by decide +kernel
theorem dX7_togetherIn_89 : decode cX7_togetherIn 89 = .ok (.iaload, 1) := by decide +kernel
theorem dX7_togetherIn_90 : decode cX7_togetherIn 90 = .ok (.iaload, 1) := by decide +kernel
theorem dX7_togetherIn_91 : decode cX7_togetherIn 91 = .ok (.iconst 3, 1) := by decide +kernel
theorem dX7_togetherIn_92 : decode cX7_togetherIn 92 = .ok (.if_icmp .ne 7, 3) := by decide +kernel
theorem dX7_togetherIn_95 : decode cX7_togetherIn 95 = .ok (.iconst 1, 1) := by decide +kernel
theorem dX7_togetherIn_96 : decode cX7_togetherIn 96 = .ok (.goto 4, 3) := by decide +kernel
theorem dX7_togetherIn_99 : decode cX7_togetherIn 99 = .ok (.iconst 0, 1) := by decide +kernel
theorem dX7_togetherIn_100 : decode cX7_togetherIn 100 = .ok (.istore 7, 2) := by decide +kernel
theorem dX7_togetherIn_102 : decode cX7_togetherIn 102 = .ok (.iload 5, 2) := by decide +kernel
theorem dX7_togetherIn_104 : decode cX7_togetherIn 104 = .ok (.aload_n 0, 1) := by decide +kernel
theorem dX7_togetherIn_105 : decode cX7_togetherIn 105 = .ok (.iload_n 1, 1) := by decide +kernel
theorem dX7_togetherIn_106 : decode cX7_togetherIn 106 = .ok (.iload_n 2, 1) := by decide +kernel
theorem dX7_togetherIn_107 : decode cX7_togetherIn 107 = .ok (.iconst 1, 1) := by decide +kernel
theorem dX7_togetherIn_108 : decode cX7_togetherIn 108 = .ok (.iadd, 1) := by decide +kernel
theorem dX7_togetherIn_109 : decode cX7_togetherIn 109 = .ok (.iload_n 3, 1) := by decide +kernel
theorem dX7_togetherIn_110 : decode cX7_togetherIn 110 = .ok (.iconst 1, 1) := by decide +kernel
theorem dX7_togetherIn_111 : decode cX7_togetherIn 111 = .ok (.iload 6, 2) := by decide +kernel
theorem dX7_togetherIn_113 : decode cX7_togetherIn 113 = .ok (.ishl, 1) := by decide +kernel
theorem dX7_togetherIn_114 : decode cX7_togetherIn 114 = .ok (.ior, 1) := by decide +kernel
theorem dX7_togetherIn_115 : decode cX7_togetherIn 115 = .ok (.iload 4, 2) := by decide +kernel
theorem dX7_togetherIn_117 : decode cX7_togetherIn 117 = .ok (.ifCond .ne 8, 3) := by decide +kernel
theorem dX7_togetherIn_120 : decode cX7_togetherIn 120 = .ok (.iload 7, 2) := by decide +kernel
theorem dX7_togetherIn_122 : decode cX7_togetherIn 122 = .ok (.ifCond .eq 7, 3) := by decide +kernel
theorem dX7_togetherIn_125 : decode cX7_togetherIn 125 = .ok (.iconst 1, 1) := by decide +kernel
theorem dX7_togetherIn_126 : decode cX7_togetherIn 126 = .ok (.goto 4, 3) := by decide +kernel
theorem dX7_togetherIn_129 : decode cX7_togetherIn 129 = .ok (.iconst 0, 1) := by decide +kernel
theorem dX7_togetherIn_130 : decode cX7_togetherIn 130 = .ok (.invokevirtual 317, 3) := by decide +kernel
theorem dX7_togetherIn_133 : decode cX7_togetherIn 133 = .ok (.iadd, 1) := by decide +kernel
theorem dX7_togetherIn_134 : decode cX7_togetherIn 134 = .ok (.istore 5, 2) := by decide +kernel
theorem dX7_togetherIn_136 : decode cX7_togetherIn 136 = .ok (.iinc 6 1, 3) := by decide +kernel
theorem dX7_togetherIn_139 : decode cX7_togetherIn 139 = .ok (.goto (-112), 3) := by decide +kernel
theorem dX7_togetherIn_142 : decode cX7_togetherIn 142 = .ok (.iload 5, 2) := by decide +kernel
theorem dX7_togetherIn_144 : decode cX7_togetherIn 144 = .ok (.ireturn, 1) := by decide +kernel
theorem dX7_together_0 : decode cX7_together 0 = .ok (.iload_n 1, 1) := by decide +kernel
theorem dX7_together_1 : decode cX7_together 1 = .ok (.i2l, 1) := by decide +kernel
theorem dX7_together_2 : decode cX7_together 2 = .ok (.lconst 0, 1) := by decide +kernel
theorem dX7_together_3 : decode cX7_together 3 = .ok (.lconst 1, 1) := by decide +kernel
theorem dX7_together_4 : decode cX7_together 4 = .ok (.invokestatic 85, 3) := by decide +kernel
theorem dX7_together_7 : decode cX7_together 7 = .ok (.ifCond .ne 10, 3) := by decide +kernel
theorem dX7_together_10 : decode cX7_together 10 = .ok (.aload_n 0, 1) := by decide +kernel
theorem dX7_together_11 : decode cX7_together 11 = .ok (.bipush (-2), 2) := by decide +kernel
theorem dX7_together_13 : decode cX7_together 13 = .ok (.invokevirtual 99, 3) := by decide +kernel
theorem dX7_together_16 : decode cX7_together 16 = .ok (.ireturn, 1) := by decide +kernel
theorem dX7_together_17 : decode cX7_together 17 = .ok (.aload_n 0, 1) := by decide +kernel
theorem dX7_together_18 : decode cX7_together 18 = .ok (.getfield 57, 3) := by decide +kernel
theorem dX7_together_21 : decode cX7_together 21 = .ok (.iload_n 1, 1) := by decide +kernel
theorem dX7_together_22 : decode cX7_together 22 = .ok (.iaload, 1) := by decide +kernel
theorem dX7_together_23 : decode cX7_together 23 = .ok (.bipush 7, 2) := by decide +kernel
theorem dX7_together_25 : decode cX7_together 25 = .ok (.if_icmp .le 12, 3) := by decide +kernel
theorem dX7_together_28 : decode cX7_together 28 = .ok (.aload_n 0, 1) := by decide +kernel
theorem dX7_together_29 : decode cX7_together 29 = .ok (.bipush (-6), 2) := by decide +kernel
theorem dX7_together_31 : decode cX7_together 31 = .ok (.invokevirtual 99, 3) := by decide +kernel
theorem dX7_together_34 : decode cX7_together 34 = .ok (.goto 11, 3) := by decide +kernel
theorem dX7_together_37 : decode cX7_together 37 = .ok (.aload_n 0, 1) := by decide +kernel
theorem dX7_together_38 : decode cX7_together 38 = .ok (.iload_n 1, 1) := by decide +kernel
theorem dX7_together_39 : decode cX7_together 39 = .ok (.iconst 0, 1) := by decide +kernel
theorem dX7_together_40 : decode cX7_together 40 = .ok (.iconst 0, 1) := by decide +kernel
theorem dX7_together_41 : decode cX7_together 41 = .ok (.iconst 0, 1) := by decide +kernel
theorem dX7_together_42 : decode cX7_together 42 = .ok (.invokevirtual 317, 3) := by decide +kernel
theorem dX7_together_45 : decode cX7_together 45 = .ok (.ireturn, 1) := by decide +kernel
theorem dX7_changes_0 : decode cX7_changes 0 = .ok (.aload_n 0, 1) := by decide +kernel
theorem dX7_changes_1 : decode cX7_changes 1 = .ok (.getfield 54, 3) := by decide +kernel
theorem dX7_changes_4 : decode cX7_changes 4 = .ok (.iload_n 1, 1) := by decide +kernel
theorem dX7_changes_5 : decode cX7_changes 5 = .ok (.aaload, 1) := by decide +kernel
theorem dX7_changes_6 : decode cX7_changes 6 = .ok (.iload_n 2, 1) := by decide +kernel
theorem dX7_changes_7 : decode cX7_changes 7 = .ok (.iaload, 1) := by decide +kernel
theorem dX7_changes_8 : decode cX7_changes 8 = .ok (.istore_n 3, 1) := by decide +kernel
theorem dX7_changes_9 : decode cX7_changes 9 = .ok (.aload_n 0, 1) := by decide +kernel
theorem dX7_changes_10 : decode cX7_changes 10 = .ok (.getfield 54, 3) := by decide +kernel
theorem dX7_changes_13 : decode cX7_changes 13 = .ok (.iload_n 1, 1) := by decide +kernel
theorem dX7_changes_14 : decode cX7_changes 14 = .ok (.aaload, 1) := by decide +kernel
theorem dX7_changes_15 : decode cX7_changes 15 = .ok (.iload_n 2, 1) := by decide +kernel
theorem dX7_changes_16 : decode cX7_changes 16 = .ok (.aload_n 0, 1) := by decide +kernel
theorem dX7_changes_17 : decode cX7_changes 17 = .ok (.getfield 54, 3) := by decide +kernel
theorem dX7_changes_20 : decode cX7_changes 20 = .ok (.iload_n 1, 1) := by decide +kernel
theorem dX7_changes_21 : decode cX7_changes 21 = .ok (.aaload, 1) := by decide +kernel
theorem dX7_changes_22 : decode cX7_changes 22 = .ok (.iload_n 2, 1) := by decide +kernel
theorem dX7_changes_23 : decode cX7_changes 23 = .ok (.iconst 1, 1) := by decide +kernel
theorem dX7_changes_24 : decode cX7_changes 24 = .ok (.iadd, 1) := by decide +kernel
theorem dX7_changes_25 : decode cX7_changes 25 = .ok (.iaload, 1) := by decide +kernel
theorem dX7_changes_26 : decode cX7_changes 26 = .ok (.iastore, 1) := by decide +kernel
theorem dX7_changes_27 : decode cX7_changes 27 = .ok (.aload_n 0, 1) := by decide +kernel
theorem dX7_changes_28 : decode cX7_changes 28 = .ok (.getfield 54, 3) := by decide +kernel
theorem dX7_changes_31 : decode cX7_changes 31 = .ok (.iload_n 1, 1) := by decide +kernel
theorem dX7_changes_32 : decode cX7_changes 32 = .ok (.aaload, 1) := by decide +kernel
theorem dX7_changes_33 : decode cX7_changes 33 = .ok (.iload_n 2, 1) := by decide +kernel
theorem dX7_changes_34 : decode cX7_changes 34 = .ok (.iconst 1, 1) := by decide +kernel
theorem dX7_changes_35 : decode cX7_changes 35 = .ok (.iadd, 1) := by decide +kernel
theorem dX7_changes_36 : decode cX7_changes 36 = .ok (.iload_n 3, 1) := by decide +kernel
theorem dX7_changes_37 : decode cX7_changes 37 = .ok (.iastore, 1) := by decide +kernel
theorem dX7_changes_38 : decode cX7_changes 38 = .ok (.return_, 1) := by decide +kernel
theorem dX7_swap_0 : decode cX7_swap 0 = .ok (.iload_n 1, 1) := by decide +kernel
theorem dX7_swap_1 : decode cX7_swap 1 = .ok (.i2l, 1) := by decide +kernel
theorem dX7_swap_2 : decode cX7_swap 2 = .ok (.lconst 0, 1) := by decide +kernel
theorem dX7_swap_3 : decode cX7_swap 3 = .ok (.lconst 1, 1) := by decide +kernel
theorem dX7_swap_4 : decode cX7_swap 4 = .ok (.invokestatic 85, 3) := by decide +kernel
theorem dX7_swap_7 : decode cX7_swap 7 = .ok (.ifCond .eq 13, 3) := by decide +kernel
theorem dX7_swap_10 : decode cX7_swap 10 = .ok (.iload_n 2, 1) := by decide +kernel
theorem dX7_swap_11 : decode cX7_swap 11 = .ok (.i2l, 1) := by decide +kernel
theorem dX7_swap_12 : decode cX7_swap 12 = .ok (.lconst 0, 1) := by decide +kernel
theorem dX7_swap_13 : decode cX7_swap 13 = .ok (.lconst 1, 1) := by decide +kernel
theorem dX7_swap_14 : decode cX7_swap 14 = .ok (.invokestatic 85, 3) := by decide +kernel
theorem dX7_swap_17 : decode cX7_swap 17 = .ok (.ifCond .ne 14, 3) := by decide +kernel
theorem dX7_swap_20 : decode cX7_swap 20 = .ok (.sipush (-1000), 3) := by decide +kernel
theorem dX7_swap_23 : decode cX7_swap 23 = .ok (.aload_n 0, 1) := by decide +kernel
theorem dX7_swap_24 : decode cX7_swap 24 = .ok (.bipush (-2), 2) := by decide +kernel
theorem dX7_swap_26 : decode cX7_swap 26 = .ok (.invokevirtual 99, 3) := by decide +kernel
theorem dX7_swap_29 : decode cX7_swap 29 = .ok (.iadd, 1) := by decide +kernel
theorem dX7_swap_30 : decode cX7_swap 30 = .ok (.ireturn, 1) := by decide +kernel
theorem dX7_swap_31 : decode cX7_swap 31 = .ok (.aload_n 0, 1) := by decide +kernel
theorem dX7_swap_32 : decode cX7_swap 32 = .ok (.getfield 57, 3) := by decide +kernel
theorem dX7_swap_35 : decode cX7_swap 35 = .ok (.iload_n 1, 1) := by decide +kernel
theorem dX7_swap_36 : decode cX7_swap 36 = .ok (.iaload, 1) := by decide +kernel
theorem dX7_swap_37 : decode cX7_swap 37 = .ok (.iconst 2, 1) := by decide +kernel
theorem dX7_swap_38 : decode cX7_swap 38 = .ok (.if_icmp .ge 14, 3) := by decide +kernel
theorem dX7_swap_41 : decode cX7_swap 41 = .ok (.sipush (-1000), 3) := by decide +kernel
theorem dX7_swap_44 : decode cX7_swap 44 = .ok (.aload_n 0, 1) := by decide +kernel
theorem dX7_swap_45 : decode cX7_swap 45 = .ok (.bipush (-5), 2) := by decide +kernel
theorem dX7_swap_47 : decode cX7_swap 47 = .ok (.invokevirtual 99, 3) := by decide +kernel
theorem dX7_swap_50 : decode cX7_swap 50 = .ok (.iadd, 1) := by decide +kernel
theorem dX7_swap_51 : decode cX7_swap 51 = .ok (.ireturn, 1) := by decide +kernel
theorem dX7_swap_52 : decode cX7_swap 52 = .ok (.aload_n 0, 1) := by decide +kernel
theorem dX7_swap_53 : decode cX7_swap 53 = .ok (.aload_n 0, 1) := by decide +kernel
theorem dX7_swap_54 : decode cX7_swap 54 = .ok (.getfield 54, 3) := by decide +kernel
theorem dX7_swap_57 : decode cX7_swap 57 = .ok (.iload_n 1, 1) := by decide +kernel
theorem dX7_swap_58 : decode cX7_swap 58 = .ok (.aaload, 1) := by decide +kernel
theorem dX7_swap_59 : decode cX7_swap 59 = .ok (.aload_n 0, 1) := by decide +kernel
theorem dX7_swap_60 : decode cX7_swap 60 = .ok (.getfield 57, 3) := by decide +kernel
theorem dX7_swap_63 : decode cX7_swap 63 = .ok (.iload_n 1, 1) := by decide +kernel
theorem dX7_swap_64 : decode cX7_swap 64 = .ok (.iaload, 1) := by decide +kernel
theorem dX7_swap_65 : decode cX7_swap 65 = .ok (.invokevirtual 270, 3) := by decide +kernel
theorem dX7_swap_68 : decode cX7_swap 68 = .ok (.istore_n 3, 1) := by decide +kernel
theorem dX7_swap_69 : decode cX7_swap 69 = .ok (.iconst (-1), 1) := by decide +kernel
theorem dX7_swap_70 : decode cX7_swap 70 = .ok (.istore 4, 2) := by decide +kernel
theorem dX7_swap_72 : decode cX7_swap 72 = .ok (.iconst 0, 1) := by decide +kernel
theorem dX7_swap_73 : decode cX7_swap 73 = .ok (.istore 5, 2) := by decide +kernel
theorem dX7_swap_75 : decode cX7_swap 75 = .ok (.iconst 0, 1) := by decide +kernel
theorem dX7_swap_76 : decode cX7_swap 76 = .ok (.istore 6, 2) := by decide +kernel
theorem dX7_swap_78 : decode cX7_swap 78 = .ok (.iload 6, 2) := by decide +kernel
theorem dX7_swap_80 : decode cX7_swap 80 = .ok (.aload_n 0, 1) := by decide +kernel
theorem dX7_swap_81 : decode cX7_swap 81 = .ok (.getfield 57, 3) := by decide +kernel
theorem dX7_swap_84 : decode cX7_swap 84 = .ok (.iload_n 1, 1) := by decide +kernel
theorem dX7_swap_85 : decode cX7_swap 85 = .ok (.iaload, 1) := by decide +kernel
theorem dX7_swap_86 : decode cX7_swap 86 = .ok (.iconst 1, 1) := by decide +kernel
theorem dX7_swap_87 : decode cX7_swap 87 = .ok (.isub, 1) := by decide +kernel
theorem dX7_swap_88 : decode cX7_swap 88 = .ok (.if_icmp .ge 62, 3) := by decide +kernel
theorem dX7_swap_91 : decode cX7_swap 91 = .ok (.aload_n 0, 1) := by decide +kernel
theorem dX7_swap_92 : decode cX7_swap 92 = .ok (.iload_n 1, 1) := by decide +kernel
theorem dX7_swap_93 : decode cX7_swap 93 = .ok (.iload 6, 2) := by decide +kernel
theorem dX7_swap_95 : decode cX7_swap 95 = .ok (.invokevirtual 321, 3) := by decide +kernel
theorem dX7_swap_98 : decode cX7_swap 98 = .ok (.aload_n 0, 1) := by decide +kernel
theorem dX7_swap_99 : decode cX7_swap 99 = .ok (.aload_n 0, 1) := by decide +kernel
theorem dX7_swap_100 : decode cX7_swap 100 = .ok (.getfield 54, 3) := by decide +kernel
theorem dX7_swap_103 : decode cX7_swap 103 = .ok (.iload_n 1, 1) := by decide +kernel
theorem dX7_swap_104 : decode cX7_swap 104 = .ok (.aaload, 1) := by decide +kernel
theorem dX7_swap_105 : decode cX7_swap 105 = .ok (.aload_n 0, 1) := by decide +kernel
theorem dX7_swap_106 : decode cX7_swap 106 = .ok (.getfield 57, 3) := by decide +kernel
theorem dX7_swap_109 : decode cX7_swap 109 = .ok (.iload_n 1, 1) := by decide +kernel
theorem dX7_swap_110 : decode cX7_swap 110 = .ok (.iaload, 1) := by decide +kernel
theorem dX7_swap_111 : decode cX7_swap 111 = .ok (.invokevirtual 270, 3) := by decide +kernel
theorem dX7_swap_114 : decode cX7_swap 114 = .ok (.istore 7, 2) := by decide +kernel
theorem dX7_swap_116 : decode cX7_swap 116 = .ok (.aload_n 0, 1) := by decide +kernel
theorem dX7_swap_117 : decode cX7_swap 117 = .ok (.iload_n 1, 1) := by decide +kernel
theorem dX7_swap_118 : decode cX7_swap 118 = .ok (.iload 6, 2) := by decide +kernel
