theorem dX7_addOne_69 : decode cX7_addOne 69 = .ok (.aload_n 0, 1) := by decide +kernel
theorem dX7_addOne_70 : decode cX7_addOne 70 = .ok (.getfield 82, 3) := by decide +kernel
theorem dX7_addOne_73 : decode cX7_addOne 73 = .ok (.iastore, 1) := by decide +kernel
theorem dX7_addOne_74 : decode cX7_addOne 74 = .ok (.aload_n 0, 1) := by decide +kernel
theorem dX7_addOne_75 : decode cX7_addOne 75 = .ok (.dup, 1) := by decide +kernel
theorem dX7_addOne_76 : decode cX7_addOne 76 = .ok (.getfield 82, 3) := by decide +kernel
theorem dX7_addOne_79 : decode cX7_addOne 79 = .ok (.iconst 1, 1) := by decide +kernel
theorem dX7_addOne_80 : decode cX7_addOne 80 = .ok (.iadd, 1) := by decide +kernel
theorem dX7_addOne_81 : decode cX7_addOne 81 = .ok (.putfield 82, 3) := by decide +kernel
theorem dX7_addOne_84 : decode cX7_addOne 84 = .ok (.return_, 1) := by decide +kernel
theorem dX7_one_0 : decode cX7_one 0 = .ok (.iload_n 1, 1) := by decide +kernel
theorem dX7_one_1 : decode cX7_one 1 = .ok (.i2l, 1) := by decide +kernel
theorem dX7_one_2 : decode cX7_one 2 = .ok (.lconst 0, 1) := by decide +kernel
theorem dX7_one_3 : decode cX7_one 3 = .ok (.lconst 1, 1) := by decide +kernel
theorem dX7_one_4 : decode cX7_one 4 = .ok (.invokestatic 85, 3) := by decide +kernel
theorem dX7_one_7 : decode cX7_one 7 = .ok (.ifCond .eq 53, 3) := by decide +kernel
theorem dX7_one_10 : decode cX7_one 10 = .ok (.iload_n 2, 1) := by decide +kernel
theorem dX7_one_11 : decode cX7_one 11 = .ok (.i2l, 1) := by decide +kernel
theorem dX7_one_12 : decode cX7_one 12 = .ok (.lconst 0, 1) := by decide +kernel
theorem dX7_one_13 : decode cX7_one 13 = .ok (.ldc2_w 113, 3) := by decide +kernel
theorem dX7_one_16 : decode cX7_one 16 = .ok (.invokestatic 85, 3) := by decide +kernel
theorem dX7_one_19 : decode cX7_one 19 = .ok (.ifCond .eq 41, 3) := by decide +kernel
theorem dX7_one_22 : decode cX7_one 22 = .ok (.iload_n 3, 1) := by decide +kernel
theorem dX7_one_23 : decode cX7_one 23 = .ok (.i2l, 1) := by decide +kernel
theorem dX7_one_24 : decode cX7_one 24 = .ok (.lconst 0, 1) := by decide +kernel
theorem dX7_one_25 : decode cX7_one 25 = .ok (.ldc2_w 129, 3) := by decide +kernel
theorem dX7_one_28 : decode cX7_one 28 = .ok (.invokestatic 85, 3) := by decide +kernel
theorem dX7_one_31 : decode cX7_one 31 = .ok (.ifCond .eq 29, 3) := by decide +kernel
theorem dX7_one_34 : decode cX7_one 34 = .ok (.iload 4, 2) := by decide +kernel
theorem dX7_one_36 : decode cX7_one 36 = .ok (.i2l, 1) := by decide +kernel
theorem dX7_one_37 : decode cX7_one 37 = .ok (.lconst 0, 1) := by decide +kernel
theorem dX7_one_38 : decode cX7_one 38 = .ok (.ldc2_w 129, 3) := by decide +kernel
theorem dX7_one_41 : decode cX7_one 41 = .ok (.invokestatic 85, 3) := by decide +kernel
theorem dX7_one_44 : decode cX7_one 44 = .ok (.ifCond .eq 16, 3) := by decide +kernel
theorem dX7_one_47 : decode cX7_one 47 = .ok (.iload 5, 2) := by decide +kernel
theorem dX7_one_49 : decode cX7_one 49 = .ok (.i2l, 1) := by decide +kernel
theorem dX7_one_50 : decode cX7_one 50 = .ok (.lconst 0, 1) := by decide +kernel
theorem dX7_one_51 : decode cX7_one 51 = .ok (.ldc2_w 131, 3) := by decide +kernel
theorem dX7_one_54 : decode cX7_one 54 = .ok (.invokestatic 85, 3) := by decide +kernel
theorem dX7_one_57 : decode cX7_one 57 = .ok (.ifCond .ne 10, 3) := by decide +kernel
theorem dX7_one_60 : decode cX7_one 60 = .ok (.aload_n 0, 1) := by decide +kernel
theorem dX7_one_61 : decode cX7_one 61 = .ok (.bipush (-2), 2) := by decide +kernel
theorem dX7_one_63 : decode cX7_one 63 = .ok (.invokevirtual 99, 3) := by decide +kernel
theorem dX7_one_66 : decode cX7_one 66 = .ok (.ireturn, 1) := by decide +kernel
theorem dX7_one_67 : decode cX7_one 67 = .ok (.aload_n 0, 1) := by decide +kernel
theorem dX7_one_68 : decode cX7_one 68 = .ok (.getfield 82, 3) := by decide +kernel
theorem dX7_one_71 : decode cX7_one 71 = .ok (.bipush 8, 2) := by decide +kernel
theorem dX7_one_73 : decode cX7_one 73 = .ok (.if_icmp .ne 10, 3) := by decide +kernel
theorem dX7_one_76 : decode cX7_one 76 = .ok (.aload_n 0, 1) := by decide +kernel
theorem dX7_one_77 : decode cX7_one 77 = .ok (.bipush (-6), 2) := by decide +kernel
theorem dX7_one_79 : decode cX7_one 79 = .ok (.invokevirtual 99, 3) := by decide +kernel
theorem dX7_one_82 : decode cX7_one 82 = .ok (.ireturn, 1) := by decide +kernel
theorem dX7_one_83 : decode cX7_one 83 = .ok (.aload_n 0, 1) := by decide +kernel
theorem dX7_one_84 : decode cX7_one 84 = .ok (.iload_n 1, 1) := by decide +kernel
theorem dX7_one_85 : decode cX7_one 85 = .ok (.iload_n 2, 1) := by decide +kernel
theorem dX7_one_86 : decode cX7_one 86 = .ok (.iload_n 3, 1) := by decide +kernel
theorem dX7_one_87 : decode cX7_one 87 = .ok (.iload 4, 2) := by decide +kernel
theorem dX7_one_89 : decode cX7_one 89 = .ok (.iload 5, 2) := by decide +kernel
theorem dX7_one_91 : decode cX7_one 91 = .ok (.invokevirtual 133, 3) := by decide +kernel
theorem dX7_one_94 : decode cX7_one 94 = .ok (.aload_n 0, 1) := by decide +kernel
theorem dX7_one_95 : decode cX7_one 95 = .ok (.getfield 82, 3) := by decide +kernel
theorem dX7_one_98 : decode cX7_one 98 = .ok (.iconst 1, 1) := by decide +kernel
theorem dX7_one_99 : decode cX7_one 99 = .ok (.isub, 1) := by decide +kernel
theorem dX7_one_100 : decode cX7_one 100 = .ok (.ireturn, 1) := by decide +kernel
theorem dX7_tell_0 : decode cX7_tell 0 = .ok (.aload_n 0, 1) := by decide +kernel
theorem dX7_tell_1 : decode cX7_tell 1 = .ok (.iload_n 1, 1) := by decide +kernel
theorem dX7_tell_2 : decode cX7_tell 2 = .ok (.invokevirtual 109, 3) := by decide +kernel
theorem dX7_tell_5 : decode cX7_tell 5 = .ok (.ifCond .eq 27, 3) := by decide +kernel
theorem dX7_tell_8 : decode cX7_tell 8 = .ok (.iload_n 2, 1) := by decide +kernel
theorem dX7_tell_9 : decode cX7_tell 9 = .ok (.i2l, 1) := by decide +kernel
theorem dX7_tell_10 : decode cX7_tell 10 = .ok (.lconst 0, 1) := by decide +kernel
theorem dX7_tell_11 : decode cX7_tell 11 = .ok (.ldc2_w 137, 3) := by decide +kernel
theorem dX7_tell_14 : decode cX7_tell 14 = .ok (.invokestatic 85, 3) := by decide +kernel
theorem dX7_tell_17 : decode cX7_tell 17 = .ok (.ifCond .eq 15, 3) := by decide +kernel
theorem dX7_tell_20 : decode cX7_tell 20 = .ok (.iload_n 3, 1) := by decide +kernel
theorem dX7_tell_21 : decode cX7_tell 21 = .ok (.i2l, 1) := by decide +kernel
theorem dX7_tell_22 : decode cX7_tell 22 = .ok (.lconst 0, 1) := by decide +kernel
theorem dX7_tell_23 : decode cX7_tell 23 = .ok (.ldc2_w 129, 3) := by decide +kernel
theorem dX7_tell_26 : decode cX7_tell 26 = .ok (.invokestatic 85, 3) := by decide +kernel
theorem dX7_tell_29 : decode cX7_tell 29 = .ok (.ifCond .ne 10, 3) := by decide +kernel
theorem dX7_tell_32 : decode cX7_tell 32 = .ok (.aload_n 0, 1) := by decide +kernel
theorem dX7_tell_33 : decode cX7_tell 33 = .ok (.bipush (-2), 2) := by decide +kernel
theorem dX7_tell_35 : decode cX7_tell 35 = .ok (.invokevirtual 99, 3) := by decide +kernel
theorem dX7_tell_38 : decode cX7_tell 38 = .ok (.ireturn, 1) := by decide +kernel
theorem dX7_tell_39 : decode cX7_tell 39 = .ok (.iload_n 2, 1) := by decide +kernel
theorem dX7_tell_40 : decode cX7_tell 40 = .ok (.ifCond .ne 10, 3) := by decide +kernel
theorem dX7_tell_43 : decode cX7_tell 43 = .ok (.aload_n 0, 1) := by decide +kernel
theorem dX7_tell_44 : decode cX7_tell 44 = .ok (.getfield 40, 3) := by decide +kernel
theorem dX7_tell_47 : decode cX7_tell 47 = .ok (.goto 19, 3) := by decide +kernel
theorem dX7_tell_50 : decode cX7_tell 50 = .ok (.iload_n 2, 1) := by decide +kernel
theorem dX7_tell_51 : decode cX7_tell 51 = .ok (.iconst 1, 1) := by decide +kernel
theorem dX7_tell_52 : decode cX7_tell 52 = .ok (.if_icmp .ne 10, 3) := by decide +kernel
theorem dX7_tell_55 : decode cX7_tell 55 = .ok (.aload_n 0, 1) := by decide +kernel
theorem dX7_tell_56 : decode cX7_tell 56 = .ok (.getfield 43, 3) := by decide +kernel
theorem dX7_tell_59 : decode cX7_tell 59 = .ok (.goto 7, 3) := by decide +kernel
theorem dX7_tell_62 : decode cX7_tell 62 = .ok (.aload_n 0, 1) := by decide +kernel
theorem dX7_tell_63 : decode cX7_tell 63 = .ok (.getfield 46, 3) := by decide +kernel
theorem dX7_tell_66 : decode cX7_tell 66 = .ok (.astore 4, 2) := by decide +kernel
theorem dX7_tell_68 : decode cX7_tell 68 = .ok (.aload 4, 2) := by decide +kernel
theorem dX7_tell_70 : decode cX7_tell 70 = .ok (.iload_n 1, 1) := by decide +kernel
theorem dX7_tell_71 : decode cX7_tell 71 = .ok (.iaload, 1) := by decide +kernel
theorem dX7_tell_72 : decode cX7_tell 72 = .ok (.istore 5, 2) := by decide +kernel
theorem dX7_tell_74 : decode cX7_tell 74 = .ok (.aload 4, 2) := by decide +kernel
theorem dX7_tell_76 : decode cX7_tell 76 = .ok (.iload_n 1, 1) := by decide +kernel
theorem dX7_tell_77 : decode cX7_tell 77 = .ok (.iload_n 3, 1) := by decide +kernel
theorem dX7_tell_78 : decode cX7_tell 78 = .ok (.iastore, 1) := by decide +kernel
theorem dX7_tell_79 : decode cX7_tell 79 = .ok (.iload 5, 2) := by decide +kernel
theorem dX7_tell_81 : decode cX7_tell 81 = .ok (.ireturn, 1) := by decide +kernel
theorem dX7_mayAsk_0 : decode cX7_mayAsk 0 = .ok (.iload_n 0, 1) := by decide +kernel
theorem dX7_mayAsk_1 : decode cX7_mayAsk 1 = .ok (.tableswitch 63 0 4 #[35, 45, 55, 63, 55], 35) := by decide +kernel
theorem dX7_mayAsk_36 : decode cX7_mayAsk 36 = .ok (.iload_n 1, 1) := by decide +kernel
theorem dX7_mayAsk_37 : decode cX7_mayAsk 37 = .ok (.i2l, 1) := by decide +kernel
theorem dX7_mayAsk_38 : decode cX7_mayAsk 38 = .ok (.lconst 0, 1) := by decide +kernel
theorem dX7_mayAsk_39 : decode cX7_mayAsk 39 = .ok (.ldc2_w 139, 3) := by decide +kernel
theorem dX7_mayAsk_42 : decode cX7_mayAsk 42 = .ok (.invokestatic 85, 3) := by decide +kernel
theorem dX7_mayAsk_45 : decode cX7_mayAsk 45 = .ok (.ireturn, 1) := by decide +kernel
theorem dX7_mayAsk_46 : decode cX7_mayAsk 46 = .ok (.iload_n 1, 1) := by decide +kernel
theorem dX7_mayAsk_47 : decode cX7_mayAsk 47 = .ok (.i2l, 1) := by decide +kernel
theorem dX7_mayAsk_48 : decode cX7_mayAsk 48 = .ok (.lconst 1, 1) := by decide +kernel
theorem dX7_mayAsk_49 : decode cX7_mayAsk 49 = .ok (.ldc2_w 141, 3) := by decide +kernel
theorem dX7_mayAsk_52 : decode cX7_mayAsk 52 = .ok (.invokestatic 85, 3) := by decide +kernel
theorem dX7_mayAsk_55 : decode cX7_mayAsk 55 = .ok (.ireturn, 1) := by decide +kernel
theorem dX7_mayAsk_56 : decode cX7_mayAsk 56 = .ok (.iload_n 1, 1) := by decide +kernel
theorem dX7_mayAsk_57 : decode cX7_mayAsk 57 = .ok (.i2l, 1) := by decide +kernel
theorem dX7_mayAsk_58 : decode cX7_mayAsk 58 = .ok (.lconst 0, 1) := by decide +kernel
theorem dX7_mayAsk_59 : decode cX7_mayAsk 59 = .ok (.lconst 1, 1) := by decide +kernel
theorem dX7_mayAsk_60 : decode cX7_mayAsk 60 = .ok (.invokestatic 85, 3) := by decide +kernel
theorem dX7_mayAsk_63 : decode cX7_mayAsk 63 = .ok (.ireturn, 1) := by decide +kernel
theorem dX7_mayAsk_64 : decode cX7_mayAsk 64 = .ok (.iload_n 0, 1) := by decide +kernel
theorem dX7_mayAsk_65 : decode cX7_mayAsk 65 = .ok (.iconst 3, 1) := by decide +kernel
theorem dX7_mayAsk_66 : decode cX7_mayAsk 66 = .ok (.if_icmp .ne 19, 3) := by decide +kernel
theorem dX7_mayAsk_69 : decode cX7_mayAsk 69 = .ok (.iload_n 1, 1) := by decide +kernel
theorem dX7_mayAsk_70 : decode cX7_mayAsk 70 = .ok (.i2l, 1) := by decide +kernel
theorem dX7_mayAsk_71 : decode cX7_mayAsk 71 = .ok (.lconst 1, 1) := by decide +kernel
theorem dX7_mayAsk_72 : decode cX7_mayAsk 72 = .ok (.ldc2_w 143, 3) := by decide +kernel
theorem dX7_mayAsk_75 : decode cX7_mayAsk 75 = .ok (.invokestatic 85, 3) := by decide +kernel
theorem dX7_mayAsk_78 : decode cX7_mayAsk 78 = .ok (.ifCond .eq 7, 3) := by decide +kernel
theorem dX7_mayAsk_81 : decode cX7_mayAsk 81 = .ok (.iconst 1, 1) := by decide +kernel
theorem dX7_mayAsk_82 : decode cX7_mayAsk 82 = .ok (.goto 4, 3) := by decide +kernel
theorem dX7_mayAsk_85 : decode cX7_mayAsk 85 = .ok (.iconst 0, 1) := by decide +kernel
theorem dX7_mayAsk_86 : decode cX7_mayAsk 86 = .ok (.ireturn, 1) := by decide +kernel
theorem dX7_asked_0 : decode cX7_asked 0 = .ok (.iload_n 1, 1) := by decide +kernel
theorem dX7_asked_1 : decode cX7_asked 1 = .ok (.ifCond .ne 10, 3) := by decide +kernel
theorem dX7_asked_4 : decode cX7_asked 4 = .ok (.aload_n 0, 1) := by decide +kernel
theorem dX7_asked_5 : decode cX7_asked 5 = .ok (.getfield 60, 3) := by decide +kernel
theorem dX7_asked_8 : decode cX7_asked 8 = .ok (.goto 43, 3) := by decide +kernel
theorem dX7_asked_11 : decode cX7_asked 11 = .ok (.iload_n 1, 1) := by decide +kernel
theorem dX7_asked_12 : decode cX7_asked 12 = .ok (.iconst 1, 1) := by decide +kernel
theorem dX7_asked_13 : decode cX7_asked 13 = .ok (.if_icmp .ne 10, 3) := by decide +kernel
theorem dX7_asked_16 : decode cX7_asked 16 = .ok (.aload_n 0, 1) := by decide +kernel
theorem dX7_asked_17 : decode cX7_asked 17 = .ok (.getfield 64, 3) := by decide +kernel
theorem dX7_asked_20 : decode cX7_asked 20 = .ok (.goto 31, 3) := by decide +kernel
theorem dX7_asked_23 : decode cX7_asked 23 = .ok (.iload_n 1, 1) := by decide +kernel
theorem dX7_asked_24 : decode cX7_asked 24 = .ok (.iconst 2, 1) := by decide +kernel
theorem dX7_asked_25 : decode cX7_asked 25 = .ok (.if_icmp .ne 10, 3) := by decide +kernel
theorem dX7_asked_28 : decode cX7_asked 28 = .ok (.aload_n 0, 1) := by decide +kernel
theorem dX7_asked_29 : decode cX7_asked 29 = .ok (.getfield 145, 3) := by decide +kernel
theorem dX7_asked_32 : decode cX7_asked 32 = .ok (.goto 19, 3) := by decide +kernel
theorem dX7_asked_35 : decode cX7_asked 35 = .ok (.iload_n 1, 1) := by decide +kernel
theorem dX7_asked_36 : decode cX7_asked 36 = .ok (.iconst 3, 1) := by decide +kernel
theorem dX7_asked_37 : decode cX7_asked 37 = .ok (.if_icmp .ne 10, 3) := by decide +kernel
theorem dX7_asked_40 : decode cX7_asked 40 = .ok (.aload_n 0, 1) := by decide +kernel
theorem dX7_asked_41 : decode cX7_asked 41 = .ok (.getfield 67, 3) := by decide +kernel
theorem dX7_asked_44 : decode cX7_asked 44 = .ok (.goto 7, 3) := by decide +kernel
theorem dX7_asked_47 : decode cX7_asked 47 = .ok (.aload_n 0, 1) := by decide +kernel
theorem dX7_asked_48 : decode cX7_asked 48 = .ok (.getfield 148, 3) := by decide +kernel
theorem dX7_asked_51 : decode cX7_asked 51 = .ok (.ireturn, 1) := by decide +kernel
theorem dX7_becomes_0 : decode cX7_becomes 0 = .ok (.aload_n 0, 1) := by decide +kernel
theorem dX7_becomes_1 : decode cX7_becomes 1 = .ok (.iload_n 1, 1) := by decide +kernel
theorem dX7_becomes_2 : decode cX7_becomes 2 = .ok (.ifCond .ne 7, 3) := by decide +kernel
theorem dX7_becomes_5 : decode cX7_becomes 5 = .ok (.iload_n 2, 1) := by decide +kernel
theorem dX7_becomes_6 : decode cX7_becomes 6 = .ok (.goto 7, 3) := by decide +kernel
theorem dX7_becomes_9 : decode cX7_becomes 9 = .ok (.aload_n 0, 1) := by decide +kernel
theorem dX7_becomes_10 : decode cX7_becomes 10 = .ok (.getfield 60, 3) := by decide +kernel
theorem dX7_becomes_13 : decode cX7_becomes 13 = .ok (.putfield 60, 3) := by decide +kernel
theorem dX7_becomes_16 : decode cX7_becomes 16 = .ok (.aload_n 0, 1) := by decide +kernel
theorem dX7_becomes_17 : decode cX7_becomes 17 = .ok (.iload_n 1, 1) := by decide +kernel
theorem dX7_becomes_18 : decode cX7_becomes 18 = .ok (.iconst 1, 1) := by decide +kernel
theorem dX7_becomes_19 : decode cX7_becomes 19 = .ok (.if_icmp .ne 7, 3) := by decide +kernel
theorem dX7_becomes_22 : decode cX7_becomes 22 = .ok (.iload_n 2, 1) := by decide +kernel
theorem dX7_becomes_23 : decode cX7_becomes 23 = .ok (.goto 7, 3) := by decide +kernel
theorem dX7_becomes_26 : decode cX7_becomes 26 = .ok (.aload_n 0, 1) := by decide +kernel
theorem dX7_becomes_27 : decode cX7_becomes 27 = .ok (.getfield 64, 3) := by decide +kernel
theorem dX7_becomes_30 : decode cX7_becomes 30 = .ok (.putfield 64, 3) := by decide +kernel
theorem dX7_becomes_33 : decode cX7_becomes 33 = .ok (.aload_n 0, 1) := by decide +kernel
theorem dX7_becomes_34 : decode cX7_becomes 34 = .ok (.iload_n 1, 1) := by decide +kernel
theorem dX7_becomes_35 : decode cX7_becomes 35 = .ok (.iconst 2, 1) := by decide +kernel
theorem dX7_becomes_36 : decode cX7_becomes 36 = .ok (.if_icmp .ne 7, 3) := by decide +kernel
theorem dX7_becomes_39 : decode cX7_becomes 39 = .ok (.iload_n 2, 1) := by decide +kernel
theorem dX7_becomes_40 : decode cX7_becomes 40 = .ok (.goto 7, 3) := by decide +kernel
theorem dX7_becomes_43 : decode cX7_becomes 43 = .ok (.aload_n 0, 1) := by decide +kernel
theorem dX7_becomes_44 : decode cX7_becomes 44 = .ok (.getfield 145, 3) := by decide +kernel
theorem dX7_becomes_47 : decode cX7_becomes 47 = .ok (.putfield 145, 3) := by decide +kernel
theorem dX7_becomes_50 : decode cX7_becomes 50 = .ok (.aload_n 0, 1) := by decide +kernel
theorem dX7_becomes_51 : decode cX7_becomes 51 = .ok (.iload_n 1, 1) := by decide +kernel
theorem dX7_becomes_52 : decode cX7_becomes 52 = .ok (.iconst 3, 1) := by decide +kernel
theorem dX7_becomes_53 : decode cX7_becomes 53 = .ok (.if_icmp .ne 7, 3) := by decide +kernel
theorem dX7_becomes_56 : decode cX7_becomes 56 = .ok (.iload_n 2, 1) := by decide +kernel
theorem dX7_becomes_57 : decode cX7_becomes 57 = .ok (.goto 7, 3) := by decide +kernel
theorem dX7_becomes_60 : decode cX7_becomes 60 = .ok (.aload_n 0, 1) := by decide +kernel
theorem dX7_becomes_61 : decode cX7_becomes 61 = .ok (.getfield 67, 3) := by decide +kernel
theorem dX7_becomes_64 : decode cX7_becomes 64 = .ok (.putfield 67, 3) := by decide +kernel
theorem dX7_becomes_67 : decode cX7_becomes 67 = .ok (.aload_n 0, 1) := by decide +kernel
theorem dX7_becomes_68 : decode cX7_becomes 68 = .ok (.iload_n 1, 1) := by decide +kernel
theorem dX7_becomes_69 : decode cX7_becomes 69 = .ok (.iconst 4, 1) := by decide +kernel
theorem dX7_becomes_70 : decode cX7_becomes 70 = .ok (.if_icmp .ne 7, 3) := by decide +kernel
theorem dX7_becomes_73 : decode cX7_becomes 73 = .ok (.iload_n 2, 1) := by decide +kernel
theorem dX7_becomes_74 : decode cX7_becomes 74 = .ok (.goto 7, 3) := by decide +kernel
theorem dX7_becomes_77 : decode cX7_becomes 77 = .ok (.aload_n 0, 1) := by decide +kernel
theorem dX7_becomes_78 : decode cX7_becomes 78 = .ok (.getfield 148, 3) := by decide +kernel
theorem dX7_becomes_81 : decode cX7_becomes 81 = .ok (.putfield 148, 3) := by decide +kernel
theorem dX7_becomes_84 : decode cX7_becomes 84 = .ok (.return_, 1) := by decide +kernel
theorem dX7_ask_0 : decode cX7_ask 0 = .ok (.iload_n 1, 1) := by decide +kernel
theorem dX7_ask_1 : decode cX7_ask 1 = .ok (.iload_n 2, 1) := by decide +kernel
theorem dX7_ask_2 : decode cX7_ask 2 = .ok (.invokestatic 151, 3) := by decide +kernel
theorem dX7_ask_5 : decode cX7_ask 5 = .ok (.ifCond .ne 10, 3) := by decide +kernel
theorem dX7_ask_8 : decode cX7_ask 8 = .ok (.aload_n 0, 1) := by decide +kernel
theorem dX7_ask_9 : decode cX7_ask 9 = .ok (.bipush (-2), 2) := by decide +kernel
theorem dX7_ask_11 : decode cX7_ask 11 = .ok (.invokevirtual 99, 3) := by decide +kernel
theorem dX7_ask_14 : decode cX7_ask 14 = .ok (.ireturn, 1) := by decide +kernel
theorem dX7_ask_15 : decode cX7_ask 15 = .ok (.aload_n 0, 1) := by decide +kernel
theorem dX7_ask_16 : decode cX7_ask 16 = .ok (.iload_n 1, 1) := by decide +kernel
theorem dX7_ask_17 : decode cX7_ask 17 = .ok (.invokevirtual 154, 3) := by decide +kernel
theorem dX7_ask_20 : decode cX7_ask 20 = .ok (.istore_n 3, 1) := by decide +kernel
theorem dX7_ask_21 : decode cX7_ask 21 = .ok (.aload_n 0, 1) := by decide +kernel
theorem dX7_ask_22 : decode cX7_ask 22 = .ok (.iload_n 1, 1) := by decide +kernel
theorem dX7_ask_23 : decode cX7_ask 23 = .ok (.iload_n 2, 1) := by decide +kernel
theorem dX7_ask_24 : decode cX7_ask 24 = .ok (.invokevirtual 157, 3) := by decide +kernel
theorem dX7_ask_27 : decode cX7_ask 27 = .ok (.iload_n 3, 1) := by decide +kernel
theorem dX7_ask_28 : decode cX7_ask 28 = .ok (.ireturn, 1) := by decide +kernel
theorem dX7_feed_0 : decode cX7_feed 0 = .ok (.iload_n 1, 1) := by decide +kernel
theorem dX7_feed_1 : decode cX7_feed 1 = .ok (.i2l, 1) := by decide +kernel
theorem dX7_feed_2 : decode cX7_feed 2 = .ok (.lconst 0, 1) := by decide +kernel
theorem dX7_feed_3 : decode cX7_feed 3 = .ok (.ldc2_w 161, 3) := by decide +kernel
theorem dX7_feed_6 : decode cX7_feed 6 = .ok (.invokestatic 85, 3) := by decide +kernel
theorem dX7_feed_9 : decode cX7_feed 9 = .ok (.ifCond .ne 10, 3) := by decide +kernel
theorem dX7_feed_12 : decode cX7_feed 12 = .ok (.aload_n 0, 1) := by decide +kernel
theorem dX7_feed_13 : decode cX7_feed 13 = .ok (.bipush (-2), 2) := by decide +kernel
theorem dX7_feed_15 : decode cX7_feed 15 = .ok (.invokevirtual 99, 3) := by decide +kernel
theorem dX7_feed_18 : decode cX7_feed 18 = .ok (.ireturn, 1) := by decide +kernel
theorem dX7_feed_19 : decode cX7_feed 19 = .ok (.aload_n 0, 1) := by decide +kernel
theorem dX7_feed_20 : decode cX7_feed 20 = .ok (.getfield 163, 3) := by decide +kernel
theorem dX7_feed_23 : decode cX7_feed 23 = .ok (.sipush 250, 3) := by decide +kernel
theorem dX7_feed_26 : decode cX7_feed 26 = .ok (.if_icmp .ne 10, 3) := by decide +kernel
theorem dX7_feed_29 : decode cX7_feed 29 = .ok (.aload_n 0, 1) := by decide +kernel
theorem dX7_feed_30 : decode cX7_feed 30 = .ok (.bipush (-6), 2) := by decide +kernel
theorem dX7_feed_32 : decode cX7_feed 32 = .ok (.invokevirtual 99, 3) := by decide +kernel
theorem dX7_feed_35 : decode cX7_feed 35 = .ok (.ireturn, 1) := by decide +kernel
theorem dX7_feed_36 : decode cX7_feed 36 = .ok (.aload_n 0, 1) := by decide +kernel
theorem dX7_feed_37 : decode cX7_feed 37 = .ok (.getfield 31, 3) := by decide +kernel
theorem dX7_feed_40 : decode cX7_feed 40 = .ok (.aload_n 0, 1) := by decide +kernel
theorem dX7_feed_41 : decode cX7_feed 41 = .ok (.dup, 1) := by decide +kernel
theorem dX7_feed_42 : decode cX7_feed 42 = .ok (.getfield 163, 3) := by decide +kernel
theorem dX7_feed_45 : decode cX7_feed 45 = .ok (.dup_x1, 1) := by decide +kernel
theorem dX7_feed_46 : decode cX7_feed 46 = .ok (.iconst 1, 1) := by decide +kernel
theorem dX7_feed_47 : decode cX7_feed 47 = .ok (.iadd, 1) := by decide +kernel
theorem dX7_feed_48 : decode cX7_feed 48 = .ok (.putfield 163, 3) := by decide +kernel
theorem dX7_feed_51 : decode cX7_feed 51 = .ok (.iload_n 1, 1) := by decide +kernel
theorem dX7_feed_52 : decode cX7_feed 52 = .ok (.iastore, 1) := by decide +kernel
theorem dX7_feed_53 : decode cX7_feed 53 = .ok (.aload_n 0, 1) := by decide +kernel
theorem dX7_feed_54 : decode cX7_feed 54 = .ok (.getfield 163, 3) := by decide +kernel
theorem dX7_feed_57 : decode cX7_feed 57 = .ok (.ireturn, 1) := by decide +kernel
theorem dX7_wipe_0 : decode cX7_wipe 0 = .ok (.aload_n 0, 1) := by decide +kernel
theorem dX7_wipe_1 : decode cX7_wipe 1 = .ok (.getfield 163, 3) := by decide +kernel
theorem dX7_wipe_4 : decode cX7_wipe 4 = .ok (.istore_n 1, 1) := by decide +kernel
theorem dX7_wipe_5 : decode cX7_wipe 5 = .ok (.aload_n 0, 1) := by decide +kernel
theorem dX7_wipe_6 : decode cX7_wipe 6 = .ok (.iconst 0, 1) := by decide +kernel
theorem dX7_wipe_7 : decode cX7_wipe 7 = .ok (.putfield 163, 3) := by decide +kernel
theorem dX7_wipe_10 : decode cX7_wipe 10 = .ok (.iload_n 1, 1) := by decide +kernel
theorem dX7_wipe_11 : decode cX7_wipe 11 = .ok (.ireturn, 1) := by decide +kernel
theorem dX7_isLetter_0 : decode cX7_isLetter 0 = .ok (.iload_n 0, 1) := by decide +kernel
theorem dX7_isLetter_1 : decode cX7_isLetter 1 = .ok (.bipush 97, 2) := by decide +kernel
theorem dX7_isLetter_3 : decode cX7_isLetter 3 = .ok (.if_icmp .lt 13, 3) := by decide +kernel
theorem dX7_isLetter_6 : decode cX7_isLetter 6 = .ok (.iload_n 0, 1) := by decide +kernel
theorem dX7_isLetter_7 : decode cX7_isLetter 7 = .ok (.bipush 122, 2) := by decide +kernel
theorem dX7_isLetter_9 : decode cX7_isLetter 9 = .ok (.if_icmp .gt 7, 3) := by decide +kernel
theorem dX7_isLetter_12 : decode cX7_isLetter 12 = .ok (.iconst 1, 1) := by decide +kernel
theorem dX7_isLetter_13 : decode cX7_isLetter 13 = .ok (.goto 4, 3) := by decide +kernel
theorem dX7_isLetter_16 : decode cX7_isLetter 16 = .ok (.iconst 0, 1) := by decide +kernel
theorem dX7_isLetter_17 : decode cX7_isLetter 17 = .ok (.ireturn, 1) := by decide +kernel
theorem dX7_isDigit_0 : decode cX7_isDigit 0 = .ok (.iload_n 0, 1) := by decide +kernel
theorem dX7_isDigit_1 : decode cX7_isDigit 1 = .ok (.bipush 48, 2) := by decide +kernel
theorem dX7_isDigit_3 : decode cX7_isDigit 3 = .ok (.if_icmp .lt 13, 3) := by decide +kernel
theorem dX7_isDigit_6 : decode cX7_isDigit 6 = .ok (.iload_n 0, 1) := by decide +kernel
theorem dX7_isDigit_7 : decode cX7_isDigit 7 = .ok (.bipush 57, 2) := by decide +kernel
theorem dX7_isDigit_9 : decode cX7_isDigit 9 = .ok (.if_icmp .gt 7, 3) := by decide +kernel
theorem dX7_isDigit_12 : decode cX7_isDigit 12 = .ok (.iconst 1, 1) := by decide +kernel
theorem dX7_isDigit_13 : decode cX7_isDigit 13 = .ok (.goto 4, 3) := by decide +kernel
theorem dX7_isDigit_16 : decode cX7_isDigit 16 = .ok (.iconst 0, 1) := by decide +kernel
theorem dX7_isDigit_17 : decode cX7_isDigit 17 = .ok (.ireturn, 1) := by decide +kernel
theorem dX7_look_0 : decode cX7_look 0 = .ok (.aload_n 0, 1) := by decide +kernel
theorem dX7_look_1 : decode cX7_look 1 = .ok (.getfield 166, 3) := by decide +kernel
theorem dX7_look_4 : decode cX7_look 4 = .ok (.aload_n 0, 1) := by decide +kernel
theorem dX7_look_5 : decode cX7_look 5 = .ok (.getfield 163, 3) := by decide +kernel
theorem dX7_look_8 : decode cX7_look 8 = .ok (.if_icmp .ge 30, 3) := by decide +kernel
theorem dX7_look_11 : decode cX7_look 11 = .ok (.aload_n 0, 1) := by decide +kernel
theorem dX7_look_12 : decode cX7_look 12 = .ok (.getfield 31, 3) := by decide +kernel
theorem dX7_look_15 : decode cX7_look 15 = .ok (.aload_n 0, 1) := by decide +kernel
theorem dX7_look_16 : decode cX7_look 16 = .ok (.getfield 166, 3) := by decide +kernel
theorem dX7_look_19 : decode cX7_look 19 = .ok (.iaload, 1) := by decide +kernel
theorem dX7_look_20 : decode cX7_look 20 = .ok (.bipush 32, 2) := by decide +kernel
theorem dX7_look_22 : decode cX7_look 22 = .ok (.if_icmp .ne 16, 3) := by decide +kernel
theorem dX7_look_25 : decode cX7_look 25 = .ok (.aload_n 0, 1) := by decide +kernel
theorem dX7_look_26 : decode cX7_look 26 = .ok (.dup, 1) := by decide +kernel
theorem dX7_look_27 : decode cX7_look 27 = .ok (.getfield 166, 3) := by decide +kernel
theorem dX7_look_30 : decode cX7_look 30 = .ok (.iconst 1, 1) := by decide +kernel
theorem dX7_look_31 : decode cX7_look 31 = .ok (.iadd, 1) := by decide +kernel
theorem dX7_look_32 : decode cX7_look 32 = .ok (.putfield 166, 3) := by decide +kernel
theorem dX7_look_35 : decode cX7_look 35 = .ok (.goto (-35), 3) := by decide +kernel
theorem dX7_look_38 : decode cX7_look 38 = .ok (.aload_n 0, 1) := by decide +kernel
theorem dX7_look_39 : decode cX7_look 39 = .ok (.aload_n 0, 1) := by decide +kernel
theorem dX7_look_40 : decode cX7_look 40 = .ok (.getfield 166, 3) := by decide +kernel
theorem dX7_look_43 : decode cX7_look 43 = .ok (.putfield 169, 3) := by decide +kernel
theorem dX7_look_46 : decode cX7_look 46 = .ok (.aload_n 0, 1) := by decide +kernel
theorem dX7_look_47 : decode cX7_look 47 = .ok (.iconst 0, 1) := by decide +kernel
theorem dX7_look_48 : decode cX7_look 48 = .ok (.putfield 172, 3) := by decide +kernel
theorem dX7_look_51 : decode cX7_look 51 = .ok (.aload_n 0, 1) := by decide +kernel
theorem dX7_look_52 : decode cX7_look 52 = .ok (.getfield 166, 3) := by decide +kernel
theorem dX7_look_55 : decode cX7_look 55 = .ok (.aload_n 0, 1) := by decide +kernel
theorem dX7_look_56 : decode cX7_look 56 = .ok (.getfield 163, 3) := by decide +kernel
theorem dX7_look_59 : decode cX7_look 59 = .ok (.if_icmp .ne 11, 3) := by decide +kernel
theorem dX7_look_62 : decode cX7_look 62 = .ok (.aload_n 0, 1) := by decide +kernel
theorem dX7_look_63 : decode cX7_look 63 = .ok (.iconst 0, 1) := by decide +kernel
theorem dX7_look_64 : decode cX7_look 64 = .ok (.putfield 175, 3) := by decide +kernel
theorem dX7_look_67 : decode cX7_look 67 = .ok (.goto 197, 3) := by decide +kernel
theorem dX7_look_70 : decode cX7_look 70 = .ok (.aload_n 0, 1) := by decide +kernel
theorem dX7_look_71 : decode cX7_look 71 = .ok (.getfield 31, 3) := by decide +kernel
theorem dX7_look_74 : decode cX7_look 74 = .ok (.aload_n 0, 1) := by decide +kernel
theorem dX7_look_75 : decode cX7_look 75 = .ok (.getfield 166, 3) := by decide +kernel
theorem dX7_look_78 : decode cX7_look 78 = .ok (.iaload, 1) := by decide +kernel
theorem dX7_look_79 : decode cX7_look 79 = .ok (.invokestatic 178, 3) := by decide +kernel
theorem dX7_look_82 : decode cX7_look 82 = .ok (.ifCond .eq 47, 3) := by decide +kernel
theorem dX7_look_85 : decode cX7_look 85 = .ok (.aload_n 0, 1) := by decide +kernel
theorem dX7_look_86 : decode cX7_look 86 = .ok (.iconst 1, 1) := by decide +kernel
theorem dX7_look_87 : decode cX7_look 87 = .ok (.putfield 175, 3) := by decide +kernel
theorem dX7_look_90 : decode cX7_look 90 = .ok (.aload_n 0, 1) := by decide +kernel
theorem dX7_look_91 : decode cX7_look 91 = .ok (.getfield 166, 3) := by decide +kernel
theorem dX7_look_94 : decode cX7_look 94 = .ok (.aload_n 0, 1) := by decide +kernel
theorem dX7_look_95 : decode cX7_look 95 = .ok (.getfield 163, 3) := by decide +kernel
theorem dX7_look_98 : decode cX7_look 98 = .ok (.if_icmp .ge 166, 3) := by decide +kernel
theorem dX7_look_101 : decode cX7_look 101 = .ok (.aload_n 0, 1) := by decide +kernel
theorem dX7_look_102 : decode cX7_look 102 = .ok (.getfield 31, 3) := by decide +kernel
theorem dX7_look_105 : decode cX7_look 105 = .ok (.aload_n 0, 1) := by decide +kernel
theorem dX7_look_106 : decode cX7_look 106 = .ok (.getfield 166, 3) := by decide +kernel
theorem dX7_look_109 : decode cX7_look 109 = .ok (.iaload, 1) := by decide +kernel
theorem dX7_look_110 : decode cX7_look 110 = .ok (.invokestatic 178, 3) := by decide +kernel
theorem dX7_look_113 : decode cX7_look 113 = .ok (.ifCond .eq 151, 3) := by decide +kernel
theorem dX7_look_116 : decode cX7_look 116 = .ok (.aload_n 0, 1) := by decide +kernel
theorem dX7_look_117 : decode cX7_look 117 = .ok (.dup, 1) := by decide +kernel
theorem dX7_look_118 : decode cX7_look 118 = .ok (.getfield 166, 3) := by decide +kernel
theorem dX7_look_121 : decode cX7_look 121 = .ok (.iconst 1, 1) := by decide +kernel
theorem dX7_look_122 : decode cX7_look 122 = .ok (.iadd, 1) := by decide +kernel
theorem dX7_look_123 : decode cX7_look 123 = .ok (.putfield 166, 3) := by decide +kernel
theorem dX7_look_126 : decode cX7_look 126 = .ok (.goto (-36), 3) := by decide +kernel
theorem dX7_look_129 : decode cX7_look 129 = .ok (.aload_n 0, 1) := by decide +kernel
theorem dX7_look_130 : decode cX7_look 130 = .ok (.getfield 31, 3) := by decide +kernel
theorem dX7_look_133 : decode cX7_look 133 = .ok (.aload_n 0, 1) := by decide +kernel
theorem dX7_look_134 : decode cX7_look 134 = .ok (.getfield 166, 3) := by decide +kernel
theorem dX7_look_137 : decode cX7_look 137 = .ok (.iaload, 1) := by decide +kernel
theorem dX7_look_138 : decode cX7_look 138 = .ok (.invokestatic 181, 3) := by decide +kernel
theorem dX7_look_141 : decode cX7_look 141 = .ok (.ifCond .eq 90, 3) := by decide +kernel
theorem dX7_look_144 : decode cX7_look 144 = .ok (.aload_n 0, 1) := by decide +kernel
theorem dX7_look_145 : decode cX7_look 145 = .ok (.iconst 2, 1) := by decide +kernel
theorem dX7_look_146 : decode cX7_look 146 = .ok (.putfield 175, 3) := by decide +kernel
theorem dX7_look_149 : decode cX7_look 149 = .ok (.aload_n 0, 1) := by decide +kernel
theorem dX7_look_150 : decode cX7_look 150 = .ok (.getfield 166, 3) := by decide +kernel
theorem dX7_look_153 : decode cX7_look 153 = .ok (.aload_n 0, 1) := by decide +kernel
theorem dX7_look_154 : decode cX7_look 154 = .ok (.getfield 163, 3) := by decide +kernel
theorem dX7_look_157 : decode cX7_look 157 = .ok (.if_icmp .ge 107, 3) := by decide +kernel
theorem dX7_look_160 : decode cX7_look 160 = .ok (.aload_n 0, 1) := by decide +kernel
theorem dX7_look_161 : decode cX7_look 161 = .ok (.getfield 31, 3) := by decide +kernel
theorem dX7_look_164 : decode cX7_look 164 = .ok (.aload_n 0, 1) := by decide +kernel
theorem dX7_look_165 : decode cX7_look 165 = .ok (.getfield 166, 3) := by decide +kernel
theorem dX7_look_168 : decode cX7_look 168 = .ok (.iaload, 1) := by decide +kernel
theorem dX7_look_169 : decode cX7_look 169 = .ok (.invokestatic 181, 3) := by decide +kernel
theorem dX7_look_172 : decode cX7_look 172 = .ok (.ifCond .eq 92, 3) := by decide +kernel
theorem dX7_look_175 : decode cX7_look 175 = .ok (.aload_n 0, 1) := by decide +kernel
theorem dX7_look_176 : decode cX7_look 176 = .ok (.aload_n 0, 1) := by decide +kernel
theorem dX7_look_177 : decode cX7_look 177 = .ok (.getfield 166, 3) := by decide +kernel
theorem dX7_look_180 : decode cX7_look 180 = .ok (.aload_n 0, 1) := by decide +kernel
theorem dX7_look_181 : decode cX7_look 181 = .ok (.getfield 169, 3) := by decide +kernel
theorem dX7_look_184 : decode cX7_look 184 = .ok (.isub, 1) := by decide +kernel
theorem dX7_look_185 : decode cX7_look 185 = .ok (.iconst 2, 1) := by decide +kernel
theorem dX7_look_186 : decode cX7_look 186 = .ok (.if_icmp .ge 26, 3) := by decide +kernel
theorem dX7_look_189 : decode cX7_look 189 = .ok (.aload_n 0, 1) := by decide +kernel
theorem dX7_look_190 : decode cX7_look 190 = .ok (.getfield 172, 3) := by decide +kernel
theorem dX7_look_193 : decode cX7_look 193 = .ok (.bipush 10, 2) := by decide +kernel
theorem dX7_look_195 : decode cX7_look 195 = .ok (.imul, 1) := by decide +kernel
theorem dX7_look_196 : decode cX7_look 196 = .ok (.aload_n 0, 1) := by decide +kernel
theorem dX7_look_197 : decode cX7_look 197 = .ok (.getfield 31, 3) := by decide +kernel
theorem dX7_look_200 : decode cX7_look 200 = .ok (.aload_n 0, 1) := by decide +kernel
theorem dX7_look_201 : decode cX7_look 201 = .ok (.getfield 166, 3) := by decide +kernel
theorem dX7_look_204 : decode cX7_look 204 = .ok (.iaload, 1) := by decide +kernel
theorem dX7_look_205 : decode cX7_look 205 = .ok (.iadd, 1) := by decide +kernel
theorem dX7_look_206 : decode cX7_look 206 = .ok (.bipush 48, 2) := by decide +kernel
theorem dX7_look_208 : decode cX7_look 208 = .ok (.isub, 1) := by decide +kernel
theorem dX7_look_209 : decode cX7_look 209 = .ok (.goto 6, 3) := by decide +kernel
theorem dX7_look_212 : decode cX7_look 212 = .ok (.sipush 1000, 3) := by decide +kernel
theorem dX7_look_215 : decode cX7_look 215 = .ok (.putfield 172, 3) := by decide +kernel
theorem dX7_look_218 : decode cX7_look 218 = .ok (.aload_n 0, 1) := by decide +kernel
theorem dX7_look_219 : decode cX7_look 219 = .ok (.dup, 1) := by decide +kernel
theorem dX7_look_220 : decode cX7_look 220 = .ok (.getfield 166, 3) := by decide +kernel
theorem dX7_look_223 : decode cX7_look 223 = .ok (.iconst 1, 1) := by decide +kernel
theorem dX7_look_224 : decode cX7_look 224 = .ok (.iadd, 1) := by decide +kernel
theorem dX7_look_225 : decode cX7_look 225 = .ok (.putfield 166, 3) := by decide +kernel
theorem dX7_look_228 : decode cX7_look 228 = .ok (.goto (-79), 3) := by decide +kernel
theorem dX7_look_231 : decode cX7_look 231 = .ok (.aload_n 0, 1) := by decide +kernel
theorem dX7_look_232 : decode cX7_look 232 = .ok (.aload_n 0, 1) := by decide +kernel
theorem dX7_look_233 : decode cX7_look 233 = .ok (.getfield 31, 3) := by decide +kernel
theorem dX7_look_236 : decode cX7_look 236 = .ok (.aload_n 0, 1) := by decide +kernel
theorem dX7_look_237 : decode cX7_look 237 = .ok (.getfield 166, 3) := by decide +kernel
theorem dX7_look_240 : decode cX7_look 240 = .ok (.iaload, 1) := by decide +kernel
theorem dX7_look_241 : decode cX7_look 241 = .ok (.bipush 59, 2) := by decide +kernel
theorem dX7_look_243 : decode cX7_look 243 = .ok (.if_icmp .ne 7, 3) := by decide +kernel
theorem dX7_look_246 : decode cX7_look 246 = .ok (.iconst 3, 1) := by decide +kernel
theorem dX7_look_247 : decode cX7_look 247 = .ok (.goto 4, 3) := by decide +kernel
theorem dX7_look_250 : decode cX7_look 250 = .ok (.iconst 4, 1) := by decide +kernel
theorem dX7_look_251 : decode cX7_look 251 = .ok (.putfield 175, 3) := by decide +kernel
theorem dX7_look_254 : decode cX7_look 254 = .ok (.aload_n 0, 1) := by decide +kernel
theorem dX7_look_255 : decode cX7_look 255 = .ok (.dup, 1) := by decide +kernel
theorem dX7_look_256 : decode cX7_look 256 = .ok (.getfield 166, 3) := by decide +kernel
theorem dX7_look_259 : decode cX7_look 259 = .ok (.iconst 1, 1) := by decide +kernel
theorem dX7_look_260 : decode cX7_look 260 = .ok (.iadd, 1) := by decide +kernel
theorem dX7_look_261 : decode cX7_look 261 = .ok (.putfield 166, 3) := by decide +kernel
theorem dX7_look_264 : decode cX7_look 264 = .ok (.return_, 1) := by decide +kernel
theorem dX7_wrong_0 : decode cX7_wrong 0 = .ok (.aload_n 0, 1) := by decide +kernel
theorem dX7_wrong_1 : decode cX7_wrong 1 = .ok (.aload_n 0, 1) := by decide +kernel
theorem dX7_wrong_2 : decode cX7_wrong 2 = .ok (.getfield 169, 3) := by decide +kernel
theorem dX7_wrong_5 : decode cX7_wrong 5 = .ok (.putfield 184, 3) := by decide +kernel
theorem dX7_wrong_8 : decode cX7_wrong 8 = .ok (.iconst 0, 1) := by decide +kernel
theorem dX7_wrong_9 : decode cX7_wrong 9 = .ok (.ireturn, 1) := by decide +kernel
theorem dX7_isWord_0 : decode cX7_isWord 0 = .ok (.aload_n 0, 1) := by decide +kernel
theorem dX7_isWord_1 : decode cX7_isWord 1 = .ok (.getfield 175, 3) := by decide +kernel
theorem dX7_isWord_4 : decode cX7_isWord 4 = .ok (.iconst 1, 1) := by decide +kernel
theorem dX7_isWord_5 : decode cX7_isWord 5 = .ok (.if_icmp .ne 19, 3) := by decide +kernel
theorem dX7_isWord_8 : decode cX7_isWord 8 = .ok (.aload_n 0, 1) := by decide +kernel
theorem dX7_isWord_9 : decode cX7_isWord 9 = .ok (.getfield 166, 3) := by decide +kernel
theorem dX7_isWord_12 : decode cX7_isWord 12 = .ok (.aload_n 0, 1) := by decide +kernel
theorem dX7_isWord_13 : decode cX7_isWord 13 = .ok (.getfield 169, 3) := by decide +kernel
theorem dX7_isWord_16 : decode cX7_isWord 16 = .ok (.isub, 1) := by decide +kernel
theorem dX7_isWord_17 : decode cX7_isWord 17 = .ok (.aload_n 1, 1) := by decide +kernel
theorem dX7_isWord_18 : decode cX7_isWord 18 = .ok (.invokevirtual 187, 3) := by decide +kernel
theorem dX7_isWord_21 : decode cX7_isWord 21 = .ok (.if_icmp .eq 5, 3) := by decide +kernel
theorem dX7_isWord_24 : decode cX7_isWord 24 = .ok (.iconst 0, 1) := by decide +kernel
theorem dX7_isWord_25 : decode cX7_isWord 25 = .ok (.ireturn, 1) := by decide +kernel
theorem dX7_isWord_26 : decode cX7_isWord 26 = .ok (.iconst 0, 1) := by decide +kernel
theorem dX7_isWord_27 : decode cX7_isWord 27 = .ok (.istore_n 2, 1) := by decide +kernel
theorem dX7_isWord_28 : decode cX7_isWord 28 = .ok (.iload_n 2, 1) := by decide +kernel
theorem dX7_isWord_29 : decode cX7_isWord 29 = .ok (.aload_n 1, 1) := by decide +kernel
theorem dX7_isWord_30 : decode cX7_isWord 30 = .ok (.invokevirtual 187, 3) := by decide +kernel
theorem dX7_isWord_33 : decode cX7_isWord 33 = .ok (.if_icmp .ge 30, 3) := by decide +kernel
theorem dX7_isWord_36 : decode cX7_isWord 36 = .ok (.aload_n 0, 1) := by decide +kernel
theorem dX7_isWord_37 : decode cX7_isWord 37 = .ok (.getfield 31, 3) := by decide +kernel
theorem dX7_isWord_40 : decode cX7_isWord 40 = .ok (.aload_n 0, 1) := by decide +kernel
theorem dX7_isWord_41 : decode cX7_isWord 41 = .ok (.getfield 169, 3) := by decide +kernel
theorem dX7_isWord_44 : decode cX7_isWord 44 = .ok (.iload_n 2, 1) := by decide +kernel
theorem dX7_isWord_45 : decode cX7_isWord 45 = .ok (.iadd, 1) := by decide +kernel
theorem dX7_isWord_46 : decode cX7_isWord 46 = .ok (.iaload, 1) := by decide +kernel
theorem dX7_isWord_47 : decode cX7_isWord 47 = .ok (.aload_n 1, 1) := by decide +kernel
theorem dX7_isWord_48 : decode cX7_isWord 48 = .ok (.iload_n 2, 1) := by decide +kernel
theorem dX7_isWord_49 : decode cX7_isWord 49 = .ok (.invokevirtual 193, 3) := by decide +kernel
theorem dX7_isWord_52 : decode cX7_isWord 52 = .ok (.if_icmp .eq 5, 3) := by decide +kernel
theorem dX7_isWord_55 : decode cX7_isWord 55 = .ok (.iconst 0, 1) := by decide +kernel
theorem dX7_isWord_56 : decode cX7_isWord 56 = .ok (.ireturn, 1) := by decide +kernel
theorem dX7_isWord_57 : decode cX7_isWord 57 = .ok (.iinc 2 1, 3) := by decide +kernel
theorem dX7_isWord_60 : decode cX7_isWord 60 = .ok (.goto (-32), 3) := by decide +kernel
theorem dX7_isWord_63 : decode cX7_isWord 63 = .ok (.iconst 1, 1) := by decide +kernel
theorem dX7_isWord_64 : decode cX7_isWord 64 = .ok (.ireturn, 1) := by decide +kernel
theorem dX7_number_0 : decode cX7_number 0 = .ok (.aload_n 0, 1) := by decide +kernel
theorem dX7_number_1 : decode cX7_number 1 = .ok (.getfield 175, 3) := by decide +kernel
theorem dX7_number_4 : decode cX7_number 4 = .ok (.iconst 2, 1) := by decide +kernel
theorem dX7_number_5 : decode cX7_number 5 = .ok (.if_icmp .ne 18, 3) := by decide +kernel
theorem dX7_number_8 : decode cX7_number 8 = .ok (.aload_n 0, 1) := by decide +kernel
theorem dX7_number_9 : decode cX7_number 9 = .ok (.getfield 172, 3) := by decide +kernel
theorem dX7_number_12 : decode cX7_number 12 = .ok (.i2l, 1) := by decide +kernel
theorem dX7_number_13 : decode cX7_number 13 = .ok (.iload_n 2, 1) := by decide +kernel
theorem dX7_number_14 : decode cX7_number 14 = .ok (.i2l, 1) := by decide +kernel
theorem dX7_number_15 : decode cX7_number 15 = .ok (.iload_n 3, 1) := by decide +kernel
theorem dX7_number_16 : decode cX7_number 16 = .ok (.i2l, 1) := by decide +kernel
theorem dX7_number_17 : decode cX7_number 17 = .ok (.invokestatic 85, 3) := by decide +kernel
theorem dX7_number_20 : decode cX7_number 20 = .ok (.ifCond .ne 8, 3) := by decide +kernel
theorem dX7_number_23 : decode cX7_number 23 = .ok (.aload_n 0, 1) := by decide +kernel
theorem dX7_number_24 : decode cX7_number 24 = .ok (.invokevirtual 197, 3) := by decide +kernel
theorem dX7_number_27 : decode cX7_number 27 = .ok (.ireturn, 1) := by decide +kernel
theorem dX7_number_28 : decode cX7_number 28 = .ok (.aload_n 0, 1) := by decide +kernel
theorem dX7_number_29 : decode cX7_number 29 = .ok (.getfield 73, 3) := by decide +kernel
theorem dX7_number_32 : decode cX7_number 32 = .ok (.iload_n 1, 1) := by decide +kernel
theorem dX7_number_33 : decode cX7_number 33 = .ok (.aload_n 0, 1) := by decide +kernel
theorem dX7_number_34 : decode cX7_number 34 = .ok (.getfield 172, 3) := by decide +kernel
theorem dX7_number_37 : decode cX7_number 37 = .ok (.iastore, 1) := by decide +kernel
theorem dX7_number_38 : decode cX7_number 38 = .ok (.aload_n 0, 1) := by decide +kernel
theorem dX7_number_39 : decode cX7_number 39 = .ok (.invokevirtual 201, 3) := by decide +kernel
theorem dX7_number_42 : decode cX7_number 42 = .ok (.iconst 1, 1) := by decide +kernel
theorem dX7_number_43 : decode cX7_number 43 = .ok (.ireturn, 1) := by decide +kernel
theorem dX7_tells_0 : decode cX7_tells 0 = .ok (.aload_n 0, 1) := by decide +kernel
theorem dX7_tells_1 : decode cX7_tells 1 = .ok (.invokevirtual 201, 3) := by decide +kernel
theorem dX7_tells_4 : decode cX7_tells 4 = .ok (.aload_n 0, 1) := by decide +kernel
theorem dX7_tells_5 : decode cX7_tells 5 = .ok (.iconst 0, 1) := by decide +kernel
theorem dX7_tells_6 : decode cX7_tells 6 = .ok (.iload_n 1, 1) := by decide +kernel
theorem dX7_tells_7 : decode cX7_tells 7 = .ok (.iload_n 2, 1) := by decide +kernel
theorem dX7_tells_8 : decode cX7_tells 8 = .ok (.invokevirtual 204, 3) := by decide +kernel
theorem dX7_tells_11 : decode cX7_tells 11 = .ok (.ireturn, 1) := by decide +kernel
theorem dX7_asks_0 : decode cX7_asks 0 = .ok (.aload_n 0, 1) := by decide +kernel
theorem dX7_asks_1 : decode cX7_asks 1 = .ok (.invokevirtual 201, 3) := by decide +kernel
theorem dX7_asks_4 : decode cX7_asks 4 = .ok (.aload_n 0, 1) := by decide +kernel
theorem dX7_asks_5 : decode cX7_asks 5 = .ok (.getfield 175, 3) := by decide +kernel
theorem dX7_asks_8 : decode cX7_asks 8 = .ok (.iconst 2, 1) := by decide +kernel
theorem dX7_asks_9 : decode cX7_asks 9 = .ok (.if_icmp .ne 14, 3) := by decide +kernel
theorem dX7_asks_12 : decode cX7_asks 12 = .ok (.iload_n 1, 1) := by decide +kernel
theorem dX7_asks_13 : decode cX7_asks 13 = .ok (.aload_n 0, 1) := by decide +kernel
theorem dX7_asks_14 : decode cX7_asks 14 = .ok (.getfield 172, 3) := by decide +kernel
theorem dX7_asks_17 : decode cX7_asks 17 = .ok (.invokestatic 151, 3) := by decide +kernel
theorem dX7_asks_20 : decode cX7_asks 20 = .ok (.ifCond .ne 8, 3) := by decide +kernel
theorem dX7_asks_23 : decode cX7_asks 23 = .ok (.aload_n 0, 1) := by decide +kernel
theorem dX7_asks_24 : decode cX7_asks 24 = .ok (.invokevirtual 197, 3) := by decide +kernel
theorem dX7_asks_27 : decode cX7_asks 27 = .ok (.ireturn, 1) := by decide +kernel
theorem dX7_asks_28 : decode cX7_asks 28 = .ok (.aload_n 0, 1) := by decide +kernel
theorem dX7_asks_29 : decode cX7_asks 29 = .ok (.iload_n 1, 1) := by decide +kernel
theorem dX7_asks_30 : decode cX7_asks 30 = .ok (.aload_n 0, 1) := by decide +kernel
theorem dX7_asks_31 : decode cX7_asks 31 = .ok (.getfield 172, 3) := by decide +kernel
theorem dX7_asks_34 : decode cX7_asks 34 = .ok (.invokevirtual 157, 3) := by decide +kernel
theorem dX7_asks_37 : decode cX7_asks 37 = .ok (.aload_n 0, 1) := by decide +kernel
theorem dX7_asks_38 : decode cX7_asks 38 = .ok (.invokevirtual 201, 3) := by decide +kernel
theorem dX7_asks_41 : decode cX7_asks 41 = .ok (.iconst 1, 1) := by decide +kernel
theorem dX7_asks_42 : decode cX7_asks 42 = .ok (.ireturn, 1) := by decide +kernel
theorem dX7_runTold_0 : decode cX7_runTold 0 = .ok (.aload_n 0, 1) := by decide +kernel
theorem dX7_runTold_1 : decode cX7_runTold 1 = .ok (.invokevirtual 201, 3) := by decide +kernel
theorem dX7_runTold_4 : decode cX7_runTold 4 = .ok (.aload_n 0, 1) := by decide +kernel
theorem dX7_runTold_5 : decode cX7_runTold 5 = .ok (.getfield 175, 3) := by decide +kernel
theorem dX7_runTold_8 : decode cX7_runTold 8 = .ok (.iconst 2, 1) := by decide +kernel
theorem dX7_runTold_9 : decode cX7_runTold 9 = .ok (.if_icmp .ne 36, 3) := by decide +kernel
theorem dX7_runTold_12 : decode cX7_runTold 12 = .ok (.aload_n 0, 1) := by decide +kernel
theorem dX7_runTold_13 : decode cX7_runTold 13 = .ok (.aload_n 0, 1) := by decide +kernel
theorem dX7_runTold_14 : decode cX7_runTold 14 = .ok (.getfield 172, 3) := by decide +kernel
theorem dX7_runTold_17 : decode cX7_runTold 17 = .ok (.invokevirtual 109, 3) := by decide +kernel
theorem dX7_runTold_20 : decode cX7_runTold 20 = .ok (.ifCond .eq 25, 3) := by decide +kernel
theorem dX7_runTold_23 : decode cX7_runTold 23 = .ok (.aload_n 0, 1) := by decide +kernel
theorem dX7_runTold_24 : decode cX7_runTold 24 = .ok (.invokevirtual 208, 3) := by decide +kernel
theorem dX7_runTold_27 : decode cX7_runTold 27 = .ok (.ifCond .ne 18, 3) := by decide +kernel
theorem dX7_runTold_30 : decode cX7_runTold 30 = .ok (.aload_n 0, 1) := by decide +kernel
theorem dX7_runTold_31 : decode cX7_runTold 31 = .ok (.aload_n 0, 1) := by decide +kernel
theorem dX7_runTold_32 : decode cX7_runTold 32 = .ok (.getfield 172, 3) := by decide +kernel
theorem dX7_runTold_35 : decode cX7_runTold 35 = .ok (.invokevirtual 119, 3) := by decide +kernel
theorem dX7_runTold_38 : decode cX7_runTold 38 = .ok (.aload_n 0, 1) := by decide +kernel
theorem dX7_runTold_39 : decode cX7_runTold 39 = .ok (.getfield 148, 3) := by decide +kernel
theorem dX7_runTold_42 : decode cX7_runTold 42 = .ok (.if_icmp .ne 8, 3) := by decide +kernel
theorem dX7_runTold_45 : decode cX7_runTold 45 = .ok (.aload_n 0, 1) := by decide +kernel
theorem dX7_runTold_46 : decode cX7_runTold 46 = .ok (.invokevirtual 197, 3) := by decide +kernel
theorem dX7_runTold_49 : decode cX7_runTold 49 = .ok (.ireturn, 1) := by decide +kernel
theorem dX7_runTold_50 : decode cX7_runTold 50 = .ok (.aload_n 0, 1) := by decide +kernel
theorem dX7_runTold_51 : decode cX7_runTold 51 = .ok (.iconst 0, 1) := by decide +kernel
theorem dX7_runTold_52 : decode cX7_runTold 52 = .ok (.iconst 0, 1) := by decide +kernel
theorem dX7_runTold_53 : decode cX7_runTold 53 = .ok (.aload_n 0, 1) := by decide +kernel
theorem dX7_runTold_54 : decode cX7_runTold 54 = .ok (.getfield 82, 3) := by decide +kernel
theorem dX7_runTold_57 : decode cX7_runTold 57 = .ok (.iconst 1, 1) := by decide +kernel
theorem dX7_runTold_58 : decode cX7_runTold 58 = .ok (.isub, 1) := by decide +kernel
theorem dX7_runTold_59 : decode cX7_runTold 59 = .ok (.invokevirtual 204, 3) := by decide +kernel
theorem dX7_runTold_62 : decode cX7_runTold 62 = .ok (.ifCond .eq 23, 3) := by decide +kernel
theorem dX7_runTold_65 : decode cX7_runTold 65 = .ok (.aload_n 0, 1) := by decide +kernel
theorem dX7_runTold_66 : decode cX7_runTold 66 = .ok (.iconst 1, 1) := by decide +kernel
theorem dX7_runTold_67 : decode cX7_runTold 67 = .ok (.iconst 0, 1) := by decide +kernel
theorem dX7_runTold_68 : decode cX7_runTold 68 = .ok (.aload_n 0, 1) := by decide +kernel
theorem dX7_runTold_69 : decode cX7_runTold 69 = .ok (.getfield 57, 3) := by decide +kernel
theorem dX7_runTold_72 : decode cX7_runTold 72 = .ok (.aload_n 0, 1) := by decide +kernel
theorem dX7_runTold_73 : decode cX7_runTold 73 = .ok (.getfield 148, 3) := by decide +kernel
theorem dX7_runTold_76 : decode cX7_runTold 76 = .ok (.iaload, 1) := by decide +kernel
theorem dX7_runTold_77 : decode cX7_runTold 77 = .ok (.iconst 2, 1) := by decide +kernel
theorem dX7_runTold_78 : decode cX7_runTold 78 = .ok (.isub, 1) := by decide +kernel
theorem dX7_runTold_79 : decode cX7_runTold 79 = .ok (.invokevirtual 204, 3) := by decide +kernel
theorem dX7_runTold_82 : decode cX7_runTold 82 = .ok (.ifCond .ne 5, 3) := by decide +kernel
theorem dX7_runTold_85 : decode cX7_runTold 85 = .ok (.iconst 0, 1) := by decide +kernel
theorem dX7_runTold_86 : decode cX7_runTold 86 = .ok (.ireturn, 1) := by decide +kernel
theorem dX7_runTold_87 : decode cX7_runTold 87 = .ok (.aload_n 0, 1) := by decide +kernel
theorem dX7_runTold_88 : decode cX7_runTold 88 = .ok (.aload_n 0, 1) := by decide +kernel
theorem dX7_runTold_89 : decode cX7_runTold 89 = .ok (.getfield 73, 3) := by decide +kernel
theorem dX7_runTold_92 : decode cX7_runTold 92 = .ok (.iconst 0, 1) := by decide +kernel
theorem dX7_runTold_93 : decode cX7_runTold 93 = .ok (.iaload, 1) := by decide +kernel
theorem dX7_runTold_94 : decode cX7_runTold 94 = .ok (.aload_n 0, 1) := by decide +kernel
theorem dX7_runTold_95 : decode cX7_runTold 95 = .ok (.getfield 73, 3) := by decide +kernel
theorem dX7_runTold_98 : decode cX7_runTold 98 = .ok (.iconst 1, 1) := by decide +kernel
theorem dX7_runTold_99 : decode cX7_runTold 99 = .ok (.iaload, 1) := by decide +kernel
theorem dX7_runTold_100 : decode cX7_runTold 100 = .ok (.invokevirtual 211, 3) := by decide +kernel
theorem dX7_runTold_103 : decode cX7_runTold 103 = .ok (.istore_n 1, 1) := by decide +kernel
theorem dX7_runTold_104 : decode cX7_runTold 104 = .ok (.aload_n 0, 1) := by decide +kernel
theorem dX7_runTold_105 : decode cX7_runTold 105 = .ok (.getfield 175, 3) := by decide +kernel
theorem dX7_runTold_108 : decode cX7_runTold 108 = .ok (.iconst 2, 1) := by decide +kernel
theorem dX7_runTold_109 : decode cX7_runTold 109 = .ok (.if_icmp .ne 46, 3) := by decide +kernel
theorem dX7_runTold_112 : decode cX7_runTold 112 = .ok (.aload_n 0, 1) := by decide +kernel
theorem dX7_runTold_113 : decode cX7_runTold 113 = .ok (.getfield 172, 3) := by decide +kernel
theorem dX7_runTold_116 : decode cX7_runTold 116 = .ok (.iconst 1, 1) := by decide +kernel
theorem dX7_runTold_117 : decode cX7_runTold 117 = .ok (.if_icmp .gt 7, 3) := by decide +kernel
theorem dX7_runTold_120 : decode cX7_runTold 120 = .ok (.iload_n 1, 1) := by decide +kernel
theorem dX7_runTold_121 : decode cX7_runTold 121 = .ok (.ifCond .ne 8, 3) := by decide +kernel
theorem dX7_runTold_124 : decode cX7_runTold 124 = .ok (.aload_n 0, 1) := by decide +kernel
theorem dX7_runTold_125 : decode cX7_runTold 125 = .ok (.invokevirtual 197, 3) := by decide +kernel
theorem dX7_runTold_128 : decode cX7_runTold 128 = .ok (.ireturn, 1) := by decide +kernel
theorem dX7_runTold_129 : decode cX7_runTold 129 = .ok (.aload_n 0, 1) := by decide +kernel
theorem dX7_runTold_130 : decode cX7_runTold 130 = .ok (.aload_n 0, 1) := by decide +kernel
theorem dX7_runTold_131 : decode cX7_runTold 131 = .ok (.getfield 73, 3) := by decide +kernel
theorem dX7_runTold_134 : decode cX7_runTold 134 = .ok (.iconst 0, 1) := by decide +kernel
theorem dX7_runTold_135 : decode cX7_runTold 135 = .ok (.iaload, 1) := by decide +kernel
theorem dX7_runTold_136 : decode cX7_runTold 136 = .ok (.aload_n 0, 1) := by decide +kernel
theorem dX7_runTold_137 : decode cX7_runTold 137 = .ok (.getfield 73, 3) := by decide +kernel
theorem dX7_runTold_140 : decode cX7_runTold 140 = .ok (.iconst 1, 1) := by decide +kernel
theorem dX7_runTold_141 : decode cX7_runTold 141 = .ok (.iaload, 1) := by decide +kernel
theorem dX7_runTold_142 : decode cX7_runTold 142 = .ok (.aload_n 0, 1) := by decide +kernel
theorem dX7_runTold_143 : decode cX7_runTold 143 = .ok (.getfield 172, 3) := by decide +kernel
theorem dX7_runTold_146 : decode cX7_runTold 146 = .ok (.invokevirtual 214, 3) := by decide +kernel
theorem dX7_runTold_149 : decode cX7_runTold 149 = .ok (.aload_n 0, 1) := by decide +kernel
theorem dX7_runTold_150 : decode cX7_runTold 150 = .ok (.invokevirtual 201, 3) := by decide +kernel
theorem dX7_runTold_153 : decode cX7_runTold 153 = .ok (.iconst 1, 1) := by decide +kernel
theorem dX7_runTold_154 : decode cX7_runTold 154 = .ok (.ireturn, 1) := by decide +kernel
theorem dX7_runTold_155 : decode cX7_runTold 155 = .ok (.iload_n 1, 1) := by decide +kernel
theorem dX7_runTold_156 : decode cX7_runTold 156 = .ok (.ldc 218, 2) := by decide +kernel
theorem dX7_runTold_158 : decode cX7_runTold 158 = .ok (.if_icmp .ne 8, 3) := by decide +kernel
theorem dX7_runTold_161 : decode cX7_runTold 161 = .ok (.aload_n 0, 1) := by decide +kernel
theorem dX7_runTold_162 : decode cX7_runTold 162 = .ok (.invokevirtual 197, 3) := by decide +kernel
theorem dX7_runTold_165 : decode cX7_runTold 165 = .ok (.ireturn, 1) := by decide +kernel
theorem dX7_runTold_166 : decode cX7_runTold 166 = .ok (.aload_n 0, 1) := by decide +kernel
theorem dX7_runTold_167 : decode cX7_runTold 167 = .ok (.aload_n 0, 1) := by decide +kernel
theorem dX7_runTold_168 : decode cX7_runTold 168 = .ok (.getfield 73, 3) := by decide +kernel
theorem dX7_runTold_171 : decode cX7_runTold 171 = .ok (.iconst 0, 1) := by decide +kernel
theorem dX7_runTold_172 : decode cX7_runTold 172 = .ok (.iaload, 1) := by decide +kernel
theorem dX7_runTold_173 : decode cX7_runTold 173 = .ok (.aload_n 0, 1) := by decide +kernel
theorem dX7_runTold_174 : decode cX7_runTold 174 = .ok (.getfield 73, 3) := by decide +kernel
theorem dX7_runTold_177 : decode cX7_runTold 177 = .ok (.iconst 1, 1) := by decide +kernel
theorem dX7_runTold_178 : decode cX7_runTold 178 = .ok (.iaload, 1) := by decide +kernel
theorem dX7_runTold_179 : decode cX7_runTold 179 = .ok (.invokevirtual 219, 3) := by decide +kernel
theorem dX7_runTold_182 : decode cX7_runTold 182 = .ok (.iconst 1, 1) := by decide +kernel
theorem dX7_runTold_183 : decode cX7_runTold 183 = .ok (.ireturn, 1) := by decide +kernel
theorem dX7_statement_0 : decode cX7_statement 0 = .ok (.aload_n 0, 1) := by decide +kernel
theorem dX7_statement_1 : decode cX7_statement 1 = .ok (.ldc 222, 2) := by decide +kernel
theorem dX7_statement_3 : decode cX7_statement 3 = .ok (.invokevirtual 224, 3) := by decide +kernel
theorem dX7_statement_6 : decode cX7_statement 6 = .ok (.ifCond .eq 102, 3) := by decide +kernel
theorem dX7_statement_9 : decode cX7_statement 9 = .ok (.aload_n 0, 1) := by decide +kernel
theorem dX7_statement_10 : decode cX7_statement 10 = .ok (.getfield 82, 3) := by decide +kernel
theorem dX7_statement_13 : decode cX7_statement 13 = .ok (.bipush 8, 2) := by decide +kernel
theorem dX7_statement_15 : decode cX7_statement 15 = .ok (.if_icmp .ge 93, 3) := by decide +kernel
theorem dX7_statement_18 : decode cX7_statement 18 = .ok (.aload_n 0, 1) := by decide +kernel
theorem dX7_statement_19 : decode cX7_statement 19 = .ok (.iconst 0, 1) := by decide +kernel
theorem dX7_statement_20 : decode cX7_statement 20 = .ok (.iconst 1, 1) := by decide +kernel
theorem dX7_statement_21 : decode cX7_statement 21 = .ok (.invokevirtual 228, 3) := by decide +kernel
theorem dX7_statement_24 : decode cX7_statement 24 = .ok (.ifCond .eq 46, 3) := by decide +kernel
theorem dX7_statement_27 : decode cX7_statement 27 = .ok (.aload_n 0, 1) := by decide +kernel
theorem dX7_statement_28 : decode cX7_statement 28 = .ok (.iconst 1, 1) := by decide +kernel
theorem dX7_statement_29 : decode cX7_statement 29 = .ok (.iconst 0, 1) := by decide +kernel
theorem dX7_statement_30 : decode cX7_statement 30 = .ok (.iconst 5, 1) := by decide +kernel
theorem dX7_statement_31 : decode cX7_statement 31 = .ok (.invokevirtual 204, 3) := by decide +kernel
theorem dX7_statement_34 : decode cX7_statement 34 = .ok (.ifCond .eq 36, 3) := by decide +kernel
theorem dX7_statement_37 : decode cX7_statement 37 = .ok (.aload_n 0, 1) := by decide +kernel
theorem dX7_statement_38 : decode cX7_statement 38 = .ok (.iconst 2, 1) := by decide +kernel
theorem dX7_statement_39 : decode cX7_statement 39 = .ok (.iconst 0, 1) := by decide +kernel
theorem dX7_statement_40 : decode cX7_statement 40 = .ok (.bipush 20, 2) := by decide +kernel
theorem dX7_statement_42 : decode cX7_statement 42 = .ok (.invokevirtual 204, 3) := by decide +kernel
theorem dX7_statement_45 : decode cX7_statement 45 = .ok (.ifCond .eq 25, 3) := by decide +kernel
theorem dX7_statement_48 : decode cX7_statement 48 = .ok (.aload_n 0, 1) := by decide +kernel
theorem dX7_statement_49 : decode cX7_statement 49 = .ok (.iconst 3, 1) := by decide +kernel
theorem dX7_statement_50 : decode cX7_statement 50 = .ok (.iconst 0, 1) := by decide +kernel
theorem dX7_statement_51 : decode cX7_statement 51 = .ok (.bipush 20, 2) := by decide +kernel
theorem dX7_statement_53 : decode cX7_statement 53 = .ok (.invokevirtual 204, 3) := by decide +kernel
theorem dX7_statement_56 : decode cX7_statement 56 = .ok (.ifCond .eq 14, 3) := by decide +kernel
theorem dX7_statement_59 : decode cX7_statement 59 = .ok (.aload_n 0, 1) := by decide +kernel
theorem dX7_statement_60 : decode cX7_statement 60 = .ok (.iconst 4, 1) := by decide +kernel
theorem dX7_statement_61 : decode cX7_statement 61 = .ok (.iconst 0, 1) := by decide +kernel
theorem dX7_statement_62 : decode cX7_statement 62 = .ok (.bipush 9, 2) := by decide +kernel
theorem dX7_statement_64 : decode cX7_statement 64 = .ok (.invokevirtual 204, 3) := by decide +kernel
theorem dX7_statement_67 : decode cX7_statement 67 = .ok (.ifCond .ne 5, 3) := by decide +kernel
theorem dX7_statement_70 : decode cX7_statement 70 = .ok (.iconst 0, 1) := by decide +kernel
theorem dX7_statement_71 : decode cX7_statement 71 = .ok (.ireturn, 1) := by decide +kernel
theorem dX7_statement_72 : decode cX7_statement 72 = .ok (.aload_n 0, 1) := by decide +kernel
theorem dX7_statement_73 : decode cX7_statement 73 = .ok (.aload_n 0, 1) := by decide +kernel
theorem dX7_statement_74 : decode cX7_statement 74 = .ok (.getfield 73, 3) := by decide +kernel
theorem dX7_statement_77 : decode cX7_statement 77 = .ok (.iconst 0, 1) := by decide +kernel
theorem dX7_statement_78 : decode cX7_statement 78 = .ok (.iaload, 1) := by decide +kernel
theorem dX7_statement_79 : decode cX7_statement 79 = .ok (.aload_n 0, 1) := by decide +kernel
theorem dX7_statement_80 : decode cX7_statement 80 = .ok (.getfield 73, 3) := by decide +kernel
theorem dX7_statement_83 : decode cX7_statement 83 = .ok (.iconst 1, 1) := by decide +kernel
theorem dX7_statement_84 : decode cX7_statement 84 = .ok (.iaload, 1) := by decide +kernel
theorem dX7_statement_85 : decode cX7_statement 85 = .ok (.aload_n 0, 1) := by decide +kernel
theorem dX7_statement_86 : decode cX7_statement 86 = .ok (.getfield 73, 3) := by decide +kernel
theorem dX7_statement_89 : decode cX7_statement 89 = .ok (.iconst 2, 1) := by decide +kernel
theorem dX7_statement_90 : decode cX7_statement 90 = .ok (.iaload, 1) := by decide +kernel
theorem dX7_statement_91 : decode cX7_statement 91 = .ok (.aload_n 0, 1) := by decide +kernel
theorem dX7_statement_92 : decode cX7_statement 92 = .ok (.getfield 73, 3) := by decide +kernel
theorem dX7_statement_95 : decode cX7_statement 95 = .ok (.iconst 3, 1) := by decide +kernel
theorem dX7_statement_96 : decode cX7_statement 96 = .ok (.iaload, 1) := by decide +kernel
theorem dX7_statement_97 : decode cX7_statement 97 = .ok (.aload_n 0, 1) := by decide +kernel
theorem dX7_statement_98 : decode cX7_statement 98 = .ok (.getfield 73, 3) := by decide +kernel
theorem dX7_statement_101 : decode cX7_statement 101 = .ok (.iconst 4, 1) := by decide +kernel
theorem dX7_statement_102 : decode cX7_statement 102 = .ok (.iaload, 1) := by decide +kernel
theorem dX7_statement_103 : decode cX7_statement 103 = .ok (.invokevirtual 133, 3) := by decide +kernel
theorem dX7_statement_106 : decode cX7_statement 106 = .ok (.iconst 1, 1) := by decide +kernel
theorem dX7_statement_107 : decode cX7_statement 107 = .ok (.ireturn, 1) := by decide +kernel
theorem dX7_statement_108 : decode cX7_statement 108 = .ok (.aload_n 0, 1) := by decide +kernel
theorem dX7_statement_109 : decode cX7_statement 109 = .ok (.ldc 231, 2) := by decide +kernel
theorem dX7_statement_111 : decode cX7_statement 111 = .ok (.invokevirtual 224, 3) := by decide +kernel
theorem dX7_statement_114 : decode cX7_statement 114 = .ok (.ifCond .eq 49, 3) := by decide +kernel
theorem dX7_statement_117 : decode cX7_statement 117 = .ok (.aload_n 0, 1) := by decide +kernel
theorem dX7_statement_118 : decode cX7_statement 118 = .ok (.iconst 0, 1) := by decide +kernel
theorem dX7_statement_119 : decode cX7_statement 119 = .ok (.aload_n 0, 1) := by decide +kernel
theorem dX7_statement_120 : decode cX7_statement 120 = .ok (.getfield 82, 3) := by decide +kernel
theorem dX7_statement_123 : decode cX7_statement 123 = .ok (.iconst 1, 1) := by decide +kernel
theorem dX7_statement_124 : decode cX7_statement 124 = .ok (.isub, 1) := by decide +kernel
theorem dX7_statement_125 : decode cX7_statement 125 = .ok (.invokevirtual 228, 3) := by decide +kernel
theorem dX7_statement_128 : decode cX7_statement 128 = .ok (.ifCond .eq 14, 3) := by decide +kernel
theorem dX7_statement_131 : decode cX7_statement 131 = .ok (.aload_n 0, 1) := by decide +kernel
theorem dX7_statement_132 : decode cX7_statement 132 = .ok (.iconst 1, 1) := by decide +kernel
theorem dX7_statement_133 : decode cX7_statement 133 = .ok (.iconst 0, 1) := by decide +kernel
theorem dX7_statement_134 : decode cX7_statement 134 = .ok (.bipush 20, 2) := by decide +kernel
theorem dX7_statement_136 : decode cX7_statement 136 = .ok (.invokevirtual 204, 3) := by decide +kernel
theorem dX7_statement_139 : decode cX7_statement 139 = .ok (.ifCond .ne 5, 3) := by decide +kernel
theorem dX7_statement_142 : decode cX7_statement 142 = .ok (.iconst 0, 1) := by decide +kernel
theorem dX7_statement_143 : decode cX7_statement 143 = .ok (.ireturn, 1) := by decide +kernel
theorem dX7_statement_144 : decode cX7_statement 144 = .ok (.aload_n 0, 1) := by decide +kernel
theorem dX7_statement_145 : decode cX7_statement 145 = .ok (.getfield 46, 3) := by decide +kernel
theorem dX7_statement_148 : decode cX7_statement 148 = .ok (.aload_n 0, 1) := by decide +kernel
theorem dX7_statement_149 : decode cX7_statement 149 = .ok (.getfield 73, 3) := by decide +kernel
theorem dX7_statement_152 : decode cX7_statement 152 = .ok (.iconst 0, 1) := by decide +kernel
theorem dX7_statement_153 : decode cX7_statement 153 = .ok (.iaload, 1) := by decide +kernel
theorem dX7_statement_154 : decode cX7_statement 154 = .ok (.aload_n 0, 1) := by decide +kernel
theorem dX7_statement_155 : decode cX7_statement 155 = .ok (.getfield 73, 3) := by decide +kernel
theorem dX7_statement_158 : decode cX7_statement 158 = .ok (.iconst 1, 1) := by decide +kernel
theorem dX7_statement_159 : decode cX7_statement 159 = .ok (.iaload, 1) := by decide +kernel
theorem dX7_statement_160 : decode cX7_statement 160 = .ok (.iastore, 1) := by decide +kernel
theorem dX7_statement_161 : decode cX7_statement 161 = .ok (.iconst 1, 1) := by decide +kernel
theorem dX7_statement_162 : decode cX7_statement 162 = .ok (.ireturn, 1) := by decide +kernel
theorem dX7_statement_163 : decode cX7_statement 163 = .ok (.aload_n 0, 1) := by decide +kernel
theorem dX7_statement_164 : decode cX7_statement 164 = .ok (.ldc 232, 2) := by decide +kernel
theorem dX7_statement_166 : decode cX7_statement 166 = .ok (.invokevirtual 224, 3) := by decide +kernel
theorem dX7_statement_169 : decode cX7_statement 169 = .ok (.ifCond .eq 9, 3) := by decide +kernel
theorem dX7_statement_172 : decode cX7_statement 172 = .ok (.aload_n 0, 1) := by decide +kernel
theorem dX7_statement_173 : decode cX7_statement 173 = .ok (.iconst 0, 1) := by decide +kernel
theorem dX7_statement_174 : decode cX7_statement 174 = .ok (.invokevirtual 233, 3) := by decide +kernel
theorem dX7_statement_177 : decode cX7_statement 177 = .ok (.ireturn, 1) := by decide +kernel
theorem dX7_statement_178 : decode cX7_statement 178 = .ok (.aload_n 0, 1) := by decide +kernel
theorem dX7_statement_179 : decode cX7_statement 179 = .ok (.ldc 236, 2) := by decide +kernel
theorem dX7_statement_181 : decode cX7_statement 181 = .ok (.invokevirtual 224, 3) := by decide +kernel
theorem dX7_statement_184 : decode cX7_statement 184 = .ok (.ifCond .eq 9, 3) := by decide +kernel
theorem dX7_statement_187 : decode cX7_statement 187 = .ok (.aload_n 0, 1) := by decide +kernel
theorem dX7_statement_188 : decode cX7_statement 188 = .ok (.iconst 1, 1) := by decide +kernel
theorem dX7_statement_189 : decode cX7_statement 189 = .ok (.invokevirtual 233, 3) := by decide +kernel
theorem dX7_statement_192 : decode cX7_statement 192 = .ok (.ireturn, 1) := by decide +kernel
theorem dX7_statement_193 : decode cX7_statement 193 = .ok (.aload_n 0, 1) := by decide +kernel
theorem dX7_statement_194 : decode cX7_statement 194 = .ok (.ldc 237, 2) := by decide +kernel
theorem dX7_statement_196 : decode cX7_statement 196 = .ok (.invokevirtual 224, 3) := by decide +kernel
theorem dX7_statement_199 : decode cX7_statement 199 = .ok (.ifCond .eq 9, 3) := by decide +kernel
theorem dX7_statement_202 : decode cX7_statement 202 = .ok (.aload_n 0, 1) := by decide +kernel
theorem dX7_statement_203 : decode cX7_statement 203 = .ok (.iconst 2, 1) := by decide +kernel
theorem dX7_statement_204 : decode cX7_statement 204 = .ok (.invokevirtual 233, 3) := by decide +kernel
theorem dX7_statement_207 : decode cX7_statement 207 = .ok (.ireturn, 1) := by decide +kernel
theorem dX7_statement_208 : decode cX7_statement 208 = .ok (.aload_n 0, 1) := by decide +kernel
theorem dX7_statement_209 : decode cX7_statement 209 = .ok (.ldc 238, 2) := by decide +kernel
theorem dX7_statement_211 : decode cX7_statement 211 = .ok (.invokevirtual 224, 3) := by decide +kernel
theorem dX7_statement_214 : decode cX7_statement 214 = .ok (.ifCond .eq 9, 3) := by decide +kernel
theorem dX7_statement_217 : decode cX7_statement 217 = .ok (.aload_n 0, 1) := by decide +kernel
theorem dX7_statement_218 : decode cX7_statement 218 = .ok (.iconst 3, 1) := by decide +kernel
theorem dX7_statement_219 : decode cX7_statement 219 = .ok (.invokevirtual 233, 3) := by decide +kernel
theorem dX7_statement_222 : decode cX7_statement 222 = .ok (.ireturn, 1) := by decide +kernel
theorem dX7_statement_223 : decode cX7_statement 223 = .ok (.aload_n 0, 1) := by decide +kernel
theorem dX7_statement_224 : decode cX7_statement 224 = .ok (.ldc 239, 2) := by decide +kernel
theorem dX7_statement_226 : decode cX7_statement 226 = .ok (.invokevirtual 224, 3) := by decide +kernel
theorem dX7_statement_229 : decode cX7_statement 229 = .ok (.ifCond .eq 10, 3) := by decide +kernel
theorem dX7_statement_232 : decode cX7_statement 232 = .ok (.aload_n 0, 1) := by decide +kernel
theorem dX7_statement_233 : decode cX7_statement 233 = .ok (.invokevirtual 241, 3) := by decide +kernel
theorem dX7_statement_236 : decode cX7_statement 236 = .ok (.goto 7, 3) := by decide +kernel
theorem dX7_statement_239 : decode cX7_statement 239 = .ok (.aload_n 0, 1) := by decide +kernel
theorem dX7_statement_240 : decode cX7_statement 240 = .ok (.invokevirtual 197, 3) := by decide +kernel
theorem dX7_statement_243 : decode cX7_statement 243 = .ok (.ireturn, 1) := by decide +kernel
theorem dX7_readAll_0 : decode cX7_readAll 0 = .ok (.aload_n 0, 1) := by decide +kernel
theorem dX7_readAll_1 : decode cX7_readAll 1 = .ok (.iconst 1, 1) := by decide +kernel
theorem dX7_readAll_2 : decode cX7_readAll 2 = .ok (.putfield 244, 3) := by decide +kernel
theorem dX7_readAll_5 : decode cX7_readAll 5 = .ok (.aload_n 0, 1) := by decide +kernel
theorem dX7_readAll_6 : decode cX7_readAll 6 = .ok (.iconst 0, 1) := by decide +kernel
theorem dX7_readAll_7 : decode cX7_readAll 7 = .ok (.putfield 166, 3) := by decide +kernel
theorem dX7_readAll_10 : decode cX7_readAll 10 = .ok (.aload_n 0, 1) := by decide +kernel
theorem dX7_readAll_11 : decode cX7_readAll 11 = .ok (.invokevirtual 201, 3) := by decide +kernel
theorem dX7_readAll_14 : decode cX7_readAll 14 = .ok (.aload_n 0, 1) := by decide +kernel
theorem dX7_readAll_15 : decode cX7_readAll 15 = .ok (.invokevirtual 247, 3) := by decide +kernel
theorem dX7_readAll_18 : decode cX7_readAll 18 = .ok (.ifCond .ne 5, 3) := by decide +kernel
theorem dX7_readAll_21 : decode cX7_readAll 21 = .ok (.iconst 0, 1) := by decide +kernel
theorem dX7_readAll_22 : decode cX7_readAll 22 = .ok (.ireturn, 1) := by decide +kernel
theorem dX7_readAll_23 : decode cX7_readAll 23 = .ok (.aload_n 0, 1) := by decide +kernel
theorem dX7_readAll_24 : decode cX7_readAll 24 = .ok (.getfield 175, 3) := by decide +kernel
theorem dX7_readAll_27 : decode cX7_readAll 27 = .ok (.ifCond .eq 42, 3) := by decide +kernel
theorem dX7_readAll_30 : decode cX7_readAll 30 = .ok (.aload_n 0, 1) := by decide +kernel
theorem dX7_readAll_31 : decode cX7_readAll 31 = .ok (.getfield 175, 3) := by decide +kernel
theorem dX7_readAll_34 : decode cX7_readAll 34 = .ok (.iconst 3, 1) := by decide +kernel
theorem dX7_readAll_35 : decode cX7_readAll 35 = .ok (.if_icmp .eq 8, 3) := by decide +kernel
theorem dX7_readAll_38 : decode cX7_readAll 38 = .ok (.aload_n 0, 1) := by decide +kernel
theorem dX7_readAll_39 : decode cX7_readAll 39 = .ok (.invokevirtual 197, 3) := by decide +kernel
theorem dX7_readAll_42 : decode cX7_readAll 42 = .ok (.ireturn, 1) := by decide +kernel
theorem dX7_readAll_43 : decode cX7_readAll 43 = .ok (.aload_n 0, 1) := by decide +kernel
theorem dX7_readAll_44 : decode cX7_readAll 44 = .ok (.invokevirtual 201, 3) := by decide +kernel
theorem dX7_readAll_47 : decode cX7_readAll 47 = .ok (.aload_n 0, 1) := by decide +kernel
theorem dX7_readAll_48 : decode cX7_readAll 48 = .ok (.invokevirtual 247, 3) := by decide +kernel
theorem dX7_readAll_51 : decode cX7_readAll 51 = .ok (.ifCond .ne 5, 3) := by decide +kernel
theorem dX7_readAll_54 : decode cX7_readAll 54 = .ok (.iconst 0, 1) := by decide +kernel
theorem dX7_readAll_55 : decode cX7_readAll 55 = .ok (.ireturn, 1) := by decide +kernel
theorem dX7_readAll_56 : decode cX7_readAll 56 = .ok (.aload_n 0, 1) := by decide +kernel
theorem dX7_readAll_57 : decode cX7_readAll 57 = .ok (.dup, 1) := by decide +kernel
theorem dX7_readAll_58 : decode cX7_readAll 58 = .ok (.getfield 244, 3) := by decide +kernel
theorem dX7_readAll_61 : decode cX7_readAll 61 = .ok (.iconst 1, 1) := by decide +kernel
theorem dX7_readAll_62 : decode cX7_readAll 62 = .ok (.iadd, 1) := by decide +kernel
theorem dX7_readAll_63 : decode cX7_readAll 63 = .ok (.putfield 244, 3) := by decide +kernel
theorem dX7_readAll_66 : decode cX7_readAll 66 = .ok (.goto (-43), 3) := by decide +kernel
theorem dX7_readAll_69 : decode cX7_readAll 69 = .ok (.iconst 1, 1) := by decide +kernel
theorem dX7_readAll_70 : decode cX7_readAll 70 = .ok (.ireturn, 1) := by decide +kernel
theorem dX7_yard_0 : decode cX7_yard 0 = .ok (.aload_n 0, 1) := by decide +kernel
theorem dX7_yard_1 : decode cX7_yard 1 = .ok (.invokevirtual 250, 3) := by decide +kernel
theorem dX7_yard_4 : decode cX7_yard 4 = .ok (.astore_n 1, 1) := by decide +kernel
theorem dX7_yard_5 : decode cX7_yard 5 = .ok (.aload_n 0, 1) := by decide +kernel
theorem dX7_yard_6 : decode cX7_yard 6 = .ok (.invokevirtual 254, 3) := by decide +kernel
theorem dX7_yard_9 : decode cX7_yard 9 = .ok (.istore_n 2, 1) := by decide +kernel
theorem dX7_yard_10 : decode cX7_yard 10 = .ok (.aload_n 0, 1) := by decide +kernel
theorem dX7_yard_11 : decode cX7_yard 11 = .ok (.iconst 0, 1) := by decide +kernel
theorem dX7_yard_12 : decode cX7_yard 12 = .ok (.putfield 163, 3) := by decide +kernel
theorem dX7_yard_15 : decode cX7_yard 15 = .ok (.iload_n 2, 1) := by decide +kernel
theorem dX7_yard_16 : decode cX7_yard 16 = .ok (.ifCond .ne 23, 3) := by decide +kernel
theorem dX7_yard_19 : decode cX7_yard 19 = .ok (.aload_n 0, 1) := by decide +kernel
theorem dX7_yard_20 : decode cX7_yard 20 = .ok (.aload_n 1, 1) := by decide +kernel
theorem dX7_yard_21 : decode cX7_yard 21 = .ok (.invokevirtual 257, 3) := by decide +kernel
theorem dX7_yard_24 : decode cX7_yard 24 = .ok (.aload_n 0, 1) := by decide +kernel
theorem dX7_yard_25 : decode cX7_yard 25 = .ok (.bipush (-2), 2) := by decide +kernel
theorem dX7_yard_27 : decode cX7_yard 27 = .ok (.invokevirtual 99, 3) := by decide +kernel
theorem dX7_yard_30 : decode cX7_yard 30 = .ok (.pop, 1) := by decide +kernel
theorem dX7_yard_31 : decode cX7_yard 31 = .ok (.bipush (-20), 2) := by decide +kernel
theorem dX7_yard_33 : decode cX7_yard 33 = .ok (.aload_n 0, 1) := by decide +kernel
theorem dX7_yard_34 : decode cX7_yard 34 = .ok (.getfield 184, 3) := by decide +kernel
theorem dX7_yard_37 : decode cX7_yard 37 = .ok (.isub, 1) := by decide +kernel
theorem dX7_yard_38 : decode cX7_yard 38 = .ok (.ireturn, 1) := by decide +kernel
theorem dX7_yard_39 : decode cX7_yard 39 = .ok (.aload_n 0, 1) := by decide +kernel
theorem dX7_yard_40 : decode cX7_yard 40 = .ok (.getfield 244, 3) := by decide +kernel
theorem dX7_yard_43 : decode cX7_yard 43 = .ok (.ireturn, 1) := by decide +kernel
theorem dX7_oneOf_0 : decode cX7_oneOf 0 = .ok (.aload_n 0, 1) := by decide +kernel
theorem dX7_oneOf_1 : decode cX7_oneOf 1 = .ok (.iload_n 1, 1) := by decide +kernel
theorem dX7_oneOf_2 : decode cX7_oneOf 2 = .ok (.invokevirtual 109, 3) := by decide +kernel
theorem dX7_oneOf_5 : decode cX7_oneOf 5 = .ok (.ifCond .ne 10, 3) := by decide +kernel
theorem dX7_oneOf_8 : decode cX7_oneOf 8 = .ok (.aload_n 0, 1) := by decide +kernel
theorem dX7_oneOf_9 : decode cX7_oneOf 9 = .ok (.bipush (-2), 2) := by decide +kernel
theorem dX7_oneOf_11 : decode cX7_oneOf 11 = .ok (.invokevirtual 99, 3) := by decide +kernel
theorem dX7_oneOf_14 : decode cX7_oneOf 14 = .ok (.ireturn, 1) := by decide +kernel
theorem dX7_oneOf_15 : decode cX7_oneOf 15 = .ok (.iload_n 2, 1) := by decide +kernel
theorem dX7_oneOf_16 : decode cX7_oneOf 16 = .ok (.tableswitch 104 0 7 #[48, 55, 62, 69, 76, 83, 89, 98], 48) := by decide +kernel
theorem dX7_oneOf_64 : decode cX7_oneOf 64 = .ok (.aload_n 0, 1) := by decide +kernel
theorem dX7_oneOf_65 : decode cX7_oneOf 65 = .ok (.getfield 37, 3) := by decide +kernel
theorem dX7_oneOf_68 : decode cX7_oneOf 68 = .ok (.iload_n 1, 1) := by decide +kernel
theorem dX7_oneOf_69 : decode cX7_oneOf 69 = .ok (.iaload, 1) := by decide +kernel
theorem dX7_oneOf_70 : decode cX7_oneOf 70 = .ok (.ireturn, 1) := by decide +kernel
theorem dX7_oneOf_71 : decode cX7_oneOf 71 = .ok (.aload_n 0, 1) := by decide +kernel
theorem dX7_oneOf_72 : decode cX7_oneOf 72 = .ok (.getfield 40, 3) := by decide +kernel
theorem dX7_oneOf_75 : decode cX7_oneOf 75 = .ok (.iload_n 1, 1) := by decide +kernel
theorem dX7_oneOf_76 : decode cX7_oneOf 76 = .ok (.iaload, 1) := by decide +kernel
theorem dX7_oneOf_77 : decode cX7_oneOf 77 = .ok (.ireturn, 1) := by decide +kernel
theorem dX7_oneOf_78 : decode cX7_oneOf 78 = .ok (.aload_n 0, 1) := by decide +kernel
theorem dX7_oneOf_79 : decode cX7_oneOf 79 = .ok (.getfield 43, 3) := by decide +kernel
theorem dX7_oneOf_82 : decode cX7_oneOf 82 = .ok (.iload_n 1, 1) := by decide +kernel
theorem dX7_oneOf_83 : decode cX7_oneOf 83 = .ok (.iaload, 1) := by decide +kernel
theorem dX7_oneOf_84 : decode cX7_oneOf 84 = .ok (.ireturn, 1) := by decide +kernel
theorem dX7_oneOf_85 : decode cX7_oneOf 85 = .ok (.aload_n 0, 1) := by decide +kernel
theorem dX7_oneOf_86 : decode cX7_oneOf 86 = .ok (.getfield 46, 3) := by decide +kernel
theorem dX7_oneOf_89 : decode cX7_oneOf 89 = .ok (.iload_n 1, 1) := by decide +kernel
theorem dX7_oneOf_90 : decode cX7_oneOf 90 = .ok (.iaload, 1) := by decide +kernel
theorem dX7_oneOf_91 : decode cX7_oneOf 91 = .ok (.ireturn, 1) := by decide +kernel
theorem dX7_oneOf_92 : decode cX7_oneOf 92 = .ok (.aload_n 0, 1) := by decide +kernel
theorem dX7_oneOf_93 : decode cX7_oneOf 93 = .ok (.getfield 49, 3) := by decide +kernel
theorem dX7_oneOf_96 : decode cX7_oneOf 96 = .ok (.iload_n 1, 1) := by decide +kernel
theorem dX7_oneOf_97 : decode cX7_oneOf 97 = .ok (.iaload, 1) := by decide +kernel
theorem dX7_oneOf_98 : decode cX7_oneOf 98 = .ok (.ireturn, 1) := by decide +kernel
theorem dX7_oneOf_99 : decode cX7_oneOf 99 = .ok (.aload_n 0, 1) := by decide +kernel
theorem dX7_oneOf_100 : decode cX7_oneOf 100 = .ok (.iload_n 1, 1) := by decide +kernel
theorem dX7_oneOf_101 : decode cX7_oneOf 101 = .ok (.invokevirtual 119, 3) := by decide +kernel
theorem dX7_oneOf_104 : decode cX7_oneOf 104 = .ok (.ireturn, 1) := by decide +kernel
theorem dX7_oneOf_105 : decode cX7_oneOf 105 = .ok (.aload_n 0, 1) := by decide +kernel
theorem dX7_oneOf_106 : decode cX7_oneOf 106 = .ok (.iload_n 1, 1) := by decide +kernel
theorem dX7_oneOf_107 : decode cX7_oneOf 107 = .ok (.invokevirtual 89, 3) := by decide +kernel
theorem dX7_oneOf_110 : decode cX7_oneOf 110 = .ok (.bipush 10, 2) := by decide +kernel
theorem dX7_oneOf_112 : decode cX7_oneOf 112 = .ok (.irem, 1) := by decide +kernel
theorem dX7_oneOf_113 : decode cX7_oneOf 113 = .ok (.ireturn, 1) := by decide +kernel
theorem dX7_oneOf_114 : decode cX7_oneOf 114 = .ok (.aload_n 0, 1) := by decide +kernel
theorem dX7_oneOf_115 : decode cX7_oneOf 115 = .ok (.iload_n 1, 1) := by decide +kernel
theorem dX7_oneOf_116 : decode cX7_oneOf 116 = .ok (.invokevirtual 126, 3) := by decide +kernel
theorem dX7_oneOf_119 : decode cX7_oneOf 119 = .ok (.ireturn, 1) := by decide +kernel
theorem dX7_oneOf_120 : decode cX7_oneOf 120 = .ok (.aload_n 0, 1) := by decide +kernel
theorem dX7_oneOf_121 : decode cX7_oneOf 121 = .ok (.bipush (-2), 2) := by decide +kernel
theorem dX7_oneOf_123 : decode cX7_oneOf 123 = .ok (.invokevirtual 99, 3) := by decide +kernel
theorem dX7_oneOf_126 : decode cX7_oneOf 126 = .ok (.ireturn, 1) := by decide +kernel
theorem dX7_chainOf_0 : decode cX7_chainOf 0 = .ok (.iload_n 1, 1) := by decide +kernel
theorem dX7_chainOf_1 : decode cX7_chainOf 1 = .ok (.i2l, 1) := by decide +kernel
theorem dX7_chainOf_2 : decode cX7_chainOf 2 = .ok (.lconst 0, 1) := by decide +kernel
theorem dX7_chainOf_3 : decode cX7_chainOf 3 = .ok (.lconst 1, 1) := by decide +kernel
theorem dX7_chainOf_4 : decode cX7_chainOf 4 = .ok (.invokestatic 85, 3) := by decide +kernel
theorem dX7_chainOf_7 : decode cX7_chainOf 7 = .ok (.ifCond .eq 23, 3) := by decide +kernel
theorem dX7_chainOf_10 : decode cX7_chainOf 10 = .ok (.iload_n 2, 1) := by decide +kernel
theorem dX7_chainOf_11 : decode cX7_chainOf 11 = .ok (.i2l, 1) := by decide +kernel
theorem dX7_chainOf_12 : decode cX7_chainOf 12 = .ok (.ldc2_w 261, 3) := by decide +kernel
theorem dX7_chainOf_15 : decode cX7_chainOf 15 = .ok (.aload_n 0, 1) := by decide +kernel
theorem dX7_chainOf_16 : decode cX7_chainOf 16 = .ok (.getfield 57, 3) := by decide +kernel
theorem dX7_chainOf_19 : decode cX7_chainOf 19 = .ok (.iload_n 1, 1) := by decide +kernel
theorem dX7_chainOf_20 : decode cX7_chainOf 20 = .ok (.iaload, 1) := by decide +kernel
theorem dX7_chainOf_21 : decode cX7_chainOf 21 = .ok (.iconst 1, 1) := by decide +kernel
theorem dX7_chainOf_22 : decode cX7_chainOf 22 = .ok (.isub, 1) := by decide +kernel
theorem dX7_chainOf_23 : decode cX7_chainOf 23 = .ok (.i2l, 1) := by decide +kernel
theorem dX7_chainOf_24 : decode cX7_chainOf 24 = .ok (.invokestatic 85, 3) := by decide +kernel
theorem dX7_chainOf_27 : decode cX7_chainOf 27 = .ok (.ifCond .ne 10, 3) := by decide +kernel
theorem dX7_chainOf_30 : decode cX7_chainOf 30 = .ok (.aload_n 0, 1) := by decide +kernel
theorem dX7_chainOf_31 : decode cX7_chainOf 31 = .ok (.bipush (-2), 2) := by decide +kernel
theorem dX7_chainOf_33 : decode cX7_chainOf 33 = .ok (.invokevirtual 99, 3) := by decide +kernel
theorem dX7_chainOf_36 : decode cX7_chainOf 36 = .ok (.ireturn, 1) := by decide +kernel
theorem dX7_chainOf_37 : decode cX7_chainOf 37 = .ok (.iload_n 2, 1) := by decide +kernel
theorem dX7_chainOf_38 : decode cX7_chainOf 38 = .ok (.iconst (-1), 1) := by decide +kernel
theorem dX7_chainOf_39 : decode cX7_chainOf 39 = .ok (.if_icmp .ne 12, 3) := by decide +kernel
theorem dX7_chainOf_42 : decode cX7_chainOf 42 = .ok (.aload_n 0, 1) := by decide +kernel
theorem dX7_chainOf_43 : decode cX7_chainOf 43 = .ok (.getfield 57, 3) := by decide +kernel
theorem dX7_chainOf_46 : decode cX7_chainOf 46 = .ok (.iload_n 1, 1) := by decide +kernel
theorem dX7_chainOf_47 : decode cX7_chainOf 47 = .ok (.iaload, 1) := by decide +kernel
theorem dX7_chainOf_48 : decode cX7_chainOf 48 = .ok (.goto 11, 3) := by decide +kernel
theorem dX7_chainOf_51 : decode cX7_chainOf 51 = .ok (.aload_n 0, 1) := by decide +kernel
theorem dX7_chainOf_52 : decode cX7_chainOf 52 = .ok (.getfield 54, 3) := by decide +kernel
theorem dX7_chainOf_55 : decode cX7_chainOf 55 = .ok (.iload_n 1, 1) := by decide +kernel
theorem dX7_chainOf_56 : decode cX7_chainOf 56 = .ok (.aaload, 1) := by decide +kernel
theorem dX7_chainOf_57 : decode cX7_chainOf 57 = .ok (.iload_n 2, 1) := by decide +kernel
theorem dX7_chainOf_58 : decode cX7_chainOf 58 = .ok (.iaload, 1) := by decide +kernel
theorem dX7_chainOf_59 : decode cX7_chainOf 59 = .ok (.ireturn, 1) := by decide +kernel
theorem dX7_hold_0 : decode cX7_hold 0 = .ok (.aload_n 0, 1) := by decide +kernel
theorem dX7_hold_1 : decode cX7_hold 1 = .ok (.getfield 40, 3) := by decide +kernel
theorem dX7_hold_4 : decode cX7_hold 4 = .ok (.iload_n 1, 1) := by decide +kernel
theorem dX7_hold_5 : decode cX7_hold 5 = .ok (.iaload, 1) := by decide +kernel
theorem dX7_hold_6 : decode cX7_hold 6 = .ok (.aload_n 0, 1) := by decide +kernel
theorem dX7_hold_7 : decode cX7_hold 7 = .ok (.getfield 46, 3) := by decide +kernel
theorem dX7_hold_10 : decode cX7_hold 10 = .ok (.iload_n 1, 1) := by decide +kernel
theorem dX7_hold_11 : decode cX7_hold 11 = .ok (.iaload, 1) := by decide +kernel
theorem dX7_hold_12 : decode cX7_hold 12 = .ok (.if_icmp .le 19, 3) := by decide +kernel
theorem dX7_hold_15 : decode cX7_hold 15 = .ok (.aload_n 0, 1) := by decide +kernel
theorem dX7_hold_16 : decode cX7_hold 16 = .ok (.getfield 40, 3) := by decide +kernel
theorem dX7_hold_19 : decode cX7_hold 19 = .ok (.iload_n 1, 1) := by decide +kernel
theorem dX7_hold_20 : decode cX7_hold 20 = .ok (.iaload, 1) := by decide +kernel
theorem dX7_hold_21 : decode cX7_hold 21 = .ok (.aload_n 0, 1) := by decide +kernel
theorem dX7_hold_22 : decode cX7_hold 22 = .ok (.getfield 46, 3) := by decide +kernel
theorem dX7_hold_25 : decode cX7_hold 25 = .ok (.iload_n 1, 1) := by decide +kernel
theorem dX7_hold_26 : decode cX7_hold 26 = .ok (.iaload, 1) := by decide +kernel
theorem dX7_hold_27 : decode cX7_hold 27 = .ok (.isub, 1) := by decide +kernel
theorem dX7_hold_28 : decode cX7_hold 28 = .ok (.goto 4, 3) := by decide +kernel
theorem dX7_hold_31 : decode cX7_hold 31 = .ok (.iconst 0, 1) := by decide +kernel
theorem dX7_hold_32 : decode cX7_hold 32 = .ok (.istore_n 3, 1) := by decide +kernel
theorem dX7_hold_33 : decode cX7_hold 33 = .ok (.aload_n 0, 1) := by decide +kernel
theorem dX7_hold_34 : decode cX7_hold 34 = .ok (.getfield 37, 3) := by decide +kernel
theorem dX7_hold_37 : decode cX7_hold 37 = .ok (.iload_n 1, 1) := by decide +kernel
theorem dX7_hold_38 : decode cX7_hold 38 = .ok (.iaload, 1) := by decide +kernel
theorem dX7_hold_39 : decode cX7_hold 39 = .ok (.tableswitch 87 1 5 #[33, 72, 42, 76, 72], 33) := by decide +kernel
theorem dX7_hold_72 : decode cX7_hold 72 = .ok (.iload_n 3, 1) := by decide +kernel
theorem dX7_hold_73 : decode cX7_hold 73 = .ok (.aload_n 0, 1) := by decide +kernel
theorem dX7_hold_74 : decode cX7_hold 74 = .ok (.getfield 49, 3) := by decide +kernel
theorem dX7_hold_77 : decode cX7_hold 77 = .ok (.iload_n 1, 1) := by decide +kernel
theorem dX7_hold_78 : decode cX7_hold 78 = .ok (.iaload, 1) := by decide +kernel
theorem dX7_hold_79 : decode cX7_hold 79 = .ok (.iadd, 1) := by decide +kernel
theorem dX7_hold_80 : decode cX7_hold 80 = .ok (.ireturn, 1) := by decide +kernel
theorem dX7_hold_81 : decode cX7_hold 81 = .ok (.iload_n 3, 1) := by decide +kernel
theorem dX7_hold_82 : decode cX7_hold 82 = .ok (.aload_n 0, 1) := by decide +kernel
theorem dX7_hold_83 : decode cX7_hold 83 = .ok (.getfield 49, 3) := by decide +kernel
theorem dX7_hold_86 : decode cX7_hold 86 = .ok (.iload_n 1, 1) := by decide +kernel
theorem dX7_hold_87 : decode cX7_hold 87 = .ok (.iaload, 1) := by decide +kernel
theorem dX7_hold_88 : decode cX7_hold 88 = .ok (.iadd, 1) := by decide +kernel
theorem dX7_hold_89 : decode cX7_hold 89 = .ok (.iload_n 2, 1) := by decide +kernel
theorem dX7_hold_90 : decode cX7_hold 90 = .ok (.iconst (-1), 1) := by decide +kernel
theorem dX7_hold_91 : decode cX7_hold 91 = .ok (.if_icmp .eq 17, 3) := by decide +kernel
theorem dX7_hold_94 : decode cX7_hold 94 = .ok (.aload_n 0, 1) := by decide +kernel
theorem dX7_hold_95 : decode cX7_hold 95 = .ok (.getfield 37, 3) := by decide +kernel
theorem dX7_hold_98 : decode cX7_hold 98 = .ok (.iload_n 2, 1) := by decide +kernel
theorem dX7_hold_99 : decode cX7_hold 99 = .ok (.iaload, 1) := by decide +kernel
theorem dX7_hold_100 : decode cX7_hold 100 = .ok (.iconst 3, 1) := by decide +kernel
theorem dX7_hold_101 : decode cX7_hold 101 = .ok (.if_icmp .ne 7, 3) := by decide +kernel
theorem dX7_hold_104 : decode cX7_hold 104 = .ok (.iconst 5, 1) := by decide +kernel
theorem dX7_hold_105 : decode cX7_hold 105 = .ok (.goto 4, 3) := by decide +kernel
theorem dX7_hold_108 : decode cX7_hold 108 = .ok (.iconst 0, 1) := by decide +kernel
theorem dX7_hold_109 : decode cX7_hold 109 = .ok (.iadd, 1) := by decide +kernel
theorem dX7_hold_110 : decode cX7_hold 110 = .ok (.ireturn, 1) := by decide +kernel
theorem dX7_hold_111 : decode cX7_hold 111 = .ok (.iload_n 3, 1) := by decide +kernel
theorem dX7_hold_112 : decode cX7_hold 112 = .ok (.iconst 2, 1) := by decide +kernel
theorem dX7_hold_113 : decode cX7_hold 113 = .ok (.idiv, 1) := by decide +kernel
theorem dX7_hold_114 : decode cX7_hold 114 = .ok (.ireturn, 1) := by decide +kernel
theorem dX7_hold_115 : decode cX7_hold 115 = .ok (.iload_n 3, 1) := by decide +kernel
theorem dX7_hold_116 : decode cX7_hold 116 = .ok (.aload_n 0, 1) := by decide +kernel
theorem dX7_hold_117 : decode cX7_hold 117 = .ok (.getfield 43, 3) := by decide +kernel
theorem dX7_hold_120 : decode cX7_hold 120 = .ok (.iload_n 1, 1) := by decide +kernel
theorem dX7_hold_121 : decode cX7_hold 121 = .ok (.iaload, 1) := by decide +kernel
theorem dX7_hold_122 : decode cX7_hold 122 = .ok (.iconst 4, 1) := by decide +kernel
theorem dX7_hold_123 : decode cX7_hold 123 = .ok (.idiv, 1) := by decide +kernel
theorem dX7_hold_124 : decode cX7_hold 124 = .ok (.iadd, 1) := by decide +kernel
theorem dX7_hold_125 : decode cX7_hold 125 = .ok (.ireturn, 1) := by decide +kernel
theorem dX7_hold_126 : decode cX7_hold 126 = .ok (.iload_n 3, 1) := by decide +kernel
theorem dX7_hold_127 : decode cX7_hold 127 = .ok (.ireturn, 1) := by decide +kernel
theorem dX7_force_0 : decode cX7_force 0 = .ok (.aload_n 0, 1) := by decide +kernel
theorem dX7_force_1 : decode cX7_force 1 = .ok (.getfield 43, 3) := by decide +kernel
theorem dX7_force_4 : decode cX7_force 4 = .ok (.iload_n 1, 1) := by decide +kernel
theorem dX7_force_5 : decode cX7_force 5 = .ok (.iaload, 1) := by decide +kernel
theorem dX7_force_6 : decode cX7_force 6 = .ok (.aload_n 0, 1) := by decide +kernel
theorem dX7_force_7 : decode cX7_force 7 = .ok (.getfield 60, 3) := by decide +kernel
theorem dX7_force_10 : decode cX7_force 10 = .ok (.iconst 3, 1) := by decide +kernel
theorem dX7_force_11 : decode cX7_force 11 = .ok (.idiv, 1) := by decide +kernel
theorem dX7_force_12 : decode cX7_force 12 = .ok (.iadd, 1) := by decide +kernel
theorem dX7_force_13 : decode cX7_force 13 = .ok (.istore_n 2, 1) := by decide +kernel
theorem dX7_force_14 : decode cX7_force 14 = .ok (.aload_n 0, 1) := by decide +kernel
theorem dX7_force_15 : decode cX7_force 15 = .ok (.getfield 37, 3) := by decide +kernel
theorem dX7_force_18 : decode cX7_force 18 = .ok (.iload_n 1, 1) := by decide +kernel
theorem dX7_force_19 : decode cX7_force 19 = .ok (.iaload, 1) := by decide +kernel
theorem dX7_force_20 : decode cX7_force 20 = .ok (.iconst 4, 1) := by decide +kernel
theorem dX7_force_21 : decode cX7_force 21 = .ok (.if_icmp .ne 14, 3) := by decide +kernel
theorem dX7_force_24 : decode cX7_force 24 = .ok (.iload_n 2, 1) := by decide +kernel
theorem dX7_force_25 : decode cX7_force 25 = .ok (.aload_n 0, 1) := by decide +kernel
theorem dX7_force_26 : decode cX7_force 26 = .ok (.getfield 49, 3) := by decide +kernel
theorem dX7_force_29 : decode cX7_force 29 = .ok (.iload_n 1, 1) := by decide +kernel
theorem dX7_force_30 : decode cX7_force 30 = .ok (.iaload, 1) := by decide +kernel
theorem dX7_force_31 : decode cX7_force 31 = .ok (.iadd, 1) := by decide +kernel
theorem dX7_force_32 : decode cX7_force 32 = .ok (.goto 20, 3) := by decide +kernel
theorem dX7_force_35 : decode cX7_force 35 = .ok (.aload_n 0, 1) := by decide +kernel
theorem dX7_force_36 : decode cX7_force 36 = .ok (.getfield 37, 3) := by decide +kernel
theorem dX7_force_39 : decode cX7_force 39 = .ok (.iload_n 1, 1) := by decide +kernel
theorem dX7_force_40 : decode cX7_force 40 = .ok (.iaload, 1) := by decide +kernel
theorem dX7_force_41 : decode cX7_force 41 = .ok (.iconst 5, 1) := by decide +kernel
theorem dX7_force_42 : decode cX7_force 42 = .ok (.if_icmp .ne 9, 3) := by decide +kernel
theorem dX7_force_45 : decode cX7_force 45 = .ok (.iload_n 2, 1) := by decide +kernel
theorem dX7_force_46 : decode cX7_force 46 = .ok (.iconst 2, 1) := by decide +kernel
theorem dX7_force_47 : decode cX7_force 47 = .ok (.iadd, 1) := by decide +kernel
theorem dX7_force_48 : decode cX7_force 48 = .ok (.goto 4, 3) := by decide +kernel
theorem dX7_force_51 : decode cX7_force 51 = .ok (.iload_n 2, 1) := by decide +kernel
theorem dX7_force_52 : decode cX7_force 52 = .ok (.ireturn, 1) := by decide +kernel
theorem dX7_strengthOf_0 : decode cX7_strengthOf 0 = .ok (.aload_n 0, 1) := by decide +kernel
theorem dX7_strengthOf_1 : decode cX7_strengthOf 1 = .ok (.aload_n 1, 1) := by decide +kernel
theorem dX7_strengthOf_2 : decode cX7_strengthOf 2 = .ok (.iload_n 3, 1) := by decide +kernel
theorem dX7_strengthOf_3 : decode cX7_strengthOf 3 = .ok (.iaload, 1) := by decide +kernel
theorem dX7_strengthOf_4 : decode cX7_strengthOf 4 = .ok (.aload_n 1, 1) := by decide +kernel
theorem dX7_strengthOf_5 : decode cX7_strengthOf 5 = .ok (.iload_n 3, 1) := by decide +kernel
theorem dX7_strengthOf_6 : decode cX7_strengthOf 6 = .ok (.iconst 1, 1) := by decide +kernel
theorem dX7_strengthOf_7 : decode cX7_strengthOf 7 = .ok (.iadd, 1) := by decide +kernel
theorem dX7_strengthOf_8 : decode cX7_strengthOf 8 = .ok (.iaload, 1) := by decide +kernel
theorem dX7_strengthOf_9 : decode cX7_strengthOf 9 = .ok (.invokevirtual 122, 3) := by decide +kernel
theorem dX7_strengthOf_12 : decode cX7_strengthOf 12 = .ok (.aload_n 0, 1) := by decide +kernel
theorem dX7_strengthOf_13 : decode cX7_strengthOf 13 = .ok (.aload_n 1, 1) := by decide +kernel
theorem dX7_strengthOf_14 : decode cX7_strengthOf 14 = .ok (.iload_n 3, 1) := by decide +kernel
theorem dX7_strengthOf_15 : decode cX7_strengthOf 15 = .ok (.iconst 1, 1) := by decide +kernel
theorem dX7_strengthOf_16 : decode cX7_strengthOf 16 = .ok (.iadd, 1) := by decide +kernel
theorem dX7_strengthOf_17 : decode cX7_strengthOf 17 = .ok (.iaload, 1) := by decide +kernel
theorem dX7_strengthOf_18 : decode cX7_strengthOf 18 = .ok (.aload_n 1, 1) := by decide +kernel
theorem dX7_strengthOf_19 : decode cX7_strengthOf 19 = .ok (.iload_n 3, 1) := by decide +kernel
theorem dX7_strengthOf_20 : decode cX7_strengthOf 20 = .ok (.iaload, 1) := by decide +kernel
theorem dX7_strengthOf_21 : decode cX7_strengthOf 21 = .ok (.invokevirtual 122, 3) := by decide +kernel
theorem dX7_strengthOf_24 : decode cX7_strengthOf 24 = .ok (.iadd, 1) := by decide +kernel
theorem dX7_strengthOf_25 : decode cX7_strengthOf 25 = .ok (.iconst 3, 1) := by decide +kernel
theorem dX7_strengthOf_26 : decode cX7_strengthOf 26 = .ok (.aload_n 0, 1) := by decide +kernel
theorem dX7_strengthOf_27 : decode cX7_strengthOf 27 = .ok (.getfield 145, 3) := by decide +kernel
theorem dX7_strengthOf_30 : decode cX7_strengthOf 30 = .ok (.imul, 1) := by decide +kernel
theorem dX7_strengthOf_31 : decode cX7_strengthOf 31 = .ok (.iadd, 1) := by decide +kernel
theorem dX7_strengthOf_32 : decode cX7_strengthOf 32 = .ok (.istore 4, 2) := by decide +kernel
theorem dX7_strengthOf_34 : decode cX7_strengthOf 34 = .ok (.iload_n 3, 1) := by decide +kernel
theorem dX7_strengthOf_35 : decode cX7_strengthOf 35 = .ok (.ifCond .eq 10, 3) := by decide +kernel
theorem dX7_strengthOf_38 : decode cX7_strengthOf 38 = .ok (.iload_n 3, 1) := by decide +kernel
theorem dX7_strengthOf_39 : decode cX7_strengthOf 39 = .ok (.iload_n 2, 1) := by decide +kernel
theorem dX7_strengthOf_40 : decode cX7_strengthOf 40 = .ok (.iconst 2, 1) := by decide +kernel
theorem dX7_strengthOf_41 : decode cX7_strengthOf 41 = .ok (.isub, 1) := by decide +kernel
theorem dX7_strengthOf_42 : decode cX7_strengthOf 42 = .ok (.if_icmp .ne 19, 3) := by decide +kernel
theorem dX7_strengthOf_45 : decode cX7_strengthOf 45 = .ok (.iload 4, 2) := by decide +kernel
theorem dX7_strengthOf_47 : decode cX7_strengthOf 47 = .ok (.iconst 2, 1) := by decide +kernel
theorem dX7_strengthOf_48 : decode cX7_strengthOf 48 = .ok (.if_icmp .le 10, 3) := by decide +kernel
theorem dX7_strengthOf_51 : decode cX7_strengthOf 51 = .ok (.iload 4, 2) := by decide +kernel
theorem dX7_strengthOf_53 : decode cX7_strengthOf 53 = .ok (.iconst 2, 1) := by decide +kernel
theorem dX7_strengthOf_54 : decode cX7_strengthOf 54 = .ok (.isub, 1) := by decide +kernel
theorem dX7_strengthOf_55 : decode cX7_strengthOf 55 = .ok (.goto 4, 3) := by decide +kernel
theorem dX7_strengthOf_58 : decode cX7_strengthOf 58 = .ok (.iconst 0, 1) := by decide +kernel
theorem dX7_strengthOf_59 : decode cX7_strengthOf 59 = .ok (.istore 4, 2) := by decide +kernel
theorem dX7_strengthOf_61 : decode cX7_strengthOf 61 = .ok (.iload 4, 2) := by decide +kernel
theorem dX7_strengthOf_63 : decode cX7_strengthOf 63 = .ok (.ireturn, 1) := by decide +kernel
theorem dX7_isJoint_0 : decode cX7_isJoint 0 = .ok (.iload_n 2, 1) := by decide +kernel
theorem dX7_isJoint_1 : decode cX7_isJoint 1 = .ok (.i2l, 1) := by decide +kernel
theorem dX7_isJoint_2 : decode cX7_isJoint 2 = .ok (.lconst 0, 1) := by decide +kernel
theorem dX7_isJoint_3 : decode cX7_isJoint 3 = .ok (.aload_n 0, 1) := by decide +kernel
theorem dX7_isJoint_4 : decode cX7_isJoint 4 = .ok (.getfield 57, 3) := by decide +kernel
theorem dX7_isJoint_7 : decode cX7_isJoint 7 = .ok (.iload_n 1, 1) := by decide +kernel
theorem dX7_isJoint_8 : decode cX7_isJoint 8 = .ok (.iaload, 1) := by decide +kernel
theorem dX7_isJoint_9 : decode cX7_isJoint 9 = .ok (.iconst 2, 1) := by decide +kernel
theorem dX7_isJoint_10 : decode cX7_isJoint 10 = .ok (.isub, 1) := by decide +kernel
theorem dX7_isJoint_11 : decode cX7_isJoint 11 = .ok (.i2l, 1) := by decide +kernel
theorem dX7_isJoint_12 : decode cX7_isJoint 12 = .ok (.invokestatic 85, 3) := by decide +kernel
theorem dX7_isJoint_15 : decode cX7_isJoint 15 = .ok (.ireturn, 1) := by decide +kernel
theorem dX7_strength_0 : decode cX7_strength 0 = .ok (.iload_n 1, 1) := by decide +kernel
theorem dX7_strength_1 : decode cX7_strength 1 = .ok (.i2l, 1) := by decide +kernel
theorem dX7_strength_2 : decode cX7_strength 2 = .ok (.lconst 0, 1) := by decide +kernel
theorem dX7_strength_3 : decode cX7_strength 3 = .ok (.lconst 1, 1) := by decide +kernel
theorem dX7_strength_4 : decode cX7_strength 4 = .ok (.invokestatic 85, 3) := by decide +kernel
theorem dX7_strength_7 : decode cX7_strength 7 = .ok (.ifCond .eq 32, 3) := by decide +kernel
theorem dX7_strength_10 : decode cX7_strength 10 = .ok (.aload_n 0, 1) := by decide +kernel
theorem dX7_strength_11 : decode cX7_strength 11 = .ok (.iload_n 1, 1) := by decide +kernel
theorem dX7_strength_12 : decode cX7_strength 12 = .ok (.iload_n 2, 1) := by decide +kernel
theorem dX7_strength_13 : decode cX7_strength 13 = .ok (.invokevirtual 263, 3) := by decide +kernel
theorem dX7_strength_16 : decode cX7_strength 16 = .ok (.ifCond .eq 23, 3) := by decide +kernel
theorem dX7_strength_19 : decode cX7_strength 19 = .ok (.aload_n 0, 1) := by decide +kernel
theorem dX7_strength_20 : decode cX7_strength 20 = .ok (.aload_n 0, 1) := by decide +kernel
theorem dX7_strength_21 : decode cX7_strength 21 = .ok (.getfield 54, 3) := by decide +kernel
theorem dX7_strength_24 : decode cX7_strength 24 = .ok (.iload_n 1, 1) := by decide +kernel
theorem dX7_strength_25 : decode cX7_strength 25 = .ok (.aaload, 1) := by decide +kernel
theorem dX7_strength_26 : decode cX7_strength 26 = .ok (.aload_n 0, 1) := by decide +kernel
theorem dX7_strength_27 : decode cX7_strength 27 = .ok (.getfield 57, 3) := by decide +kernel
theorem dX7_strength_30 : decode cX7_strength 30 = .ok (.iload_n 1, 1) := by decide +kernel
theorem dX7_strength_31 : decode cX7_strength 31 = .ok (.iaload, 1) := by decide +kernel
theorem dX7_strength_32 : decode cX7_strength 32 = .ok (.iload_n 2, 1) := by decide +kernel
theorem dX7_strength_33 : decode cX7_strength 33 = .ok (.invokevirtual 266, 3) := by decide +kernel
theorem dX7_strength_36 : decode cX7_strength 36 = .ok (.goto 9, 3) := by decide +kernel
theorem dX7_strength_39 : decode cX7_strength 39 = .ok (.aload_n 0, 1) := by decide +kernel
theorem dX7_strength_40 : decode cX7_strength 40 = .ok (.bipush (-2), 2) := by decide +kernel
theorem dX7_strength_42 : decode cX7_strength 42 = .ok (.invokevirtual 99, 3) := by decide +kernel
theorem dX7_strength_45 : decode cX7_strength 45 = .ok (.ireturn, 1) := by decide +kernel
theorem dX7_leastOf_0 : decode cX7_leastOf 0 = .ok (.iconst (-1), 1) := by decide +kernel
theorem dX7_leastOf_1 : decode cX7_leastOf 1 = .ok (.istore_n 3, 1) := by decide +kernel
theorem dX7_leastOf_2 : decode cX7_leastOf 2 = .ok (.iconst 0, 1) := by decide +kernel
theorem dX7_leastOf_3 : decode cX7_leastOf 3 = .ok (.istore 4, 2) := by decide +kernel
theorem dX7_leastOf_5 : decode cX7_leastOf 5 = .ok (.iload 4, 2) := by decide +kernel
theorem dX7_leastOf_7 : decode cX7_leastOf 7 = .ok (.iload_n 2, 1) := by decide +kernel
theorem dX7_leastOf_8 : decode cX7_leastOf 8 = .ok (.iconst 1, 1) := by decide +kernel
theorem dX7_leastOf_9 : decode cX7_leastOf 9 = .ok (.isub, 1) := by decide +kernel
theorem dX7_leastOf_10 : decode cX7_leastOf 10 = .ok (.if_icmp .ge 37, 3) := by decide +kernel
theorem dX7_leastOf_13 : decode cX7_leastOf 13 = .ok (.aload_n 0, 1) := by decide +kernel
theorem dX7_leastOf_14 : decode cX7_leastOf 14 = .ok (.aload_n 1, 1) := by decide +kernel
theorem dX7_leastOf_15 : decode cX7_leastOf 15 = .ok (.iload_n 2, 1) := by decide +kernel
theorem dX7_leastOf_16 : decode cX7_leastOf 16 = .ok (.iload 4, 2) := by decide +kernel
theorem dX7_leastOf_18 : decode cX7_leastOf 18 = .ok (.invokevirtual 266, 3) := by decide +kernel
theorem dX7_leastOf_21 : decode cX7_leastOf 21 = .ok (.istore 5, 2) := by decide +kernel
theorem dX7_leastOf_23 : decode cX7_leastOf 23 = .ok (.iload_n 3, 1) := by decide +kernel
theorem dX7_leastOf_24 : decode cX7_leastOf 24 = .ok (.iconst (-1), 1) := by decide +kernel
theorem dX7_leastOf_25 : decode cX7_leastOf 25 = .ok (.if_icmp .eq 9, 3) := by decide +kernel
theorem dX7_leastOf_28 : decode cX7_leastOf 28 = .ok (.iload 5, 2) := by decide +kernel
theorem dX7_leastOf_30 : decode cX7_leastOf 30 = .ok (.iload_n 3, 1) := by decide +kernel
theorem dX7_leastOf_31 : decode cX7_leastOf 31 = .ok (.if_icmp .ge 8, 3) := by decide +kernel
theorem dX7_leastOf_34 : decode cX7_leastOf 34 = .ok (.iload 5, 2) := by decide +kernel
theorem dX7_leastOf_36 : decode cX7_leastOf 36 = .ok (.goto 4, 3) := by decide +kernel
theorem dX7_leastOf_39 : decode cX7_leastOf 39 = .ok (.iload_n 3, 1) := by decide +kernel
theorem dX7_leastOf_40 : decode cX7_leastOf 40 = .ok (.istore_n 3, 1) := by decide +kernel
theorem dX7_leastOf_41 : decode cX7_leastOf 41 = .ok (.iinc 4 1, 3) := by decide +kernel
theorem dX7_leastOf_44 : decode cX7_leastOf 44 = .ok (.goto (-39), 3) := by decide +kernel
theorem dX7_leastOf_47 : decode cX7_leastOf 47 = .ok (.iload_n 3, 1) := by decide +kernel
theorem dX7_leastOf_48 : decode cX7_leastOf 48 = .ok (.ireturn, 1) := by decide +kernel
theorem dX7_weakest_0 : decode cX7_weakest 0 = .ok (.iload_n 1, 1) := by decide +kernel
theorem dX7_weakest_1 : decode cX7_weakest 1 = .ok (.i2l, 1) := by decide +kernel
theorem dX7_weakest_2 : decode cX7_weakest 2 = .ok (.lconst 0, 1) := by decide +kernel
theorem dX7_weakest_3 : decode cX7_weakest 3 = .ok (.lconst 1, 1) := by decide +kernel
theorem dX7_weakest_4 : decode cX7_weakest 4 = .ok (.invokestatic 85, 3) := by decide +kernel
theorem dX7_weakest_7 : decode cX7_weakest 7 = .ok (.ifCond .ne 10, 3) := by decide +kernel
theorem dX7_weakest_10 : decode cX7_weakest 10 = .ok (.aload_n 0, 1) := by decide +kernel
theorem dX7_weakest_11 : decode cX7_weakest 11 = .ok (.bipush (-2), 2) := by decide +kernel
theorem dX7_weakest_13 : decode cX7_weakest 13 = .ok (.invokevirtual 99, 3) := by decide +kernel
theorem dX7_weakest_16 : decode cX7_weakest 16 = .ok (.ireturn, 1) := by decide +kernel
theorem dX7_weakest_17 : decode cX7_weakest 17 = .ok (.iconst 0, 1) := by decide +kernel
theorem dX7_weakest_18 : decode cX7_weakest 18 = .ok (.istore_n 2, 1) := by decide +kernel
theorem dX7_weakest_19 : decode cX7_weakest 19 = .ok (.iload_n 2, 1) := by decide +kernel
theorem dX7_weakest_20 : decode cX7_weakest 20 = .ok (.aload_n 0, 1) := by decide +kernel
theorem dX7_weakest_21 : decode cX7_weakest 21 = .ok (.getfield 57, 3) := by decide +kernel
theorem dX7_weakest_24 : decode cX7_weakest 24 = .ok (.iload_n 1, 1) := by decide +kernel
theorem dX7_weakest_25 : decode cX7_weakest 25 = .ok (.iaload, 1) := by decide +kernel
theorem dX7_weakest_26 : decode cX7_weakest 26 = .ok (.iconst 1, 1) := by decide +kernel
theorem dX7_weakest_27 : decode cX7_weakest 27 = .ok (.isub, 1) := by decide +kernel
theorem dX7_weakest_28 : decode cX7_weakest 28 = .ok (.if_icmp .ge 47, 3) := by decide +kernel
theorem dX7_weakest_31 : decode cX7_weakest 31 = .ok (.aload_n 0, 1) := by decide +kernel
theorem dX7_weakest_32 : decode cX7_weakest 32 = .ok (.aload_n 0, 1) := by decide +kernel
theorem dX7_weakest_33 : decode cX7_weakest 33 = .ok (.getfield 54, 3) := by decide +kernel
theorem dX7_weakest_36 : decode cX7_weakest 36 = .ok (.iload_n 1, 1) := by decide +kernel
theorem dX7_weakest_37 : decode cX7_weakest 37 = .ok (.aaload, 1) := by decide +kernel
theorem dX7_weakest_38 : decode cX7_weakest 38 = .ok (.aload_n 0, 1) := by decide +kernel
theorem dX7_weakest_39 : decode cX7_weakest 39 = .ok (.getfield 57, 3) := by decide +kernel
theorem dX7_weakest_42 : decode cX7_weakest 42 = .ok (.iload_n 1, 1) := by decide +kernel
theorem dX7_weakest_43 : decode cX7_weakest 43 = .ok (.iaload, 1) := by decide +kernel
theorem dX7_weakest_44 : decode cX7_weakest 44 = .ok (.iload_n 2, 1) := by decide +kernel
theorem dX7_weakest_45 : decode cX7_weakest 45 = .ok (.invokevirtual 266, 3) := by decide +kernel
theorem dX7_weakest_48 : decode cX7_weakest 48 = .ok (.aload_n 0, 1) := by decide +kernel
theorem dX7_weakest_49 : decode cX7_weakest 49 = .ok (.aload_n 0, 1) := by decide +kernel
theorem dX7_weakest_50 : decode cX7_weakest 50 = .ok (.getfield 54, 3) := by decide +kernel
theorem dX7_weakest_53 : decode cX7_weakest 53 = .ok (.iload_n 1, 1) := by decide +kernel
theorem dX7_weakest_54 : decode cX7_weakest 54 = .ok (.aaload, 1) := by decide +kernel
theorem dX7_weakest_55 : decode cX7_weakest 55 = .ok (.aload_n 0, 1) := by decide +kernel
theorem dX7_weakest_56 : decode cX7_weakest 56 = .ok (.getfield 57, 3) := by decide +kernel
theorem dX7_weakest_59 : decode cX7_weakest 59 = .ok (.iload_n 1, 1) := by decide +kernel
theorem dX7_weakest_60 : decode cX7_weakest 60 = .ok (.iaload, 1) := by decide +kernel
theorem dX7_weakest_61 : decode cX7_weakest 61 = .ok (.invokevirtual 270, 3) := by decide +kernel
theorem dX7_weakest_64 : decode cX7_weakest 64 = .ok (.if_icmp .ne 5, 3) := by decide +kernel
theorem dX7_weakest_67 : decode cX7_weakest 67 = .ok (.iload_n 2, 1) := by decide +kernel
theorem dX7_weakest_68 : decode cX7_weakest 68 = .ok (.ireturn, 1) := by decide +kernel
theorem dX7_weakest_69 : decode cX7_weakest 69 = .ok (.iinc 2 1, 3) := by decide +kernel
theorem dX7_weakest_72 : decode cX7_weakest 72 = .ok (.goto (-53), 3) := by decide +kernel
theorem dX7_weakest_75 : decode cX7_weakest 75 = .ok (.aload_n 0, 1) := by decide +kernel
theorem dX7_weakest_76 : decode cX7_weakest 76 = .ok (.bipush (-5), 2) := by decide +kernel
theorem dX7_weakest_78 : decode cX7_weakest 78 = .ok (.invokevirtual 99, 3) := by decide +kernel
theorem dX7_weakest_81 : decode cX7_weakest 81 = .ok (.ireturn, 1) := by decide +kernel
theorem dX7_strongest_0 : decode cX7_strongest 0 = .ok (.iload_n 1, 1) := by decide +kernel
theorem dX7_strongest_1 : decode cX7_strongest 1 = .ok (.i2l, 1) := by decide +kernel
theorem dX7_strongest_2 : decode cX7_strongest 2 = .ok (.lconst 0, 1) := by decide +kernel
theorem dX7_strongest_3 : decode cX7_strongest 3 = .ok (.lconst 1, 1) := by decide +kernel
theorem dX7_strongest_4 : decode cX7_strongest 4 = .ok (.invokestatic 85, 3) := by decide +kernel
theorem dX7_strongest_7 : decode cX7_strongest 7 = .ok (.ifCond .ne 10, 3) := by decide +kernel
theorem dX7_strongest_10 : decode cX7_strongest 10 = .ok (.aload_n 0, 1) := by decide +kernel
theorem dX7_strongest_11 : decode cX7_strongest 11 = .ok (.bipush (-2), 2) := by decide +kernel
theorem dX7_strongest_13 : decode cX7_strongest 13 = .ok (.invokevirtual 99, 3) := by decide +kernel
theorem dX7_strongest_16 : decode cX7_strongest 16 = .ok (.ireturn, 1) := by decide +kernel
theorem dX7_strongest_17 : decode cX7_strongest 17 = .ok (.aload_n 0, 1) := by decide +kernel
theorem dX7_strongest_18 : decode cX7_strongest 18 = .ok (.getfield 57, 3) := by decide +kernel
theorem dX7_strongest_21 : decode cX7_strongest 21 = .ok (.iload_n 1, 1) := by decide +kernel
theorem dX7_strongest_22 : decode cX7_strongest 22 = .ok (.iaload, 1) := by decide +kernel
theorem dX7_strongest_23 : decode cX7_strongest 23 = .ok (.iconst 2, 1) := by decide +kernel
theorem dX7_strongest_24 : decode cX7_strongest 24 = .ok (.if_icmp .ge 10, 3) := by decide +kernel
theorem dX7_strongest_27 : decode cX7_strongest 27 = .ok (.aload_n 0, 1) := by decide +kernel
theorem dX7_strongest_28 : decode cX7_strongest 28 = .ok (.bipush (-5), 2) := by decide +kernel
theorem dX7_strongest_30 : decode cX7_strongest 30 = .ok (.invokevirtual 99, 3) := by decide +kernel
theorem dX7_strongest_33 : decode cX7_strongest 33 = .ok (.ireturn, 1) := by decide +kernel
theorem dX7_strongest_34 : decode cX7_strongest 34 = .ok (.iconst 0, 1) := by decide +kernel
theorem dX7_strongest_35 : decode cX7_strongest 35 = .ok (.istore_n 2, 1) := by decide +kernel
theorem dX7_strongest_36 : decode cX7_strongest 36 = .ok (.iconst 1, 1) := by decide +kernel
theorem dX7_strongest_37 : decode cX7_strongest 37 = .ok (.istore_n 3, 1) := by decide +kernel
theorem dX7_strongest_38 : decode cX7_strongest 38 = .ok (.iload_n 3, 1) := by decide +kernel
theorem dX7_strongest_39 : decode cX7_strongest 39 = .ok (.aload_n 0, 1) := by decide +kernel
theorem dX7_strongest_40 : decode cX7_strongest 40 = .ok (.getfield 57, 3) := by decide +kernel
theorem dX7_strongest_43 : decode cX7_strongest 43 = .ok (.iload_n 1, 1) := by decide +kernel
theorem dX7_strongest_44 : decode cX7_strongest 44 = .ok (.iaload, 1) := by decide +kernel
theorem dX7_strongest_45 : decode cX7_strongest 45 = .ok (.iconst 1, 1) := by decide +kernel
theorem dX7_strongest_46 : decode cX7_strongest 46 = .ok (.isub, 1) := by decide +kernel
theorem dX7_strongest_47 : decode cX7_strongest 47 = .ok (.if_icmp .ge 52, 3) := by decide +kernel
theorem dX7_strongest_50 : decode cX7_strongest 50 = .ok (.aload_n 0, 1) := by decide +kernel
theorem dX7_strongest_51 : decode cX7_strongest 51 = .ok (.aload_n 0, 1) := by decide +kernel
theorem dX7_strongest_52 : decode cX7_strongest 52 = .ok (.getfield 54, 3) := by decide +kernel
theorem dX7_strongest_55 : decode cX7_strongest 55 = .ok (.iload_n 1, 1) := by decide +kernel
theorem dX7_strongest_56 : decode cX7_strongest 56 = .ok (.aaload, 1) := by decide +kernel
theorem dX7_strongest_57 : decode cX7_strongest 57 = .ok (.aload_n 0, 1) := by decide +kernel
theorem dX7_strongest_58 : decode cX7_strongest 58 = .ok (.getfield 57, 3) := by decide +kernel
theorem dX7_strongest_61 : decode cX7_strongest 61 = .ok (.iload_n 1, 1) := by decide +kernel
theorem dX7_strongest_62 : decode cX7_strongest 62 = .ok (.iaload, 1) := by decide +kernel
theorem dX7_strongest_63 : decode cX7_strongest 63 = .ok (.iload_n 3, 1) := by decide +kernel
theorem dX7_strongest_64 : decode cX7_strongest 64 = .ok (.invokevirtual 266, 3) := by decide +kernel
theorem dX7_strongest_67 : decode cX7_strongest 67 = .ok (.aload_n 0, 1) := by decide +kernel
theorem dX7_strongest_68 : decode cX7_strongest 68 = .ok (.aload_n 0, 1) := by decide +kernel
theorem dX7_strongest_69 : decode cX7_strongest 69 = .ok (.getfield 54, 3) := by decide +kernel
theorem dX7_strongest_72 : decode cX7_strongest 72 = .ok (.iload_n 1, 1) := by decide +kernel
theorem dX7_strongest_73 : decode cX7_strongest 73 = .ok (.aaload, 1) := by decide +kernel
theorem dX7_strongest_74 : decode cX7_strongest 74 = .ok (.aload_n 0, 1) := by decide +kernel
theorem dX7_strongest_75 : decode cX7_strongest 75 = .ok (.getfield 57, 3) := by decide +kernel
theorem dX7_strongest_78 : decode cX7_strongest 78 = .ok (.iload_n 1, 1) := by decide +kernel
theorem dX7_strongest_79 : decode cX7_strongest 79 = .ok (.iaload, 1) := by decide +kernel
theorem dX7_strongest_80 : decode cX7_strongest 80 = .ok (.iload_n 2, 1) := by decide +kernel
theorem dX7_strongest_81 : decode cX7_strongest 81 = .ok (.invokevirtual 266, 3) := by decide +kernel
theorem dX7_strongest_84 : decode cX7_strongest 84 = .ok (.if_icmp .le 7, 3) := by decide +kernel
theorem dX7_strongest_87 : decode cX7_strongest 87 = .ok (.iload_n 3, 1) := by decide +kernel
theorem dX7_strongest_88 : decode cX7_strongest 88 = .ok (.goto 4, 3) := by decide +kernel
theorem dX7_strongest_91 : decode cX7_strongest 91 = .ok (.iload_n 2, 1) := by decide +kernel
theorem dX7_strongest_92 : decode cX7_strongest 92 = .ok (.istore_n 2, 1) := by decide +kernel
theorem dX7_strongest_93 : decode cX7_strongest 93 = .ok (.iinc 3 1, 3) := by decide +kernel
theorem dX7_strongest_96 : decode cX7_strongest 96 = .ok (.goto (-58), 3) := by decide +kernel
theorem dX7_strongest_99 : decode cX7_strongest 99 = .ok (.iload_n 2, 1) := by decide +kernel
theorem dX7_strongest_100 : decode cX7_strongest 100 = .ok (.ireturn, 1) := by decide +kernel
theorem dX7_hardest_0 : decode cX7_hardest 0 = .ok (.iload_n 1, 1) := by decide +kernel
theorem dX7_hardest_1 : decode cX7_hardest 1 = .ok (.i2l, 1) := by decide +kernel
theorem dX7_hardest_2 : decode cX7_hardest 2 = .ok (.lconst 0, 1) := by decide +kernel
theorem dX7_hardest_3 : decode cX7_hardest 3 = .ok (.lconst 1, 1) := by decide +kernel
theorem dX7_hardest_4 : decode cX7_hardest 4 = .ok (.invokestatic 85, 3) := by decide +kernel
theorem dX7_hardest_7 : decode cX7_hardest 7 = .ok (.ifCond .ne 10, 3) := by decide +kernel
theorem dX7_hardest_10 : decode cX7_hardest 10 = .ok (.aload_n 0, 1) := by decide +kernel
theorem dX7_hardest_11 : decode cX7_hardest 11 = .ok (.bipush (-2), 2) := by decide +kernel
theorem dX7_hardest_13 : decode cX7_hardest 13 = .ok (.invokevirtual 99, 3) := by decide +kernel
theorem dX7_hardest_16 : decode cX7_hardest 16 = .ok (.ireturn, 1) := by decide +kernel
theorem dX7_hardest_17 : decode cX7_hardest 17 = .ok (.aload_n 0, 1) := by decide +kernel
theorem dX7_hardest_18 : decode cX7_hardest 18 = .ok (.getfield 57, 3) := by decide +kernel
theorem dX7_hardest_21 : decode cX7_hardest 21 = .ok (.iload_n 1, 1) := by decide +kernel
theorem dX7_hardest_22 : decode cX7_hardest 22 = .ok (.iaload, 1) := by decide +kernel
theorem dX7_hardest_23 : decode cX7_hardest 23 = .ok (.ifCond .ne 10, 3) := by decide +kernel
theorem dX7_hardest_26 : decode cX7_hardest 26 = .ok (.aload_n 0, 1) := by decide +kernel
theorem dX7_hardest_27 : decode cX7_hardest 27 = .ok (.bipush (-5), 2) := by decide +kernel
theorem dX7_hardest_29 : decode cX7_hardest 29 = .ok (.invokevirtual 99, 3) := by decide +kernel
theorem dX7_hardest_32 : decode cX7_hardest 32 = .ok (.ireturn, 1) := by decide +kernel
theorem dX7_hardest_33 : decode cX7_hardest 33 = .ok (.aload_n 0, 1) := by decide +kernel
theorem dX7_hardest_34 : decode cX7_hardest 34 = .ok (.getfield 54, 3) := by decide +kernel
theorem dX7_hardest_37 : decode cX7_hardest 37 = .ok (.iload_n 1, 1) := by decide +kernel
theorem dX7_hardest_38 : decode cX7_hardest 38 = .ok (.aaload, 1) := by decide +kernel
theorem dX7_hardest_39 : decode cX7_hardest 39 = .ok (.iconst 0, 1) := by decide +kernel
theorem dX7_hardest_40 : decode cX7_hardest 40 = .ok (.iaload, 1) := by decide +kernel
theorem dX7_hardest_41 : decode cX7_hardest 41 = .ok (.istore_n 2, 1) := by decide +kernel
theorem dX7_hardest_42 : decode cX7_hardest 42 = .ok (.iconst 1, 1) := by decide +kernel
theorem dX7_hardest_43 : decode cX7_hardest 43 = .ok (.istore_n 3, 1) := by decide +kernel
theorem dX7_hardest_44 : decode cX7_hardest 44 = .ok (.iload_n 3, 1) := by decide +kernel
theorem dX7_hardest_45 : decode cX7_hardest 45 = .ok (.aload_n 0, 1) := by decide +kernel
theorem dX7_hardest_46 : decode cX7_hardest 46 = .ok (.getfield 57, 3) := by decide +kernel
theorem dX7_hardest_49 : decode cX7_hardest 49 = .ok (.iload_n 1, 1) := by decide +kernel
theorem dX7_hardest_50 : decode cX7_hardest 50 = .ok (.iaload, 1) := by decide +kernel
theorem dX7_hardest_51 : decode cX7_hardest 51 = .ok (.if_icmp .ge 42, 3) := by decide +kernel
theorem dX7_hardest_54 : decode cX7_hardest 54 = .ok (.aload_n 0, 1) := by decide +kernel
theorem dX7_hardest_55 : decode cX7_hardest 55 = .ok (.aload_n 0, 1) := by decide +kernel
theorem dX7_hardest_56 : decode cX7_hardest 56 = .ok (.getfield 54, 3) := by decide +kernel
theorem dX7_hardest_59 : decode cX7_hardest 59 = .ok (.iload_n 1, 1) := by decide +kernel
theorem dX7_hardest_60 : decode cX7_hardest 60 = .ok (.aaload, 1) := by decide +kernel
theorem dX7_hardest_61 : decode cX7_hardest 61 = .ok (.iload_n 3, 1) := by decide +kernel
theorem dX7_hardest_62 : decode cX7_hardest 62 = .ok (.iaload, 1) := by decide +kernel
theorem dX7_hardest_63 : decode cX7_hardest 63 = .ok (.invokevirtual 126, 3) := by decide +kernel
theorem dX7_hardest_66 : decode cX7_hardest 66 = .ok (.aload_n 0, 1) := by decide +kernel
theorem dX7_hardest_67 : decode cX7_hardest 67 = .ok (.iload_n 2, 1) := by decide +kernel
theorem dX7_hardest_68 : decode cX7_hardest 68 = .ok (.invokevirtual 126, 3) := by decide +kernel
theorem dX7_hardest_71 : decode cX7_hardest 71 = .ok (.if_icmp .le 14, 3) := by decide +kernel
theorem dX7_hardest_74 : decode cX7_hardest 74 = .ok (.aload_n 0, 1) := by decide +kernel
theorem dX7_hardest_75 : decode cX7_hardest 75 = .ok (.getfield 54, 3) := by decide +kernel
