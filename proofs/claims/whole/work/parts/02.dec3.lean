theorem dX6_says_20 : decode cX6_says 20 = .ok (.invokevirtual 67, 3) := by decide +kernel
theorem dX6_says_23 : decode cX6_says 23 = .ok (.ireturn, 1) := by decide +kernel
theorem dX6_says_24 : decode cX6_says 24 = .ok (.aload_n 0, 1) := by decide +kernel
theorem dX6_says_25 : decode cX6_says 25 = .ok (.getfield 54, 3) := by decide +kernel
theorem dX6_says_28 : decode cX6_says 28 = .ok (.iload_n 1, 1) := by decide +kernel
theorem dX6_says_29 : decode cX6_says 29 = .ok (.aaload, 1) := by decide +kernel
theorem dX6_says_30 : decode cX6_says 30 = .ok (.getfield 87, 3) := by decide +kernel
theorem dX6_says_33 : decode cX6_says 33 = .ok (.iconst (-1), 1) := by decide +kernel
theorem dX6_says_34 : decode cX6_says 34 = .ok (.if_icmp .ne 10, 3) := by decide +kernel
theorem dX6_says_37 : decode cX6_says 37 = .ok (.aload_n 0, 1) := by decide +kernel
theorem dX6_says_38 : decode cX6_says 38 = .ok (.bipush (-4), 2) := by decide +kernel
theorem dX6_says_40 : decode cX6_says 40 = .ok (.invokevirtual 67, 3) := by decide +kernel
theorem dX6_says_43 : decode cX6_says 43 = .ok (.ireturn, 1) := by decide +kernel
theorem dX6_says_44 : decode cX6_says 44 = .ok (.aload_n 0, 1) := by decide +kernel
theorem dX6_says_45 : decode cX6_says 45 = .ok (.getfield 54, 3) := by decide +kernel
theorem dX6_says_48 : decode cX6_says 48 = .ok (.iload_n 1, 1) := by decide +kernel
theorem dX6_says_49 : decode cX6_says 49 = .ok (.aaload, 1) := by decide +kernel
theorem dX6_says_50 : decode cX6_says 50 = .ok (.getfield 87, 3) := by decide +kernel
theorem dX6_says_53 : decode cX6_says 53 = .ok (.bipush 10, 2) := by decide +kernel
theorem dX6_says_55 : decode cX6_says 55 = .ok (.isub, 1) := by decide +kernel
theorem dX6_says_56 : decode cX6_says 56 = .ok (.istore_n 3, 1) := by decide +kernel
theorem dX6_says_57 : decode cX6_says 57 = .ok (.aload_n 0, 1) := by decide +kernel
theorem dX6_says_58 : decode cX6_says 58 = .ok (.getfield 10, 3) := by decide +kernel
theorem dX6_says_61 : decode cX6_says 61 = .ok (.iload_n 3, 1) := by decide +kernel
theorem dX6_says_62 : decode cX6_says 62 = .ok (.invokevirtual 111, 3) := by decide +kernel
theorem dX6_says_65 : decode cX6_says 65 = .ok (.ifCond .eq 19, 3) := by decide +kernel
theorem dX6_says_68 : decode cX6_says 68 = .ok (.aload_n 0, 1) := by decide +kernel
theorem dX6_says_69 : decode cX6_says 69 = .ok (.getfield 10, 3) := by decide +kernel
theorem dX6_says_72 : decode cX6_says 72 = .ok (.getfield 114, 3) := by decide +kernel
theorem dX6_says_75 : decode cX6_says 75 = .ok (.iload_n 3, 1) := by decide +kernel
theorem dX6_says_76 : decode cX6_says 76 = .ok (.iaload, 1) := by decide +kernel
theorem dX6_says_77 : decode cX6_says 77 = .ok (.iload_n 2, 1) := by decide +kernel
theorem dX6_says_78 : decode cX6_says 78 = .ok (.invokestatic 117, 3) := by decide +kernel
theorem dX6_says_81 : decode cX6_says 81 = .ok (.ifCond .ne 10, 3) := by decide +kernel
theorem dX6_says_84 : decode cX6_says 84 = .ok (.aload_n 0, 1) := by decide +kernel
theorem dX6_says_85 : decode cX6_says 85 = .ok (.bipush (-3), 2) := by decide +kernel
theorem dX6_says_87 : decode cX6_says 87 = .ok (.invokevirtual 67, 3) := by decide +kernel
theorem dX6_says_90 : decode cX6_says 90 = .ok (.ireturn, 1) := by decide +kernel
theorem dX6_says_91 : decode cX6_says 91 = .ok (.iload_n 2, 1) := by decide +kernel
theorem dX6_says_92 : decode cX6_says 92 = .ok (.tableswitch 71 0 3 #[32, 42, 42, 52], 32) := by decide +kernel
theorem dX6_says_124 : decode cX6_says 124 = .ok (.aload_n 0, 1) := by decide +kernel
theorem dX6_says_125 : decode cX6_says 125 = .ok (.getfield 10, 3) := by decide +kernel
theorem dX6_says_128 : decode cX6_says 128 = .ok (.getfield 120, 3) := by decide +kernel
theorem dX6_says_131 : decode cX6_says 131 = .ok (.iload_n 3, 1) := by decide +kernel
theorem dX6_says_132 : decode cX6_says 132 = .ok (.iaload, 1) := by decide +kernel
theorem dX6_says_133 : decode cX6_says 133 = .ok (.ireturn, 1) := by decide +kernel
theorem dX6_says_134 : decode cX6_says 134 = .ok (.aload_n 0, 1) := by decide +kernel
theorem dX6_says_135 : decode cX6_says 135 = .ok (.getfield 10, 3) := by decide +kernel
theorem dX6_says_138 : decode cX6_says 138 = .ok (.iload_n 3, 1) := by decide +kernel
theorem dX6_says_139 : decode cX6_says 139 = .ok (.iconst (-1), 1) := by decide +kernel
theorem dX6_says_140 : decode cX6_says 140 = .ok (.invokevirtual 123, 3) := by decide +kernel
theorem dX6_says_143 : decode cX6_says 143 = .ok (.ireturn, 1) := by decide +kernel
theorem dX6_says_144 : decode cX6_says 144 = .ok (.aload_n 0, 1) := by decide +kernel
theorem dX6_says_145 : decode cX6_says 145 = .ok (.getfield 10, 3) := by decide +kernel
theorem dX6_says_148 : decode cX6_says 148 = .ok (.aload_n 0, 1) := by decide +kernel
theorem dX6_says_149 : decode cX6_says 149 = .ok (.getfield 10, 3) := by decide +kernel
theorem dX6_says_152 : decode cX6_says 152 = .ok (.getfield 120, 3) := by decide +kernel
theorem dX6_says_155 : decode cX6_says 155 = .ok (.iload_n 3, 1) := by decide +kernel
theorem dX6_says_156 : decode cX6_says 156 = .ok (.iaload, 1) := by decide +kernel
theorem dX6_says_157 : decode cX6_says 157 = .ok (.invokevirtual 126, 3) := by decide +kernel
theorem dX6_says_160 : decode cX6_says 160 = .ok (.iconst 1, 1) := by decide +kernel
theorem dX6_says_161 : decode cX6_says 161 = .ok (.isub, 1) := by decide +kernel
theorem dX6_says_162 : decode cX6_says 162 = .ok (.ireturn, 1) := by decide +kernel
theorem dX6_says_163 : decode cX6_says 163 = .ok (.aload_n 0, 1) := by decide +kernel
theorem dX6_says_164 : decode cX6_says 164 = .ok (.getfield 10, 3) := by decide +kernel
theorem dX6_says_167 : decode cX6_says 167 = .ok (.iload_n 3, 1) := by decide +kernel
theorem dX6_says_168 : decode cX6_says 168 = .ok (.invokevirtual 129, 3) := by decide +kernel
theorem dX6_says_171 : decode cX6_says 171 = .ok (.ireturn, 1) := by decide +kernel
theorem dX6_one_0 : decode cX6_one 0 = .ok (.iload_n 1, 1) := by decide +kernel
theorem dX6_one_1 : decode cX6_one 1 = .ok (.invokestatic 132, 3) := by decide +kernel
theorem dX6_one_4 : decode cX6_one 4 = .ok (.ifCond .eq 40, 3) := by decide +kernel
theorem dX6_one_7 : decode cX6_one 7 = .ok (.iload_n 2, 1) := by decide +kernel
theorem dX6_one_8 : decode cX6_one 8 = .ok (.ifCond .lt 36, 3) := by decide +kernel
theorem dX6_one_11 : decode cX6_one 11 = .ok (.iload_n 2, 1) := by decide +kernel
theorem dX6_one_12 : decode cX6_one 12 = .ok (.bipush 6, 2) := by decide +kernel
theorem dX6_one_14 : decode cX6_one 14 = .ok (.if_icmp .ge 30, 3) := by decide +kernel
theorem dX6_one_17 : decode cX6_one 17 = .ok (.iload_n 3, 1) := by decide +kernel
theorem dX6_one_18 : decode cX6_one 18 = .ok (.invokestatic 135, 3) := by decide +kernel
theorem dX6_one_21 : decode cX6_one 21 = .ok (.ifCond .eq 23, 3) := by decide +kernel
theorem dX6_one_24 : decode cX6_one 24 = .ok (.iload 4, 2) := by decide +kernel
theorem dX6_one_26 : decode cX6_one 26 = .ok (.invokestatic 135, 3) := by decide +kernel
theorem dX6_one_29 : decode cX6_one 29 = .ok (.ifCond .eq 15, 3) := by decide +kernel
theorem dX6_one_32 : decode cX6_one 32 = .ok (.iload 5, 2) := by decide +kernel
theorem dX6_one_34 : decode cX6_one 34 = .ok (.ifCond .lt 10, 3) := by decide +kernel
theorem dX6_one_37 : decode cX6_one 37 = .ok (.iload 5, 2) := by decide +kernel
theorem dX6_one_39 : decode cX6_one 39 = .ok (.bipush 9, 2) := by decide +kernel
theorem dX6_one_41 : decode cX6_one 41 = .ok (.if_icmp .le 10, 3) := by decide +kernel
theorem dX6_one_44 : decode cX6_one 44 = .ok (.aload_n 0, 1) := by decide +kernel
theorem dX6_one_45 : decode cX6_one 45 = .ok (.bipush (-2), 2) := by decide +kernel
theorem dX6_one_47 : decode cX6_one 47 = .ok (.invokevirtual 67, 3) := by decide +kernel
theorem dX6_one_50 : decode cX6_one 50 = .ok (.ireturn, 1) := by decide +kernel
theorem dX6_one_51 : decode cX6_one 51 = .ok (.aload_n 0, 1) := by decide +kernel
theorem dX6_one_52 : decode cX6_one 52 = .ok (.getfield 10, 3) := by decide +kernel
theorem dX6_one_55 : decode cX6_one 55 = .ok (.getfield 138, 3) := by decide +kernel
theorem dX6_one_58 : decode cX6_one 58 = .ok (.bipush 8, 2) := by decide +kernel
theorem dX6_one_60 : decode cX6_one 60 = .ok (.if_icmp .lt 10, 3) := by decide +kernel
theorem dX6_one_63 : decode cX6_one 63 = .ok (.aload_n 0, 1) := by decide +kernel
theorem dX6_one_64 : decode cX6_one 64 = .ok (.bipush (-6), 2) := by decide +kernel
theorem dX6_one_66 : decode cX6_one 66 = .ok (.invokevirtual 67, 3) := by decide +kernel
theorem dX6_one_69 : decode cX6_one 69 = .ok (.ireturn, 1) := by decide +kernel
theorem dX6_one_70 : decode cX6_one 70 = .ok (.aload_n 0, 1) := by decide +kernel
theorem dX6_one_71 : decode cX6_one 71 = .ok (.getfield 10, 3) := by decide +kernel
theorem dX6_one_74 : decode cX6_one 74 = .ok (.iload_n 1, 1) := by decide +kernel
theorem dX6_one_75 : decode cX6_one 75 = .ok (.iload_n 2, 1) := by decide +kernel
theorem dX6_one_76 : decode cX6_one 76 = .ok (.iload_n 3, 1) := by decide +kernel
theorem dX6_one_77 : decode cX6_one 77 = .ok (.iload 4, 2) := by decide +kernel
theorem dX6_one_79 : decode cX6_one 79 = .ok (.iload 5, 2) := by decide +kernel
theorem dX6_one_81 : decode cX6_one 81 = .ok (.invokevirtual 141, 3) := by decide +kernel
theorem dX6_one_84 : decode cX6_one 84 = .ok (.ireturn, 1) := by decide +kernel
theorem dX6_tell_0 : decode cX6_tell 0 = .ok (.aload_n 0, 1) := by decide +kernel
theorem dX6_tell_1 : decode cX6_tell 1 = .ok (.getfield 10, 3) := by decide +kernel
theorem dX6_tell_4 : decode cX6_tell 4 = .ok (.iload_n 1, 1) := by decide +kernel
theorem dX6_tell_5 : decode cX6_tell 5 = .ok (.invokevirtual 111, 3) := by decide +kernel
theorem dX6_tell_8 : decode cX6_tell 8 = .ok (.ifCond .eq 19, 3) := by decide +kernel
theorem dX6_tell_11 : decode cX6_tell 11 = .ok (.iload_n 2, 1) := by decide +kernel
theorem dX6_tell_12 : decode cX6_tell 12 = .ok (.ifCond .lt 15, 3) := by decide +kernel
theorem dX6_tell_15 : decode cX6_tell 15 = .ok (.iload_n 2, 1) := by decide +kernel
theorem dX6_tell_16 : decode cX6_tell 16 = .ok (.iconst 2, 1) := by decide +kernel
theorem dX6_tell_17 : decode cX6_tell 17 = .ok (.if_icmp .gt 10, 3) := by decide +kernel
theorem dX6_tell_20 : decode cX6_tell 20 = .ok (.iload_n 3, 1) := by decide +kernel
theorem dX6_tell_21 : decode cX6_tell 21 = .ok (.invokestatic 135, 3) := by decide +kernel
theorem dX6_tell_24 : decode cX6_tell 24 = .ok (.ifCond .ne 10, 3) := by decide +kernel
theorem dX6_tell_27 : decode cX6_tell 27 = .ok (.aload_n 0, 1) := by decide +kernel
theorem dX6_tell_28 : decode cX6_tell 28 = .ok (.bipush (-2), 2) := by decide +kernel
theorem dX6_tell_30 : decode cX6_tell 30 = .ok (.invokevirtual 67, 3) := by decide +kernel
theorem dX6_tell_33 : decode cX6_tell 33 = .ok (.ireturn, 1) := by decide +kernel
theorem dX6_tell_34 : decode cX6_tell 34 = .ok (.iload_n 2, 1) := by decide +kernel
theorem dX6_tell_35 : decode cX6_tell 35 = .ok (.ifCond .ne 13, 3) := by decide +kernel
theorem dX6_tell_38 : decode cX6_tell 38 = .ok (.aload_n 0, 1) := by decide +kernel
theorem dX6_tell_39 : decode cX6_tell 39 = .ok (.getfield 10, 3) := by decide +kernel
theorem dX6_tell_42 : decode cX6_tell 42 = .ok (.getfield 145, 3) := by decide +kernel
theorem dX6_tell_45 : decode cX6_tell 45 = .ok (.goto 25, 3) := by decide +kernel
theorem dX6_tell_48 : decode cX6_tell 48 = .ok (.iload_n 2, 1) := by decide +kernel
theorem dX6_tell_49 : decode cX6_tell 49 = .ok (.iconst 1, 1) := by decide +kernel
theorem dX6_tell_50 : decode cX6_tell 50 = .ok (.if_icmp .ne 13, 3) := by decide +kernel
theorem dX6_tell_53 : decode cX6_tell 53 = .ok (.aload_n 0, 1) := by decide +kernel
theorem dX6_tell_54 : decode cX6_tell 54 = .ok (.getfield 10, 3) := by decide +kernel
theorem dX6_tell_57 : decode cX6_tell 57 = .ok (.getfield 148, 3) := by decide +kernel
theorem dX6_tell_60 : decode cX6_tell 60 = .ok (.goto 10, 3) := by decide +kernel
theorem dX6_tell_63 : decode cX6_tell 63 = .ok (.aload_n 0, 1) := by decide +kernel
theorem dX6_tell_64 : decode cX6_tell 64 = .ok (.getfield 10, 3) := by decide +kernel
theorem dX6_tell_67 : decode cX6_tell 67 = .ok (.getfield 151, 3) := by decide +kernel
theorem dX6_tell_70 : decode cX6_tell 70 = .ok (.astore 4, 2) := by decide +kernel
theorem dX6_tell_72 : decode cX6_tell 72 = .ok (.aload 4, 2) := by decide +kernel
theorem dX6_tell_74 : decode cX6_tell 74 = .ok (.iload_n 1, 1) := by decide +kernel
theorem dX6_tell_75 : decode cX6_tell 75 = .ok (.iaload, 1) := by decide +kernel
theorem dX6_tell_76 : decode cX6_tell 76 = .ok (.istore 5, 2) := by decide +kernel
theorem dX6_tell_78 : decode cX6_tell 78 = .ok (.aload 4, 2) := by decide +kernel
theorem dX6_tell_80 : decode cX6_tell 80 = .ok (.iload_n 1, 1) := by decide +kernel
theorem dX6_tell_81 : decode cX6_tell 81 = .ok (.iload_n 3, 1) := by decide +kernel
theorem dX6_tell_82 : decode cX6_tell 82 = .ok (.iastore, 1) := by decide +kernel
theorem dX6_tell_83 : decode cX6_tell 83 = .ok (.iload 5, 2) := by decide +kernel
theorem dX6_tell_85 : decode cX6_tell 85 = .ok (.ireturn, 1) := by decide +kernel
theorem dX6_ask_0 : decode cX6_ask 0 = .ok (.iload_n 1, 1) := by decide +kernel
theorem dX6_ask_1 : decode cX6_ask 1 = .ok (.iload_n 2, 1) := by decide +kernel
theorem dX6_ask_2 : decode cX6_ask 2 = .ok (.invokestatic 154, 3) := by decide +kernel
theorem dX6_ask_5 : decode cX6_ask 5 = .ok (.ifCond .ne 10, 3) := by decide +kernel
theorem dX6_ask_8 : decode cX6_ask 8 = .ok (.aload_n 0, 1) := by decide +kernel
theorem dX6_ask_9 : decode cX6_ask 9 = .ok (.bipush (-2), 2) := by decide +kernel
theorem dX6_ask_11 : decode cX6_ask 11 = .ok (.invokevirtual 67, 3) := by decide +kernel
theorem dX6_ask_14 : decode cX6_ask 14 = .ok (.ireturn, 1) := by decide +kernel
theorem dX6_ask_15 : decode cX6_ask 15 = .ok (.iload_n 1, 1) := by decide +kernel
theorem dX6_ask_16 : decode cX6_ask 16 = .ok (.tableswitch 108 0 3 #[32, 51, 70, 89], 32) := by decide +kernel
theorem dX6_ask_48 : decode cX6_ask 48 = .ok (.aload_n 0, 1) := by decide +kernel
theorem dX6_ask_49 : decode cX6_ask 49 = .ok (.getfield 10, 3) := by decide +kernel
theorem dX6_ask_52 : decode cX6_ask 52 = .ok (.getfield 157, 3) := by decide +kernel
theorem dX6_ask_55 : decode cX6_ask 55 = .ok (.istore_n 3, 1) := by decide +kernel
theorem dX6_ask_56 : decode cX6_ask 56 = .ok (.aload_n 0, 1) := by decide +kernel
theorem dX6_ask_57 : decode cX6_ask 57 = .ok (.getfield 10, 3) := by decide +kernel
theorem dX6_ask_60 : decode cX6_ask 60 = .ok (.iload_n 2, 1) := by decide +kernel
theorem dX6_ask_61 : decode cX6_ask 61 = .ok (.putfield 157, 3) := by decide +kernel
theorem dX6_ask_64 : decode cX6_ask 64 = .ok (.goto 76, 3) := by decide +kernel
theorem dX6_ask_67 : decode cX6_ask 67 = .ok (.aload_n 0, 1) := by decide +kernel
theorem dX6_ask_68 : decode cX6_ask 68 = .ok (.getfield 10, 3) := by decide +kernel
theorem dX6_ask_71 : decode cX6_ask 71 = .ok (.getfield 160, 3) := by decide +kernel
theorem dX6_ask_74 : decode cX6_ask 74 = .ok (.istore_n 3, 1) := by decide +kernel
theorem dX6_ask_75 : decode cX6_ask 75 = .ok (.aload_n 0, 1) := by decide +kernel
theorem dX6_ask_76 : decode cX6_ask 76 = .ok (.getfield 10, 3) := by decide +kernel
theorem dX6_ask_79 : decode cX6_ask 79 = .ok (.iload_n 2, 1) := by decide +kernel
theorem dX6_ask_80 : decode cX6_ask 80 = .ok (.putfield 160, 3) := by decide +kernel
theorem dX6_ask_83 : decode cX6_ask 83 = .ok (.goto 57, 3) := by decide +kernel
theorem dX6_ask_86 : decode cX6_ask 86 = .ok (.aload_n 0, 1) := by decide +kernel
theorem dX6_ask_87 : decode cX6_ask 87 = .ok (.getfield 10, 3) := by decide +kernel
theorem dX6_ask_90 : decode cX6_ask 90 = .ok (.getfield 163, 3) := by decide +kernel
theorem dX6_ask_93 : decode cX6_ask 93 = .ok (.istore_n 3, 1) := by decide +kernel
theorem dX6_ask_94 : decode cX6_ask 94 = .ok (.aload_n 0, 1) := by decide +kernel
theorem dX6_ask_95 : decode cX6_ask 95 = .ok (.getfield 10, 3) := by decide +kernel
theorem dX6_ask_98 : decode cX6_ask 98 = .ok (.iload_n 2, 1) := by decide +kernel
theorem dX6_ask_99 : decode cX6_ask 99 = .ok (.putfield 163, 3) := by decide +kernel
theorem dX6_ask_102 : decode cX6_ask 102 = .ok (.goto 38, 3) := by decide +kernel
theorem dX6_ask_105 : decode cX6_ask 105 = .ok (.aload_n 0, 1) := by decide +kernel
theorem dX6_ask_106 : decode cX6_ask 106 = .ok (.getfield 10, 3) := by decide +kernel
theorem dX6_ask_109 : decode cX6_ask 109 = .ok (.getfield 166, 3) := by decide +kernel
theorem dX6_ask_112 : decode cX6_ask 112 = .ok (.istore_n 3, 1) := by decide +kernel
theorem dX6_ask_113 : decode cX6_ask 113 = .ok (.aload_n 0, 1) := by decide +kernel
theorem dX6_ask_114 : decode cX6_ask 114 = .ok (.getfield 10, 3) := by decide +kernel
theorem dX6_ask_117 : decode cX6_ask 117 = .ok (.iload_n 2, 1) := by decide +kernel
theorem dX6_ask_118 : decode cX6_ask 118 = .ok (.putfield 166, 3) := by decide +kernel
theorem dX6_ask_121 : decode cX6_ask 121 = .ok (.goto 19, 3) := by decide +kernel
theorem dX6_ask_124 : decode cX6_ask 124 = .ok (.aload_n 0, 1) := by decide +kernel
theorem dX6_ask_125 : decode cX6_ask 125 = .ok (.getfield 10, 3) := by decide +kernel
theorem dX6_ask_128 : decode cX6_ask 128 = .ok (.getfield 169, 3) := by decide +kernel
theorem dX6_ask_131 : decode cX6_ask 131 = .ok (.istore_n 3, 1) := by decide +kernel
theorem dX6_ask_132 : decode cX6_ask 132 = .ok (.aload_n 0, 1) := by decide +kernel
theorem dX6_ask_133 : decode cX6_ask 133 = .ok (.getfield 10, 3) := by decide +kernel
theorem dX6_ask_136 : decode cX6_ask 136 = .ok (.iload_n 2, 1) := by decide +kernel
theorem dX6_ask_137 : decode cX6_ask 137 = .ok (.putfield 169, 3) := by decide +kernel
theorem dX6_ask_140 : decode cX6_ask 140 = .ok (.iload_n 3, 1) := by decide +kernel
theorem dX6_ask_141 : decode cX6_ask 141 = .ok (.ireturn, 1) := by decide +kernel
theorem dX6_feed_0 : decode cX6_feed 0 = .ok (.iload_n 1, 1) := by decide +kernel
theorem dX6_feed_1 : decode cX6_feed 1 = .ok (.ifCond .lt 10, 3) := by decide +kernel
theorem dX6_feed_4 : decode cX6_feed 4 = .ok (.iload_n 1, 1) := by decide +kernel
theorem dX6_feed_5 : decode cX6_feed 5 = .ok (.sipush 255, 3) := by decide +kernel
theorem dX6_feed_8 : decode cX6_feed 8 = .ok (.if_icmp .le 10, 3) := by decide +kernel
theorem dX6_feed_11 : decode cX6_feed 11 = .ok (.aload_n 0, 1) := by decide +kernel
theorem dX6_feed_12 : decode cX6_feed 12 = .ok (.bipush (-2), 2) := by decide +kernel
theorem dX6_feed_14 : decode cX6_feed 14 = .ok (.invokevirtual 67, 3) := by decide +kernel
theorem dX6_feed_17 : decode cX6_feed 17 = .ok (.ireturn, 1) := by decide +kernel
theorem dX6_feed_18 : decode cX6_feed 18 = .ok (.aload_n 0, 1) := by decide +kernel
theorem dX6_feed_19 : decode cX6_feed 19 = .ok (.getfield 48, 3) := by decide +kernel
theorem dX6_feed_22 : decode cX6_feed 22 = .ok (.getfield 172, 3) := by decide +kernel
theorem dX6_feed_25 : decode cX6_feed 25 = .ok (.sipush 250, 3) := by decide +kernel
theorem dX6_feed_28 : decode cX6_feed 28 = .ok (.if_icmp .lt 10, 3) := by decide +kernel
theorem dX6_feed_31 : decode cX6_feed 31 = .ok (.aload_n 0, 1) := by decide +kernel
theorem dX6_feed_32 : decode cX6_feed 32 = .ok (.bipush (-6), 2) := by decide +kernel
theorem dX6_feed_34 : decode cX6_feed 34 = .ok (.invokevirtual 67, 3) := by decide +kernel
theorem dX6_feed_37 : decode cX6_feed 37 = .ok (.ireturn, 1) := by decide +kernel
theorem dX6_feed_38 : decode cX6_feed 38 = .ok (.aload_n 0, 1) := by decide +kernel
theorem dX6_feed_39 : decode cX6_feed 39 = .ok (.getfield 48, 3) := by decide +kernel
theorem dX6_feed_42 : decode cX6_feed 42 = .ok (.iload_n 1, 1) := by decide +kernel
theorem dX6_feed_43 : decode cX6_feed 43 = .ok (.invokevirtual 173, 3) := by decide +kernel
theorem dX6_feed_46 : decode cX6_feed 46 = .ok (.ireturn, 1) := by decide +kernel
theorem dX6_wipe_0 : decode cX6_wipe 0 = .ok (.aload_n 0, 1) := by decide +kernel
theorem dX6_wipe_1 : decode cX6_wipe 1 = .ok (.getfield 48, 3) := by decide +kernel
theorem dX6_wipe_4 : decode cX6_wipe 4 = .ok (.invokevirtual 176, 3) := by decide +kernel
theorem dX6_wipe_7 : decode cX6_wipe 7 = .ok (.ireturn, 1) := by decide +kernel
theorem dX6_yard_0 : decode cX6_yard 0 = .ok (.aload_n 0, 1) := by decide +kernel
theorem dX6_yard_1 : decode cX6_yard 1 = .ok (.getfield 19, 3) := by decide +kernel
theorem dX6_yard_4 : decode cX6_yard 4 = .ok (.aload_n 0, 1) := by decide +kernel
theorem dX6_yard_5 : decode cX6_yard 5 = .ok (.getfield 10, 3) := by decide +kernel
theorem dX6_yard_8 : decode cX6_yard 8 = .ok (.invokevirtual 180, 3) := by decide +kernel
theorem dX6_yard_11 : decode cX6_yard 11 = .ok (.aload_n 0, 1) := by decide +kernel
theorem dX6_yard_12 : decode cX6_yard 12 = .ok (.getfield 48, 3) := by decide +kernel
theorem dX6_yard_15 : decode cX6_yard 15 = .ok (.aload_n 0, 1) := by decide +kernel
theorem dX6_yard_16 : decode cX6_yard 16 = .ok (.getfield 19, 3) := by decide +kernel
theorem dX6_yard_19 : decode cX6_yard 19 = .ok (.invokevirtual 183, 3) := by decide +kernel
theorem dX6_yard_22 : decode cX6_yard 22 = .ok (.istore_n 1, 1) := by decide +kernel
theorem dX6_yard_23 : decode cX6_yard 23 = .ok (.aload_n 0, 1) := by decide +kernel
theorem dX6_yard_24 : decode cX6_yard 24 = .ok (.getfield 48, 3) := by decide +kernel
theorem dX6_yard_27 : decode cX6_yard 27 = .ok (.invokevirtual 176, 3) := by decide +kernel
theorem dX6_yard_30 : decode cX6_yard 30 = .ok (.pop, 1) := by decide +kernel
theorem dX6_yard_31 : decode cX6_yard 31 = .ok (.aload_n 0, 1) := by decide +kernel
theorem dX6_yard_32 : decode cX6_yard 32 = .ok (.getfield 48, 3) := by decide +kernel
theorem dX6_yard_35 : decode cX6_yard 35 = .ok (.getfield 187, 3) := by decide +kernel
theorem dX6_yard_38 : decode cX6_yard 38 = .ok (.iconst (-1), 1) := by decide +kernel
theorem dX6_yard_39 : decode cX6_yard 39 = .ok (.if_icmp .eq 21, 3) := by decide +kernel
theorem dX6_yard_42 : decode cX6_yard 42 = .ok (.aload_n 0, 1) := by decide +kernel
theorem dX6_yard_43 : decode cX6_yard 43 = .ok (.bipush (-2), 2) := by decide +kernel
theorem dX6_yard_45 : decode cX6_yard 45 = .ok (.invokevirtual 67, 3) := by decide +kernel
theorem dX6_yard_48 : decode cX6_yard 48 = .ok (.pop, 1) := by decide +kernel
theorem dX6_yard_49 : decode cX6_yard 49 = .ok (.bipush (-20), 2) := by decide +kernel
theorem dX6_yard_51 : decode cX6_yard 51 = .ok (.aload_n 0, 1) := by decide +kernel
theorem dX6_yard_52 : decode cX6_yard 52 = .ok (.getfield 48, 3) := by decide +kernel
theorem dX6_yard_55 : decode cX6_yard 55 = .ok (.getfield 187, 3) := by decide +kernel
theorem dX6_yard_58 : decode cX6_yard 58 = .ok (.isub, 1) := by decide +kernel
theorem dX6_yard_59 : decode cX6_yard 59 = .ok (.ireturn, 1) := by decide +kernel
theorem dX6_yard_60 : decode cX6_yard 60 = .ok (.aload_n 0, 1) := by decide +kernel
theorem dX6_yard_61 : decode cX6_yard 61 = .ok (.getfield 10, 3) := by decide +kernel
theorem dX6_yard_64 : decode cX6_yard 64 = .ok (.aload_n 0, 1) := by decide +kernel
theorem dX6_yard_65 : decode cX6_yard 65 = .ok (.getfield 19, 3) := by decide +kernel
theorem dX6_yard_68 : decode cX6_yard 68 = .ok (.invokevirtual 180, 3) := by decide +kernel
theorem dX6_yard_71 : decode cX6_yard 71 = .ok (.iload_n 1, 1) := by decide +kernel
theorem dX6_yard_72 : decode cX6_yard 72 = .ok (.ireturn, 1) := by decide +kernel
theorem dX6_oneOf_0 : decode cX6_oneOf 0 = .ok (.aload_n 0, 1) := by decide +kernel
theorem dX6_oneOf_1 : decode cX6_oneOf 1 = .ok (.getfield 10, 3) := by decide +kernel
theorem dX6_oneOf_4 : decode cX6_oneOf 4 = .ok (.iload_n 1, 1) := by decide +kernel
theorem dX6_oneOf_5 : decode cX6_oneOf 5 = .ok (.invokevirtual 111, 3) := by decide +kernel
theorem dX6_oneOf_8 : decode cX6_oneOf 8 = .ok (.ifCond .ne 10, 3) := by decide +kernel
theorem dX6_oneOf_11 : decode cX6_oneOf 11 = .ok (.aload_n 0, 1) := by decide +kernel
theorem dX6_oneOf_12 : decode cX6_oneOf 12 = .ok (.bipush (-2), 2) := by decide +kernel
theorem dX6_oneOf_14 : decode cX6_oneOf 14 = .ok (.invokevirtual 67, 3) := by decide +kernel
theorem dX6_oneOf_17 : decode cX6_oneOf 17 = .ok (.ireturn, 1) := by decide +kernel
theorem dX6_oneOf_18 : decode cX6_oneOf 18 = .ok (.iload_n 2, 1) := by decide +kernel
theorem dX6_oneOf_19 : decode cX6_oneOf 19 = .ok (.tableswitch 123 0 7 #[45, 55, 65, 75, 85, 95, 105, 114], 45) := by decide +kernel
theorem dX6_oneOf_64 : decode cX6_oneOf 64 = .ok (.aload_n 0, 1) := by decide +kernel
theorem dX6_oneOf_65 : decode cX6_oneOf 65 = .ok (.getfield 10, 3) := by decide +kernel
theorem dX6_oneOf_68 : decode cX6_oneOf 68 = .ok (.getfield 114, 3) := by decide +kernel
theorem dX6_oneOf_71 : decode cX6_oneOf 71 = .ok (.iload_n 1, 1) := by decide +kernel
theorem dX6_oneOf_72 : decode cX6_oneOf 72 = .ok (.iaload, 1) := by decide +kernel
theorem dX6_oneOf_73 : decode cX6_oneOf 73 = .ok (.ireturn, 1) := by decide +kernel
theorem dX6_oneOf_74 : decode cX6_oneOf 74 = .ok (.aload_n 0, 1) := by decide +kernel
theorem dX6_oneOf_75 : decode cX6_oneOf 75 = .ok (.getfield 10, 3) := by decide +kernel
theorem dX6_oneOf_78 : decode cX6_oneOf 78 = .ok (.getfield 145, 3) := by decide +kernel
theorem dX6_oneOf_81 : decode cX6_oneOf 81 = .ok (.iload_n 1, 1) := by decide +kernel
theorem dX6_oneOf_82 : decode cX6_oneOf 82 = .ok (.iaload, 1) := by decide +kernel
theorem dX6_oneOf_83 : decode cX6_oneOf 83 = .ok (.ireturn, 1) := by decide +kernel
theorem dX6_oneOf_84 : decode cX6_oneOf 84 = .ok (.aload_n 0, 1) := by decide +kernel
theorem dX6_oneOf_85 : decode cX6_oneOf 85 = .ok (.getfield 10, 3) := by decide +kernel
theorem dX6_oneOf_88 : decode cX6_oneOf 88 = .ok (.getfield 148, 3) := by decide +kernel
theorem dX6_oneOf_91 : decode cX6_oneOf 91 = .ok (.iload_n 1, 1) := by decide +kernel
theorem dX6_oneOf_92 : decode cX6_oneOf 92 = .ok (.iaload, 1) := by decide +kernel
theorem dX6_oneOf_93 : decode cX6_oneOf 93 = .ok (.ireturn, 1) := by decide +kernel
theorem dX6_oneOf_94 : decode cX6_oneOf 94 = .ok (.aload_n 0, 1) := by decide +kernel
theorem dX6_oneOf_95 : decode cX6_oneOf 95 = .ok (.getfield 10, 3) := by decide +kernel
theorem dX6_oneOf_98 : decode cX6_oneOf 98 = .ok (.getfield 151, 3) := by decide +kernel
theorem dX6_oneOf_101 : decode cX6_oneOf 101 = .ok (.iload_n 1, 1) := by decide +kernel
theorem dX6_oneOf_102 : decode cX6_oneOf 102 = .ok (.iaload, 1) := by decide +kernel
theorem dX6_oneOf_103 : decode cX6_oneOf 103 = .ok (.ireturn, 1) := by decide +kernel
theorem dX6_oneOf_104 : decode cX6_oneOf 104 = .ok (.aload_n 0, 1) := by decide +kernel
theorem dX6_oneOf_105 : decode cX6_oneOf 105 = .ok (.getfield 10, 3) := by decide +kernel
theorem dX6_oneOf_108 : decode cX6_oneOf 108 = .ok (.getfield 190, 3) := by decide +kernel
theorem dX6_oneOf_111 : decode cX6_oneOf 111 = .ok (.iload_n 1, 1) := by decide +kernel
theorem dX6_oneOf_112 : decode cX6_oneOf 112 = .ok (.iaload, 1) := by decide +kernel
theorem dX6_oneOf_113 : decode cX6_oneOf 113 = .ok (.ireturn, 1) := by decide +kernel
theorem dX6_oneOf_114 : decode cX6_oneOf 114 = .ok (.aload_n 0, 1) := by decide +kernel
theorem dX6_oneOf_115 : decode cX6_oneOf 115 = .ok (.getfield 10, 3) := by decide +kernel
theorem dX6_oneOf_118 : decode cX6_oneOf 118 = .ok (.getfield 120, 3) := by decide +kernel
theorem dX6_oneOf_121 : decode cX6_oneOf 121 = .ok (.iload_n 1, 1) := by decide +kernel
theorem dX6_oneOf_122 : decode cX6_oneOf 122 = .ok (.iaload, 1) := by decide +kernel
theorem dX6_oneOf_123 : decode cX6_oneOf 123 = .ok (.ireturn, 1) := by decide +kernel
theorem dX6_oneOf_124 : decode cX6_oneOf 124 = .ok (.aload_n 0, 1) := by decide +kernel
theorem dX6_oneOf_125 : decode cX6_oneOf 125 = .ok (.getfield 10, 3) := by decide +kernel
theorem dX6_oneOf_128 : decode cX6_oneOf 128 = .ok (.iload_n 1, 1) := by decide +kernel
theorem dX6_oneOf_129 : decode cX6_oneOf 129 = .ok (.invokevirtual 193, 3) := by decide +kernel
theorem dX6_oneOf_132 : decode cX6_oneOf 132 = .ok (.ireturn, 1) := by decide +kernel
theorem dX6_oneOf_133 : decode cX6_oneOf 133 = .ok (.aload_n 0, 1) := by decide +kernel
theorem dX6_oneOf_134 : decode cX6_oneOf 134 = .ok (.getfield 10, 3) := by decide +kernel
theorem dX6_oneOf_137 : decode cX6_oneOf 137 = .ok (.iload_n 1, 1) := by decide +kernel
theorem dX6_oneOf_138 : decode cX6_oneOf 138 = .ok (.invokevirtual 129, 3) := by decide +kernel
theorem dX6_oneOf_141 : decode cX6_oneOf 141 = .ok (.ireturn, 1) := by decide +kernel
theorem dX6_oneOf_142 : decode cX6_oneOf 142 = .ok (.aload_n 0, 1) := by decide +kernel
theorem dX6_oneOf_143 : decode cX6_oneOf 143 = .ok (.bipush (-2), 2) := by decide +kernel
theorem dX6_oneOf_145 : decode cX6_oneOf 145 = .ok (.invokevirtual 67, 3) := by decide +kernel
theorem dX6_oneOf_148 : decode cX6_oneOf 148 = .ok (.ireturn, 1) := by decide +kernel
theorem dX6_chainOf_0 : decode cX6_chainOf 0 = .ok (.iload_n 1, 1) := by decide +kernel
theorem dX6_chainOf_1 : decode cX6_chainOf 1 = .ok (.invokestatic 132, 3) := by decide +kernel
theorem dX6_chainOf_4 : decode cX6_chainOf 4 = .ok (.ifCond .eq 20, 3) := by decide +kernel
theorem dX6_chainOf_7 : decode cX6_chainOf 7 = .ok (.iload_n 2, 1) := by decide +kernel
theorem dX6_chainOf_8 : decode cX6_chainOf 8 = .ok (.iconst (-1), 1) := by decide +kernel
theorem dX6_chainOf_9 : decode cX6_chainOf 9 = .ok (.if_icmp .eq 22, 3) := by decide +kernel
theorem dX6_chainOf_12 : decode cX6_chainOf 12 = .ok (.aload_n 0, 1) := by decide +kernel
theorem dX6_chainOf_13 : decode cX6_chainOf 13 = .ok (.getfield 10, 3) := by decide +kernel
theorem dX6_chainOf_16 : decode cX6_chainOf 16 = .ok (.iload_n 1, 1) := by decide +kernel
theorem dX6_chainOf_17 : decode cX6_chainOf 17 = .ok (.iload_n 2, 1) := by decide +kernel
theorem dX6_chainOf_18 : decode cX6_chainOf 18 = .ok (.invokevirtual 196, 3) := by decide +kernel
theorem dX6_chainOf_21 : decode cX6_chainOf 21 = .ok (.ifCond .ne 10, 3) := by decide +kernel
theorem dX6_chainOf_24 : decode cX6_chainOf 24 = .ok (.aload_n 0, 1) := by decide +kernel
theorem dX6_chainOf_25 : decode cX6_chainOf 25 = .ok (.bipush (-2), 2) := by decide +kernel
theorem dX6_chainOf_27 : decode cX6_chainOf 27 = .ok (.invokevirtual 67, 3) := by decide +kernel
theorem dX6_chainOf_30 : decode cX6_chainOf 30 = .ok (.ireturn, 1) := by decide +kernel
theorem dX6_chainOf_31 : decode cX6_chainOf 31 = .ok (.iload_n 2, 1) := by decide +kernel
theorem dX6_chainOf_32 : decode cX6_chainOf 32 = .ok (.iconst (-1), 1) := by decide +kernel
theorem dX6_chainOf_33 : decode cX6_chainOf 33 = .ok (.if_icmp .ne 15, 3) := by decide +kernel
theorem dX6_chainOf_36 : decode cX6_chainOf 36 = .ok (.aload_n 0, 1) := by decide +kernel
theorem dX6_chainOf_37 : decode cX6_chainOf 37 = .ok (.getfield 10, 3) := by decide +kernel
theorem dX6_chainOf_40 : decode cX6_chainOf 40 = .ok (.getfield 199, 3) := by decide +kernel
theorem dX6_chainOf_43 : decode cX6_chainOf 43 = .ok (.iload_n 1, 1) := by decide +kernel
theorem dX6_chainOf_44 : decode cX6_chainOf 44 = .ok (.iaload, 1) := by decide +kernel
theorem dX6_chainOf_45 : decode cX6_chainOf 45 = .ok (.goto 14, 3) := by decide +kernel
theorem dX6_chainOf_48 : decode cX6_chainOf 48 = .ok (.aload_n 0, 1) := by decide +kernel
theorem dX6_chainOf_49 : decode cX6_chainOf 49 = .ok (.getfield 10, 3) := by decide +kernel
theorem dX6_chainOf_52 : decode cX6_chainOf 52 = .ok (.getfield 201, 3) := by decide +kernel
theorem dX6_chainOf_55 : decode cX6_chainOf 55 = .ok (.iload_n 1, 1) := by decide +kernel
theorem dX6_chainOf_56 : decode cX6_chainOf 56 = .ok (.aaload, 1) := by decide +kernel
theorem dX6_chainOf_57 : decode cX6_chainOf 57 = .ok (.iload_n 2, 1) := by decide +kernel
theorem dX6_chainOf_58 : decode cX6_chainOf 58 = .ok (.iaload, 1) := by decide +kernel
theorem dX6_chainOf_59 : decode cX6_chainOf 59 = .ok (.ireturn, 1) := by decide +kernel
theorem dX6_strength_0 : decode cX6_strength 0 = .ok (.iload_n 1, 1) := by decide +kernel
theorem dX6_strength_1 : decode cX6_strength 1 = .ok (.invokestatic 132, 3) := by decide +kernel
theorem dX6_strength_4 : decode cX6_strength 4 = .ok (.ifCond .eq 15, 3) := by decide +kernel
theorem dX6_strength_7 : decode cX6_strength 7 = .ok (.aload_n 0, 1) := by decide +kernel
theorem dX6_strength_8 : decode cX6_strength 8 = .ok (.getfield 10, 3) := by decide +kernel
theorem dX6_strength_11 : decode cX6_strength 11 = .ok (.iload_n 1, 1) := by decide +kernel
theorem dX6_strength_12 : decode cX6_strength 12 = .ok (.iload_n 2, 1) := by decide +kernel
theorem dX6_strength_13 : decode cX6_strength 13 = .ok (.invokevirtual 205, 3) := by decide +kernel
theorem dX6_strength_16 : decode cX6_strength 16 = .ok (.ifCond .ne 10, 3) := by decide +kernel
theorem dX6_strength_19 : decode cX6_strength 19 = .ok (.aload_n 0, 1) := by decide +kernel
theorem dX6_strength_20 : decode cX6_strength 20 = .ok (.bipush (-2), 2) := by decide +kernel
theorem dX6_strength_22 : decode cX6_strength 22 = .ok (.invokevirtual 67, 3) := by decide +kernel
theorem dX6_strength_25 : decode cX6_strength 25 = .ok (.ireturn, 1) := by decide +kernel
theorem dX6_strength_26 : decode cX6_strength 26 = .ok (.aload_n 0, 1) := by decide +kernel
theorem dX6_strength_27 : decode cX6_strength 27 = .ok (.getfield 10, 3) := by decide +kernel
theorem dX6_strength_30 : decode cX6_strength 30 = .ok (.iload_n 1, 1) := by decide +kernel
theorem dX6_strength_31 : decode cX6_strength 31 = .ok (.iload_n 2, 1) := by decide +kernel
theorem dX6_strength_32 : decode cX6_strength 32 = .ok (.invokevirtual 208, 3) := by decide +kernel
theorem dX6_strength_35 : decode cX6_strength 35 = .ok (.ireturn, 1) := by decide +kernel
theorem dX6_weakest_0 : decode cX6_weakest 0 = .ok (.iload_n 1, 1) := by decide +kernel
theorem dX6_weakest_1 : decode cX6_weakest 1 = .ok (.invokestatic 132, 3) := by decide +kernel
theorem dX6_weakest_4 : decode cX6_weakest 4 = .ok (.ifCond .ne 10, 3) := by decide +kernel
theorem dX6_weakest_7 : decode cX6_weakest 7 = .ok (.aload_n 0, 1) := by decide +kernel
theorem dX6_weakest_8 : decode cX6_weakest 8 = .ok (.bipush (-2), 2) := by decide +kernel
theorem dX6_weakest_10 : decode cX6_weakest 10 = .ok (.invokevirtual 67, 3) := by decide +kernel
theorem dX6_weakest_13 : decode cX6_weakest 13 = .ok (.ireturn, 1) := by decide +kernel
theorem dX6_weakest_14 : decode cX6_weakest 14 = .ok (.aload_n 0, 1) := by decide +kernel
theorem dX6_weakest_15 : decode cX6_weakest 15 = .ok (.getfield 10, 3) := by decide +kernel
theorem dX6_weakest_18 : decode cX6_weakest 18 = .ok (.getfield 199, 3) := by decide +kernel
theorem dX6_weakest_21 : decode cX6_weakest 21 = .ok (.iload_n 1, 1) := by decide +kernel
theorem dX6_weakest_22 : decode cX6_weakest 22 = .ok (.iaload, 1) := by decide +kernel
theorem dX6_weakest_23 : decode cX6_weakest 23 = .ok (.iconst 2, 1) := by decide +kernel
theorem dX6_weakest_24 : decode cX6_weakest 24 = .ok (.if_icmp .ge 10, 3) := by decide +kernel
theorem dX6_weakest_27 : decode cX6_weakest 27 = .ok (.aload_n 0, 1) := by decide +kernel
theorem dX6_weakest_28 : decode cX6_weakest 28 = .ok (.bipush (-5), 2) := by decide +kernel
theorem dX6_weakest_30 : decode cX6_weakest 30 = .ok (.invokevirtual 67, 3) := by decide +kernel
theorem dX6_weakest_33 : decode cX6_weakest 33 = .ok (.ireturn, 1) := by decide +kernel
theorem dX6_weakest_34 : decode cX6_weakest 34 = .ok (.aload_n 0, 1) := by decide +kernel
theorem dX6_weakest_35 : decode cX6_weakest 35 = .ok (.getfield 10, 3) := by decide +kernel
theorem dX6_weakest_38 : decode cX6_weakest 38 = .ok (.iload_n 1, 1) := by decide +kernel
theorem dX6_weakest_39 : decode cX6_weakest 39 = .ok (.invokevirtual 211, 3) := by decide +kernel
theorem dX6_weakest_42 : decode cX6_weakest 42 = .ok (.ireturn, 1) := by decide +kernel
theorem dX6_strongest_0 : decode cX6_strongest 0 = .ok (.iload_n 1, 1) := by decide +kernel
theorem dX6_strongest_1 : decode cX6_strongest 1 = .ok (.invokestatic 132, 3) := by decide +kernel
theorem dX6_strongest_4 : decode cX6_strongest 4 = .ok (.ifCond .ne 10, 3) := by decide +kernel
theorem dX6_strongest_7 : decode cX6_strongest 7 = .ok (.aload_n 0, 1) := by decide +kernel
theorem dX6_strongest_8 : decode cX6_strongest 8 = .ok (.bipush (-2), 2) := by decide +kernel
theorem dX6_strongest_10 : decode cX6_strongest 10 = .ok (.invokevirtual 67, 3) := by decide +kernel
theorem dX6_strongest_13 : decode cX6_strongest 13 = .ok (.ireturn, 1) := by decide +kernel
theorem dX6_strongest_14 : decode cX6_strongest 14 = .ok (.aload_n 0, 1) := by decide +kernel
theorem dX6_strongest_15 : decode cX6_strongest 15 = .ok (.getfield 10, 3) := by decide +kernel
theorem dX6_strongest_18 : decode cX6_strongest 18 = .ok (.getfield 199, 3) := by decide +kernel
theorem dX6_strongest_21 : decode cX6_strongest 21 = .ok (.iload_n 1, 1) := by decide +kernel
theorem dX6_strongest_22 : decode cX6_strongest 22 = .ok (.iaload, 1) := by decide +kernel
theorem dX6_strongest_23 : decode cX6_strongest 23 = .ok (.iconst 2, 1) := by decide +kernel
theorem dX6_strongest_24 : decode cX6_strongest 24 = .ok (.if_icmp .ge 10, 3) := by decide +kernel
theorem dX6_strongest_27 : decode cX6_strongest 27 = .ok (.aload_n 0, 1) := by decide +kernel
theorem dX6_strongest_28 : decode cX6_strongest 28 = .ok (.bipush (-5), 2) := by decide +kernel
theorem dX6_strongest_30 : decode cX6_strongest 30 = .ok (.invokevirtual 67, 3) := by decide +kernel
theorem dX6_strongest_33 : decode cX6_strongest 33 = .ok (.ireturn, 1) := by decide +kernel
theorem dX6_strongest_34 : decode cX6_strongest 34 = .ok (.aload_n 0, 1) := by decide +kernel
theorem dX6_strongest_35 : decode cX6_strongest 35 = .ok (.getfield 10, 3) := by decide +kernel
theorem dX6_strongest_38 : decode cX6_strongest 38 = .ok (.iload_n 1, 1) := by decide +kernel
theorem dX6_strongest_39 : decode cX6_strongest 39 = .ok (.invokevirtual 214, 3) := by decide +kernel
theorem dX6_strongest_42 : decode cX6_strongest 42 = .ok (.ireturn, 1) := by decide +kernel
theorem dX6_hardest_0 : decode cX6_hardest 0 = .ok (.iload_n 1, 1) := by decide +kernel
theorem dX6_hardest_1 : decode cX6_hardest 1 = .ok (.invokestatic 132, 3) := by decide +kernel
theorem dX6_hardest_4 : decode cX6_hardest 4 = .ok (.ifCond .ne 10, 3) := by decide +kernel
theorem dX6_hardest_7 : decode cX6_hardest 7 = .ok (.aload_n 0, 1) := by decide +kernel
theorem dX6_hardest_8 : decode cX6_hardest 8 = .ok (.bipush (-2), 2) := by decide +kernel
theorem dX6_hardest_10 : decode cX6_hardest 10 = .ok (.invokevirtual 67, 3) := by decide +kernel
theorem dX6_hardest_13 : decode cX6_hardest 13 = .ok (.ireturn, 1) := by decide +kernel
theorem dX6_hardest_14 : decode cX6_hardest 14 = .ok (.aload_n 0, 1) := by decide +kernel
theorem dX6_hardest_15 : decode cX6_hardest 15 = .ok (.getfield 10, 3) := by decide +kernel
theorem dX6_hardest_18 : decode cX6_hardest 18 = .ok (.getfield 199, 3) := by decide +kernel
theorem dX6_hardest_21 : decode cX6_hardest 21 = .ok (.iload_n 1, 1) := by decide +kernel
theorem dX6_hardest_22 : decode cX6_hardest 22 = .ok (.iaload, 1) := by decide +kernel
theorem dX6_hardest_23 : decode cX6_hardest 23 = .ok (.iconst 1, 1) := by decide +kernel
theorem dX6_hardest_24 : decode cX6_hardest 24 = .ok (.if_icmp .ge 10, 3) := by decide +kernel
theorem dX6_hardest_27 : decode cX6_hardest 27 = .ok (.aload_n 0, 1) := by decide +kernel
theorem dX6_hardest_28 : decode cX6_hardest 28 = .ok (.bipush (-5), 2) := by decide +kernel
theorem dX6_hardest_30 : decode cX6_hardest 30 = .ok (.invokevirtual 67, 3) := by decide +kernel
theorem dX6_hardest_33 : decode cX6_hardest 33 = .ok (.ireturn, 1) := by decide +kernel
theorem dX6_hardest_34 : decode cX6_hardest 34 = .ok (.aload_n 0, 1) := by decide +kernel
theorem dX6_hardest_35 : decode cX6_hardest 35 = .ok (.getfield 10, 3) := by decide +kernel
theorem dX6_hardest_38 : decode cX6_hardest 38 = .ok (.iload_n 1, 1) := by decide +kernel
theorem dX6_hardest_39 : decode cX6_hardest 39 = .ok (.invokevirtual 217, 3) := by decide +kernel
theorem dX6_hardest_42 : decode cX6_hardest 42 = .ok (.ireturn, 1) := by decide +kernel
theorem dX6_odds_0 : decode cX6_odds 0 = .ok (.aload_n 0, 1) := by decide +kernel
theorem dX6_odds_1 : decode cX6_odds 1 = .ok (.iload_n 1, 1) := by decide +kernel
theorem dX6_odds_2 : decode cX6_odds 2 = .ok (.iload_n 2, 1) := by decide +kernel
theorem dX6_odds_3 : decode cX6_odds 3 = .ok (.invokevirtual 220, 3) := by decide +kernel
theorem dX6_odds_6 : decode cX6_odds 6 = .ok (.istore_n 3, 1) := by decide +kernel
theorem dX6_odds_7 : decode cX6_odds 7 = .ok (.iload_n 3, 1) := by decide +kernel
theorem dX6_odds_8 : decode cX6_odds 8 = .ok (.ifCond .eq 11, 3) := by decide +kernel
theorem dX6_odds_11 : decode cX6_odds 11 = .ok (.aload_n 0, 1) := by decide +kernel
theorem dX6_odds_12 : decode cX6_odds 12 = .ok (.iload_n 3, 1) := by decide +kernel
theorem dX6_odds_13 : decode cX6_odds 13 = .ok (.invokevirtual 67, 3) := by decide +kernel
theorem dX6_odds_16 : decode cX6_odds 16 = .ok (.goto 12, 3) := by decide +kernel
theorem dX6_odds_19 : decode cX6_odds 19 = .ok (.aload_n 0, 1) := by decide +kernel
theorem dX6_odds_20 : decode cX6_odds 20 = .ok (.getfield 10, 3) := by decide +kernel
theorem dX6_odds_23 : decode cX6_odds 23 = .ok (.iload_n 1, 1) := by decide +kernel
theorem dX6_odds_24 : decode cX6_odds 24 = .ok (.iload_n 2, 1) := by decide +kernel
theorem dX6_odds_25 : decode cX6_odds 25 = .ok (.invokevirtual 223, 3) := by decide +kernel
theorem dX6_odds_28 : decode cX6_odds 28 = .ok (.ireturn, 1) := by decide +kernel
theorem dX6_at_0 : decode cX6_at 0 = .ok (.aload_n 0, 1) := by decide +kernel
theorem dX6_at_1 : decode cX6_at 1 = .ok (.getfield 10, 3) := by decide +kernel
theorem dX6_at_4 : decode cX6_at 4 = .ok (.iload_n 1, 1) := by decide +kernel
theorem dX6_at_5 : decode cX6_at 5 = .ok (.invokevirtual 111, 3) := by decide +kernel
theorem dX6_at_8 : decode cX6_at 8 = .ok (.ifCond .ne 10, 3) := by decide +kernel
theorem dX6_at_11 : decode cX6_at 11 = .ok (.aload_n 0, 1) := by decide +kernel
theorem dX6_at_12 : decode cX6_at 12 = .ok (.bipush (-2), 2) := by decide +kernel
theorem dX6_at_14 : decode cX6_at 14 = .ok (.invokevirtual 67, 3) := by decide +kernel
theorem dX6_at_17 : decode cX6_at 17 = .ok (.ireturn, 1) := by decide +kernel
theorem dX6_at_18 : decode cX6_at 18 = .ok (.aload_n 0, 1) := by decide +kernel
theorem dX6_at_19 : decode cX6_at 19 = .ok (.getfield 10, 3) := by decide +kernel
theorem dX6_at_22 : decode cX6_at 22 = .ok (.iload_n 1, 1) := by decide +kernel
theorem dX6_at_23 : decode cX6_at 23 = .ok (.invokevirtual 226, 3) := by decide +kernel
theorem dX6_at_26 : decode cX6_at 26 = .ok (.ifCond .eq 13, 3) := by decide +kernel
theorem dX6_at_29 : decode cX6_at 29 = .ok (.aload_n 0, 1) := by decide +kernel
theorem dX6_at_30 : decode cX6_at 30 = .ok (.getfield 10, 3) := by decide +kernel
theorem dX6_at_33 : decode cX6_at 33 = .ok (.invokevirtual 229, 3) := by decide +kernel
theorem dX6_at_36 : decode cX6_at 36 = .ok (.ifCond .eq 10, 3) := by decide +kernel
theorem dX6_at_39 : decode cX6_at 39 = .ok (.aload_n 0, 1) := by decide +kernel
theorem dX6_at_40 : decode cX6_at 40 = .ok (.bipush (-5), 2) := by decide +kernel
theorem dX6_at_42 : decode cX6_at 42 = .ok (.invokevirtual 67, 3) := by decide +kernel
theorem dX6_at_45 : decode cX6_at 45 = .ok (.ireturn, 1) := by decide +kernel
theorem dX6_at_46 : decode cX6_at 46 = .ok (.aload_n 0, 1) := by decide +kernel
theorem dX6_at_47 : decode cX6_at 47 = .ok (.getfield 10, 3) := by decide +kernel
theorem dX6_at_50 : decode cX6_at 50 = .ok (.iload_n 1, 1) := by decide +kernel
theorem dX6_at_51 : decode cX6_at 51 = .ok (.invokevirtual 232, 3) := by decide +kernel
theorem dX6_at_54 : decode cX6_at 54 = .ok (.ireturn, 1) := by decide +kernel
theorem dX6_take_0 : decode cX6_take 0 = .ok (.aload_n 0, 1) := by decide +kernel
theorem dX6_take_1 : decode cX6_take 1 = .ok (.getfield 10, 3) := by decide +kernel
theorem dX6_take_4 : decode cX6_take 4 = .ok (.aload_n 0, 1) := by decide +kernel
theorem dX6_take_5 : decode cX6_take 5 = .ok (.getfield 10, 3) := by decide +kernel
theorem dX6_take_8 : decode cX6_take 8 = .ok (.getfield 169, 3) := by decide +kernel
theorem dX6_take_11 : decode cX6_take 11 = .ok (.iload_n 1, 1) := by decide +kernel
theorem dX6_take_12 : decode cX6_take 12 = .ok (.invokevirtual 205, 3) := by decide +kernel
theorem dX6_take_15 : decode cX6_take 15 = .ok (.ifCond .ne 10, 3) := by decide +kernel
theorem dX6_take_18 : decode cX6_take 18 = .ok (.aload_n 0, 1) := by decide +kernel
theorem dX6_take_19 : decode cX6_take 19 = .ok (.bipush (-2), 2) := by decide +kernel
theorem dX6_take_21 : decode cX6_take 21 = .ok (.invokevirtual 67, 3) := by decide +kernel
theorem dX6_take_24 : decode cX6_take 24 = .ok (.ireturn, 1) := by decide +kernel
theorem dX6_take_25 : decode cX6_take 25 = .ok (.aload_n 0, 1) := by decide +kernel
theorem dX6_take_26 : decode cX6_take 26 = .ok (.getfield 10, 3) := by decide +kernel
theorem dX6_take_29 : decode cX6_take 29 = .ok (.iload_n 1, 1) := by decide +kernel
theorem dX6_take_30 : decode cX6_take 30 = .ok (.invokevirtual 235, 3) := by decide +kernel
theorem dX6_take_33 : decode cX6_take 33 = .ok (.ireturn, 1) := by decide +kernel
theorem dX6_call_0 : decode cX6_call 0 = .ok (.aload_n 0, 1) := by decide +kernel
theorem dX6_call_1 : decode cX6_call 1 = .ok (.getfield 10, 3) := by decide +kernel
theorem dX6_call_4 : decode cX6_call 4 = .ok (.invokevirtual 229, 3) := by decide +kernel
theorem dX6_call_7 : decode cX6_call 7 = .ok (.ifCond .eq 12, 3) := by decide +kernel
theorem dX6_call_10 : decode cX6_call 10 = .ok (.aload_n 0, 1) := by decide +kernel
theorem dX6_call_11 : decode cX6_call 11 = .ok (.bipush (-5), 2) := by decide +kernel
theorem dX6_call_13 : decode cX6_call 13 = .ok (.invokevirtual 67, 3) := by decide +kernel
theorem dX6_call_16 : decode cX6_call 16 = .ok (.goto 11, 3) := by decide +kernel
theorem dX6_call_19 : decode cX6_call 19 = .ok (.aload_n 0, 1) := by decide +kernel
theorem dX6_call_20 : decode cX6_call 20 = .ok (.getfield 10, 3) := by decide +kernel
theorem dX6_call_23 : decode cX6_call 23 = .ok (.iconst 0, 1) := by decide +kernel
theorem dX6_call_24 : decode cX6_call 24 = .ok (.invokevirtual 238, 3) := by decide +kernel
theorem dX6_call_27 : decode cX6_call 27 = .ok (.ireturn, 1) := by decide +kernel
theorem dX6_won_0 : decode cX6_won 0 = .ok (.aload_n 0, 1) := by decide +kernel
theorem dX6_won_1 : decode cX6_won 1 = .ok (.getfield 10, 3) := by decide +kernel
theorem dX6_won_4 : decode cX6_won 4 = .ok (.invokevirtual 241, 3) := by decide +kernel
theorem dX6_won_7 : decode cX6_won 7 = .ok (.ireturn, 1) := by decide +kernel
theorem dX6_over_0 : decode cX6_over 0 = .ok (.aload_n 0, 1) := by decide +kernel
theorem dX6_over_1 : decode cX6_over 1 = .ok (.getfield 10, 3) := by decide +kernel
theorem dX6_over_4 : decode cX6_over 4 = .ok (.invokevirtual 229, 3) := by decide +kernel
theorem dX6_over_7 : decode cX6_over 7 = .ok (.ifCond .eq 7, 3) := by decide +kernel
theorem dX6_over_10 : decode cX6_over 10 = .ok (.iconst 1, 1) := by decide +kernel
theorem dX6_over_11 : decode cX6_over 11 = .ok (.goto 4, 3) := by decide +kernel
theorem dX6_over_14 : decode cX6_over 14 = .ok (.iconst 0, 1) := by decide +kernel
theorem dX6_over_15 : decode cX6_over 15 = .ok (.ireturn, 1) := by decide +kernel
theorem dX6_play_0 : decode cX6_play 0 = .ok (.iload_n 1, 1) := by decide +kernel
theorem dX6_play_1 : decode cX6_play 1 = .ok (.invokestatic 244, 3) := by decide +kernel
theorem dX6_play_4 : decode cX6_play 4 = .ok (.ifCond .eq 12, 3) := by decide +kernel
theorem dX6_play_7 : decode cX6_play 7 = .ok (.iload_n 2, 1) := by decide +kernel
theorem dX6_play_8 : decode cX6_play 8 = .ok (.ifCond .lt 8, 3) := by decide +kernel
theorem dX6_play_11 : decode cX6_play 11 = .ok (.iload_n 2, 1) := by decide +kernel
theorem dX6_play_12 : decode cX6_play 12 = .ok (.iconst 2, 1) := by decide +kernel
theorem dX6_play_13 : decode cX6_play 13 = .ok (.if_icmp .le 10, 3) := by decide +kernel
theorem dX6_play_16 : decode cX6_play 16 = .ok (.aload_n 0, 1) := by decide +kernel
theorem dX6_play_17 : decode cX6_play 17 = .ok (.bipush (-2), 2) := by decide +kernel
theorem dX6_play_19 : decode cX6_play 19 = .ok (.invokevirtual 67, 3) := by decide +kernel
theorem dX6_play_22 : decode cX6_play 22 = .ok (.ireturn, 1) := by decide +kernel
theorem dX6_play_23 : decode cX6_play 23 = .ok (.aload_n 0, 1) := by decide +kernel
theorem dX6_play_24 : decode cX6_play 24 = .ok (.getfield 27, 3) := by decide +kernel
theorem dX6_play_27 : decode cX6_play 27 = .ok (.aload_n 0, 1) := by decide +kernel
theorem dX6_play_28 : decode cX6_play 28 = .ok (.getfield 10, 3) := by decide +kernel
theorem dX6_play_31 : decode cX6_play 31 = .ok (.iload_n 1, 1) := by decide +kernel
theorem dX6_play_32 : decode cX6_play 32 = .ok (.invokevirtual 247, 3) := by decide +kernel
theorem dX6_play_35 : decode cX6_play 35 = .ok (.iload_n 2, 1) := by decide +kernel
theorem dX6_play_36 : decode cX6_play 36 = .ok (.ifCond .ne 13, 3) := by decide +kernel
theorem dX6_play_39 : decode cX6_play 39 = .ok (.aload_n 0, 1) := by decide +kernel
theorem dX6_play_40 : decode cX6_play 40 = .ok (.getfield 19, 3) := by decide +kernel
theorem dX6_play_43 : decode cX6_play 43 = .ok (.invokevirtual 241, 3) := by decide +kernel
theorem dX6_play_46 : decode cX6_play 46 = .ok (.goto 27, 3) := by decide +kernel
theorem dX6_play_49 : decode cX6_play 49 = .ok (.iload_n 2, 1) := by decide +kernel
theorem dX6_play_50 : decode cX6_play 50 = .ok (.iconst 1, 1) := by decide +kernel
theorem dX6_play_51 : decode cX6_play 51 = .ok (.if_icmp .ne 13, 3) := by decide +kernel
theorem dX6_play_54 : decode cX6_play 54 = .ok (.aload_n 0, 1) := by decide +kernel
theorem dX6_play_55 : decode cX6_play 55 = .ok (.getfield 27, 3) := by decide +kernel
theorem dX6_play_58 : decode cX6_play 58 = .ok (.getfield 251, 3) := by decide +kernel
theorem dX6_play_61 : decode cX6_play 61 = .ok (.goto 12, 3) := by decide +kernel
theorem dX6_play_64 : decode cX6_play 64 = .ok (.aload_n 0, 1) := by decide +kernel
theorem dX6_play_65 : decode cX6_play 65 = .ok (.getfield 19, 3) := by decide +kernel
theorem dX6_play_68 : decode cX6_play 68 = .ok (.getfield 199, 3) := by decide +kernel
theorem dX6_play_71 : decode cX6_play 71 = .ok (.iconst 0, 1) := by decide +kernel
theorem dX6_play_72 : decode cX6_play 72 = .ok (.iaload, 1) := by decide +kernel
theorem dX6_play_73 : decode cX6_play 73 = .ok (.ireturn, 1) := by decide +kernel
theorem dX6_stand_0 : decode cX6_stand 0 = .ok (.iload_n 1, 1) := by decide +kernel
theorem dX6_stand_1 : decode cX6_stand 1 = .ok (.invokestatic 132, 3) := by decide +kernel
theorem dX6_stand_4 : decode cX6_stand 4 = .ok (.ifCond .eq 20, 3) := by decide +kernel
theorem dX6_stand_7 : decode cX6_stand 7 = .ok (.iload_n 2, 1) := by decide +kernel
theorem dX6_stand_8 : decode cX6_stand 8 = .ok (.iconst (-1), 1) := by decide +kernel
theorem dX6_stand_9 : decode cX6_stand 9 = .ok (.if_icmp .eq 22, 3) := by decide +kernel
theorem dX6_stand_12 : decode cX6_stand 12 = .ok (.aload_n 0, 1) := by decide +kernel
theorem dX6_stand_13 : decode cX6_stand 13 = .ok (.getfield 10, 3) := by decide +kernel
theorem dX6_stand_16 : decode cX6_stand 16 = .ok (.iload_n 1, 1) := by decide +kernel
theorem dX6_stand_17 : decode cX6_stand 17 = .ok (.iload_n 2, 1) := by decide +kernel
theorem dX6_stand_18 : decode cX6_stand 18 = .ok (.invokevirtual 196, 3) := by decide +kernel
theorem dX6_stand_21 : decode cX6_stand 21 = .ok (.ifCond .ne 10, 3) := by decide +kernel
theorem dX6_stand_24 : decode cX6_stand 24 = .ok (.aload_n 0, 1) := by decide +kernel
theorem dX6_stand_25 : decode cX6_stand 25 = .ok (.bipush (-2), 2) := by decide +kernel
theorem dX6_stand_27 : decode cX6_stand 27 = .ok (.invokevirtual 67, 3) := by decide +kernel
theorem dX6_stand_30 : decode cX6_stand 30 = .ok (.ireturn, 1) := by decide +kernel
theorem dX6_stand_31 : decode cX6_stand 31 = .ok (.aload_n 0, 1) := by decide +kernel
theorem dX6_stand_32 : decode cX6_stand 32 = .ok (.getfield 10, 3) := by decide +kernel
theorem dX6_stand_35 : decode cX6_stand 35 = .ok (.getfield 199, 3) := by decide +kernel
theorem dX6_stand_38 : decode cX6_stand 38 = .ok (.iload_n 1, 1) := by decide +kernel
theorem dX6_stand_39 : decode cX6_stand 39 = .ok (.iaload, 1) := by decide +kernel
theorem dX6_stand_40 : decode cX6_stand 40 = .ok (.bipush 7, 2) := by decide +kernel
theorem dX6_stand_42 : decode cX6_stand 42 = .ok (.if_icmp .le 10, 3) := by decide +kernel
theorem dX6_stand_45 : decode cX6_stand 45 = .ok (.aload_n 0, 1) := by decide +kernel
theorem dX6_stand_46 : decode cX6_stand 46 = .ok (.bipush (-6), 2) := by decide +kernel
theorem dX6_stand_48 : decode cX6_stand 48 = .ok (.invokevirtual 67, 3) := by decide +kernel
theorem dX6_stand_51 : decode cX6_stand 51 = .ok (.ireturn, 1) := by decide +kernel
theorem dX6_stand_52 : decode cX6_stand 52 = .ok (.aload_n 0, 1) := by decide +kernel
theorem dX6_stand_53 : decode cX6_stand 53 = .ok (.getfield 41, 3) := by decide +kernel
theorem dX6_stand_56 : decode cX6_stand 56 = .ok (.aload_n 0, 1) := by decide +kernel
theorem dX6_stand_57 : decode cX6_stand 57 = .ok (.getfield 10, 3) := by decide +kernel
theorem dX6_stand_60 : decode cX6_stand 60 = .ok (.iload_n 1, 1) := by decide +kernel
theorem dX6_stand_61 : decode cX6_stand 61 = .ok (.invokevirtual 254, 3) := by decide +kernel
theorem dX6_stand_64 : decode cX6_stand 64 = .ok (.istore_n 3, 1) := by decide +kernel
theorem dX6_stand_65 : decode cX6_stand 65 = .ok (.iload_n 2, 1) := by decide +kernel
theorem dX6_stand_66 : decode cX6_stand 66 = .ok (.iconst (-1), 1) := by decide +kernel
theorem dX6_stand_67 : decode cX6_stand 67 = .ok (.if_icmp .ne 7, 3) := by decide +kernel
theorem dX6_stand_70 : decode cX6_stand 70 = .ok (.iload_n 3, 1) := by decide +kernel
theorem dX6_stand_71 : decode cX6_stand 71 = .ok (.goto 12, 3) := by decide +kernel
theorem dX6_stand_74 : decode cX6_stand 74 = .ok (.aload_n 0, 1) := by decide +kernel
theorem dX6_stand_75 : decode cX6_stand 75 = .ok (.getfield 41, 3) := by decide +kernel
theorem dX6_stand_78 : decode cX6_stand 78 = .ok (.getfield 258, 3) := by decide +kernel
theorem dX6_stand_81 : decode cX6_stand 81 = .ok (.iload_n 2, 1) := by decide +kernel
theorem dX6_stand_82 : decode cX6_stand 82 = .ok (.iaload, 1) := by decide +kernel
theorem dX6_stand_83 : decode cX6_stand 83 = .ok (.ireturn, 1) := by decide +kernel
theorem dX6_worth_0 : decode cX6_worth 0 = .ok (.iload_n 1, 1) := by decide +kernel
theorem dX6_worth_1 : decode cX6_worth 1 = .ok (.invokestatic 132, 3) := by decide +kernel
theorem dX6_worth_4 : decode cX6_worth 4 = .ok (.ifCond .ne 10, 3) := by decide +kernel
theorem dX6_worth_7 : decode cX6_worth 7 = .ok (.aload_n 0, 1) := by decide +kernel
theorem dX6_worth_8 : decode cX6_worth 8 = .ok (.bipush (-2), 2) := by decide +kernel
theorem dX6_worth_10 : decode cX6_worth 10 = .ok (.invokevirtual 67, 3) := by decide +kernel
theorem dX6_worth_13 : decode cX6_worth 13 = .ok (.ireturn, 1) := by decide +kernel
theorem dX6_worth_14 : decode cX6_worth 14 = .ok (.aload_n 0, 1) := by decide +kernel
theorem dX6_worth_15 : decode cX6_worth 15 = .ok (.getfield 10, 3) := by decide +kernel
theorem dX6_worth_18 : decode cX6_worth 18 = .ok (.getfield 199, 3) := by decide +kernel
theorem dX6_worth_21 : decode cX6_worth 21 = .ok (.iload_n 1, 1) := by decide +kernel
theorem dX6_worth_22 : decode cX6_worth 22 = .ok (.iaload, 1) := by decide +kernel
theorem dX6_worth_23 : decode cX6_worth 23 = .ok (.bipush 7, 2) := by decide +kernel
theorem dX6_worth_25 : decode cX6_worth 25 = .ok (.if_icmp .le 10, 3) := by decide +kernel
theorem dX6_worth_28 : decode cX6_worth 28 = .ok (.aload_n 0, 1) := by decide +kernel
theorem dX6_worth_29 : decode cX6_worth 29 = .ok (.bipush (-6), 2) := by decide +kernel
theorem dX6_worth_31 : decode cX6_worth 31 = .ok (.invokevirtual 67, 3) := by decide +kernel
theorem dX6_worth_34 : decode cX6_worth 34 = .ok (.ireturn, 1) := by decide +kernel
theorem dX6_worth_35 : decode cX6_worth 35 = .ok (.aload_n 0, 1) := by decide +kernel
theorem dX6_worth_36 : decode cX6_worth 36 = .ok (.getfield 41, 3) := by decide +kernel
theorem dX6_worth_39 : decode cX6_worth 39 = .ok (.aload_n 0, 1) := by decide +kernel
theorem dX6_worth_40 : decode cX6_worth 40 = .ok (.getfield 10, 3) := by decide +kernel
theorem dX6_worth_43 : decode cX6_worth 43 = .ok (.iload_n 1, 1) := by decide +kernel
theorem dX6_worth_44 : decode cX6_worth 44 = .ok (.invokevirtual 254, 3) := by decide +kernel
theorem dX6_worth_47 : decode cX6_worth 47 = .ok (.aload_n 0, 1) := by decide +kernel
theorem dX6_worth_48 : decode cX6_worth 48 = .ok (.getfield 10, 3) := by decide +kernel
theorem dX6_worth_51 : decode cX6_worth 51 = .ok (.iload_n 1, 1) := by decide +kernel
theorem dX6_worth_52 : decode cX6_worth 52 = .ok (.invokevirtual 261, 3) := by decide +kernel
theorem dX6_worth_55 : decode cX6_worth 55 = .ok (.isub, 1) := by decide +kernel
theorem dX6_worth_56 : decode cX6_worth 56 = .ok (.ireturn, 1) := by decide +kernel
theorem dX6_move_0 : decode cX6_move 0 = .ok (.aload_n 0, 1) := by decide +kernel
theorem dX6_move_1 : decode cX6_move 1 = .ok (.getfield 10, 3) := by decide +kernel
theorem dX6_move_4 : decode cX6_move 4 = .ok (.iload_n 1, 1) := by decide +kernel
theorem dX6_move_5 : decode cX6_move 5 = .ok (.invokevirtual 111, 3) := by decide +kernel
theorem dX6_move_8 : decode cX6_move 8 = .ok (.ifCond .eq 23, 3) := by decide +kernel
theorem dX6_move_11 : decode cX6_move 11 = .ok (.aload_n 0, 1) := by decide +kernel
theorem dX6_move_12 : decode cX6_move 12 = .ok (.getfield 10, 3) := by decide +kernel
theorem dX6_move_15 : decode cX6_move 15 = .ok (.aload_n 0, 1) := by decide +kernel
theorem dX6_move_16 : decode cX6_move 16 = .ok (.getfield 10, 3) := by decide +kernel
theorem dX6_move_19 : decode cX6_move 19 = .ok (.getfield 120, 3) := by decide +kernel
theorem dX6_move_22 : decode cX6_move 22 = .ok (.iload_n 1, 1) := by decide +kernel
theorem dX6_move_23 : decode cX6_move 23 = .ok (.iaload, 1) := by decide +kernel
theorem dX6_move_24 : decode cX6_move 24 = .ok (.iload_n 2, 1) := by decide +kernel
theorem dX6_move_25 : decode cX6_move 25 = .ok (.invokevirtual 196, 3) := by decide +kernel
theorem dX6_move_28 : decode cX6_move 28 = .ok (.ifCond .ne 10, 3) := by decide +kernel
theorem dX6_move_31 : decode cX6_move 31 = .ok (.aload_n 0, 1) := by decide +kernel
theorem dX6_move_32 : decode cX6_move 32 = .ok (.bipush (-2), 2) := by decide +kernel
theorem dX6_move_34 : decode cX6_move 34 = .ok (.invokevirtual 67, 3) := by decide +kernel
theorem dX6_move_37 : decode cX6_move 37 = .ok (.ireturn, 1) := by decide +kernel
theorem dX6_move_38 : decode cX6_move 38 = .ok (.aload_n 0, 1) := by decide +kernel
theorem dX6_move_39 : decode cX6_move 39 = .ok (.getfield 10, 3) := by decide +kernel
theorem dX6_move_42 : decode cX6_move 42 = .ok (.iload_n 1, 1) := by decide +kernel
theorem dX6_move_43 : decode cX6_move 43 = .ok (.invokevirtual 193, 3) := by decide +kernel
theorem dX6_move_46 : decode cX6_move 46 = .ok (.istore_n 3, 1) := by decide +kernel
theorem dX6_move_47 : decode cX6_move 47 = .ok (.aload_n 0, 1) := by decide +kernel
theorem dX6_move_48 : decode cX6_move 48 = .ok (.getfield 10, 3) := by decide +kernel
theorem dX6_move_51 : decode cX6_move 51 = .ok (.getfield 120, 3) := by decide +kernel
theorem dX6_move_54 : decode cX6_move 54 = .ok (.iload_n 1, 1) := by decide +kernel
theorem dX6_move_55 : decode cX6_move 55 = .ok (.iaload, 1) := by decide +kernel
theorem dX6_move_56 : decode cX6_move 56 = .ok (.istore 4, 2) := by decide +kernel
theorem dX6_move_58 : decode cX6_move 58 = .ok (.aload_n 0, 1) := by decide +kernel
theorem dX6_move_59 : decode cX6_move 59 = .ok (.getfield 10, 3) := by decide +kernel
theorem dX6_move_62 : decode cX6_move 62 = .ok (.iload_n 1, 1) := by decide +kernel
theorem dX6_move_63 : decode cX6_move 63 = .ok (.invokevirtual 264, 3) := by decide +kernel
theorem dX6_move_66 : decode cX6_move 66 = .ok (.aload_n 0, 1) := by decide +kernel
theorem dX6_move_67 : decode cX6_move 67 = .ok (.getfield 10, 3) := by decide +kernel
theorem dX6_move_70 : decode cX6_move 70 = .ok (.iload_n 1, 1) := by decide +kernel
theorem dX6_move_71 : decode cX6_move 71 = .ok (.iload 4, 2) := by decide +kernel
theorem dX6_move_73 : decode cX6_move 73 = .ok (.iload_n 2, 1) := by decide +kernel
theorem dX6_move_74 : decode cX6_move 74 = .ok (.invokevirtual 268, 3) := by decide +kernel
theorem dX6_move_77 : decode cX6_move 77 = .ok (.iload_n 3, 1) := by decide +kernel
theorem dX6_move_78 : decode cX6_move 78 = .ok (.ireturn, 1) := by decide +kernel
theorem dX6_pair_0 : decode cX6_pair 0 = .ok (.aload_n 0, 1) := by decide +kernel
theorem dX6_pair_1 : decode cX6_pair 1 = .ok (.getfield 10, 3) := by decide +kernel
theorem dX6_pair_4 : decode cX6_pair 4 = .ok (.getfield 138, 3) := by decide +kernel
theorem dX6_pair_7 : decode cX6_pair 7 = .ok (.iconst 2, 1) := by decide +kernel
theorem dX6_pair_8 : decode cX6_pair 8 = .ok (.if_icmp .ge 12, 3) := by decide +kernel
theorem dX6_pair_11 : decode cX6_pair 11 = .ok (.aload_n 0, 1) := by decide +kernel
theorem dX6_pair_12 : decode cX6_pair 12 = .ok (.bipush (-5), 2) := by decide +kernel
theorem dX6_pair_14 : decode cX6_pair 14 = .ok (.invokevirtual 67, 3) := by decide +kernel
theorem dX6_pair_17 : decode cX6_pair 17 = .ok (.goto 10, 3) := by decide +kernel
theorem dX6_pair_20 : decode cX6_pair 20 = .ok (.aload_n 0, 1) := by decide +kernel
theorem dX6_pair_21 : decode cX6_pair 21 = .ok (.getfield 10, 3) := by decide +kernel
theorem dX6_pair_24 : decode cX6_pair 24 = .ok (.invokevirtual 272, 3) := by decide +kernel
theorem dX6_pair_27 : decode cX6_pair 27 = .ok (.ireturn, 1) := by decide +kernel
theorem dX6_tiredest_0 : decode cX6_tiredest 0 = .ok (.aload_n 0, 1) := by decide +kernel
theorem dX6_tiredest_1 : decode cX6_tiredest 1 = .ok (.getfield 10, 3) := by decide +kernel
theorem dX6_tiredest_4 : decode cX6_tiredest 4 = .ok (.getfield 138, 3) := by decide +kernel
theorem dX6_tiredest_7 : decode cX6_tiredest 7 = .ok (.iconst 1, 1) := by decide +kernel
theorem dX6_tiredest_8 : decode cX6_tiredest 8 = .ok (.if_icmp .ge 12, 3) := by decide +kernel
theorem dX6_tiredest_11 : decode cX6_tiredest 11 = .ok (.aload_n 0, 1) := by decide +kernel
theorem dX6_tiredest_12 : decode cX6_tiredest 12 = .ok (.bipush (-5), 2) := by decide +kernel
theorem dX6_tiredest_14 : decode cX6_tiredest 14 = .ok (.invokevirtual 67, 3) := by decide +kernel
theorem dX6_tiredest_17 : decode cX6_tiredest 17 = .ok (.goto 10, 3) := by decide +kernel
theorem dX6_tiredest_20 : decode cX6_tiredest 20 = .ok (.aload_n 0, 1) := by decide +kernel
theorem dX6_tiredest_21 : decode cX6_tiredest 21 = .ok (.getfield 10, 3) := by decide +kernel
theorem dX6_tiredest_24 : decode cX6_tiredest 24 = .ok (.invokevirtual 275, 3) := by decide +kernel
theorem dX6_tiredest_27 : decode cX6_tiredest 27 = .ok (.ireturn, 1) := by decide +kernel
theorem dX6_spreadFor_0 : decode cX6_spreadFor 0 = .ok (.aload_n 0, 1) := by decide +kernel
theorem dX6_spreadFor_1 : decode cX6_spreadFor 1 = .ok (.iload_n 1, 1) := by decide +kernel
theorem dX6_spreadFor_2 : decode cX6_spreadFor 2 = .ok (.iload_n 2, 1) := by decide +kernel
theorem dX6_spreadFor_3 : decode cX6_spreadFor 3 = .ok (.invokevirtual 220, 3) := by decide +kernel
theorem dX6_spreadFor_6 : decode cX6_spreadFor 6 = .ok (.istore_n 3, 1) := by decide +kernel
theorem dX6_spreadFor_7 : decode cX6_spreadFor 7 = .ok (.iload_n 3, 1) := by decide +kernel
theorem dX6_spreadFor_8 : decode cX6_spreadFor 8 = .ok (.ifCond .eq 9, 3) := by decide +kernel
theorem dX6_spreadFor_11 : decode cX6_spreadFor 11 = .ok (.aload_n 0, 1) := by decide +kernel
theorem dX6_spreadFor_12 : decode cX6_spreadFor 12 = .ok (.iload_n 3, 1) := by decide +kernel
theorem dX6_spreadFor_13 : decode cX6_spreadFor 13 = .ok (.invokevirtual 67, 3) := by decide +kernel
theorem dX6_spreadFor_16 : decode cX6_spreadFor 16 = .ok (.ireturn, 1) := by decide +kernel
theorem dX6_spreadFor_17 : decode cX6_spreadFor 17 = .ok (.iconst 1, 1) := by decide +kernel
theorem dX6_spreadFor_18 : decode cX6_spreadFor 18 = .ok (.aload_n 0, 1) := by decide +kernel
theorem dX6_spreadFor_19 : decode cX6_spreadFor 19 = .ok (.getfield 10, 3) := by decide +kernel
theorem dX6_spreadFor_22 : decode cX6_spreadFor 22 = .ok (.aload_n 0, 1) := by decide +kernel
theorem dX6_spreadFor_23 : decode cX6_spreadFor 23 = .ok (.getfield 10, 3) := by decide +kernel
theorem dX6_spreadFor_26 : decode cX6_spreadFor 26 = .ok (.getfield 169, 3) := by decide +kernel
theorem dX6_spreadFor_29 : decode cX6_spreadFor 29 = .ok (.iload_n 2, 1) := by decide +kernel
theorem dX6_spreadFor_30 : decode cX6_spreadFor 30 = .ok (.invokevirtual 208, 3) := by decide +kernel
theorem dX6_spreadFor_33 : decode cX6_spreadFor 33 = .ok (.aload_n 0, 1) := by decide +kernel
theorem dX6_spreadFor_34 : decode cX6_spreadFor 34 = .ok (.getfield 10, 3) := by decide +kernel
theorem dX6_spreadFor_37 : decode cX6_spreadFor 37 = .ok (.iload_n 1, 1) := by decide +kernel
theorem dX6_spreadFor_38 : decode cX6_spreadFor 38 = .ok (.invokevirtual 129, 3) := by decide +kernel
theorem dX6_spreadFor_41 : decode cX6_spreadFor 41 = .ok (.isub, 1) := by decide +kernel
theorem dX6_spreadFor_42 : decode cX6_spreadFor 42 = .ok (.iconst 2, 1) := by decide +kernel
theorem dX6_spreadFor_43 : decode cX6_spreadFor 43 = .ok (.iadd, 1) := by decide +kernel
theorem dX6_spreadFor_44 : decode cX6_spreadFor 44 = .ok (.invokestatic 278, 3) := by decide +kernel
theorem dX6_spreadFor_47 : decode cX6_spreadFor 47 = .ok (.istore 4, 2) := by decide +kernel
theorem dX6_spreadFor_49 : decode cX6_spreadFor 49 = .ok (.iload 4, 2) := by decide +kernel
theorem dX6_spreadFor_51 : decode cX6_spreadFor 51 = .ok (.bipush 10, 2) := by decide +kernel
theorem dX6_spreadFor_53 : decode cX6_spreadFor 53 = .ok (.if_icmp .le 7, 3) := by decide +kernel
theorem dX6_spreadFor_56 : decode cX6_spreadFor 56 = .ok (.iconst (-1), 1) := by decide +kernel
theorem dX6_spreadFor_57 : decode cX6_spreadFor 57 = .ok (.goto 5, 3) := by decide +kernel
theorem dX6_spreadFor_60 : decode cX6_spreadFor 60 = .ok (.iload 4, 2) := by decide +kernel
theorem dX6_spreadFor_62 : decode cX6_spreadFor 62 = .ok (.ireturn, 1) := by decide +kernel
theorem dX6_yardsFor_0 : decode cX6_yardsFor 0 = .ok (.aload_n 0, 1) := by decide +kernel
theorem dX6_yardsFor_1 : decode cX6_yardsFor 1 = .ok (.iload_n 1, 1) := by decide +kernel
theorem dX6_yardsFor_2 : decode cX6_yardsFor 2 = .ok (.iload_n 2, 1) := by decide +kernel
theorem dX6_yardsFor_3 : decode cX6_yardsFor 3 = .ok (.invokevirtual 220, 3) := by decide +kernel
theorem dX6_yardsFor_6 : decode cX6_yardsFor 6 = .ok (.istore_n 3, 1) := by decide +kernel
theorem dX6_yardsFor_7 : decode cX6_yardsFor 7 = .ok (.iload_n 3, 1) := by decide +kernel
theorem dX6_yardsFor_8 : decode cX6_yardsFor 8 = .ok (.ifCond .eq 9, 3) := by decide +kernel
theorem dX6_yardsFor_11 : decode cX6_yardsFor 11 = .ok (.aload_n 0, 1) := by decide +kernel
theorem dX6_yardsFor_12 : decode cX6_yardsFor 12 = .ok (.iload_n 3, 1) := by decide +kernel
theorem dX6_yardsFor_13 : decode cX6_yardsFor 13 = .ok (.invokevirtual 67, 3) := by decide +kernel
theorem dX6_yardsFor_16 : decode cX6_yardsFor 16 = .ok (.ireturn, 1) := by decide +kernel
theorem dX6_yardsFor_17 : decode cX6_yardsFor 17 = .ok (.aload_n 0, 1) := by decide +kernel
theorem dX6_yardsFor_18 : decode cX6_yardsFor 18 = .ok (.getfield 10, 3) := by decide +kernel
theorem dX6_yardsFor_21 : decode cX6_yardsFor 21 = .ok (.iload_n 1, 1) := by decide +kernel
theorem dX6_yardsFor_22 : decode cX6_yardsFor 22 = .ok (.invokevirtual 129, 3) := by decide +kernel
theorem dX6_yardsFor_25 : decode cX6_yardsFor 25 = .ok (.aload_n 0, 1) := by decide +kernel
theorem dX6_yardsFor_26 : decode cX6_yardsFor 26 = .ok (.getfield 10, 3) := by decide +kernel
theorem dX6_yardsFor_29 : decode cX6_yardsFor 29 = .ok (.getfield 157, 3) := by decide +kernel
theorem dX6_yardsFor_32 : decode cX6_yardsFor 32 = .ok (.iconst 3, 1) := by decide +kernel
theorem dX6_yardsFor_33 : decode cX6_yardsFor 33 = .ok (.idiv, 1) := by decide +kernel
theorem dX6_yardsFor_34 : decode cX6_yardsFor 34 = .ok (.isub, 1) := by decide +kernel
theorem dX6_yardsFor_35 : decode cX6_yardsFor 35 = .ok (.istore 4, 2) := by decide +kernel
theorem dX6_yardsFor_37 : decode cX6_yardsFor 37 = .ok (.iconst 3, 1) := by decide +kernel
theorem dX6_yardsFor_38 : decode cX6_yardsFor 38 = .ok (.iconst 0, 1) := by decide +kernel
theorem dX6_yardsFor_39 : decode cX6_yardsFor 39 = .ok (.aload_n 0, 1) := by decide +kernel
theorem dX6_yardsFor_40 : decode cX6_yardsFor 40 = .ok (.getfield 10, 3) := by decide +kernel
theorem dX6_yardsFor_43 : decode cX6_yardsFor 43 = .ok (.aload_n 0, 1) := by decide +kernel
theorem dX6_yardsFor_44 : decode cX6_yardsFor 44 = .ok (.getfield 10, 3) := by decide +kernel
theorem dX6_yardsFor_47 : decode cX6_yardsFor 47 = .ok (.getfield 169, 3) := by decide +kernel
theorem dX6_yardsFor_50 : decode cX6_yardsFor 50 = .ok (.iload_n 2, 1) := by decide +kernel
theorem dX6_yardsFor_51 : decode cX6_yardsFor 51 = .ok (.invokevirtual 208, 3) := by decide +kernel
theorem dX6_yardsFor_54 : decode cX6_yardsFor 54 = .ok (.iconst 1, 1) := by decide +kernel
theorem dX6_yardsFor_55 : decode cX6_yardsFor 55 = .ok (.iadd, 1) := by decide +kernel
theorem dX6_yardsFor_56 : decode cX6_yardsFor 56 = .ok (.iload 4, 2) := by decide +kernel
theorem dX6_yardsFor_58 : decode cX6_yardsFor 58 = .ok (.isub, 1) := by decide +kernel
theorem dX6_yardsFor_59 : decode cX6_yardsFor 59 = .ok (.invokestatic 278, 3) := by decide +kernel
theorem dX6_yardsFor_62 : decode cX6_yardsFor 62 = .ok (.imul, 1) := by decide +kernel
theorem dX6_yardsFor_63 : decode cX6_yardsFor 63 = .ok (.istore 5, 2) := by decide +kernel
theorem dX6_yardsFor_65 : decode cX6_yardsFor 65 = .ok (.iload 5, 2) := by decide +kernel
theorem dX6_yardsFor_67 : decode cX6_yardsFor 67 = .ok (.bipush 30, 2) := by decide +kernel
theorem dX6_yardsFor_69 : decode cX6_yardsFor 69 = .ok (.if_icmp .le 7, 3) := by decide +kernel
theorem dX6_yardsFor_72 : decode cX6_yardsFor 72 = .ok (.iconst (-1), 1) := by decide +kernel
theorem dX6_yardsFor_73 : decode cX6_yardsFor 73 = .ok (.goto 5, 3) := by decide +kernel
theorem dX6_yardsFor_76 : decode cX6_yardsFor 76 = .ok (.iload 5, 2) := by decide +kernel
theorem dX6_yardsFor_78 : decode cX6_yardsFor 78 = .ok (.ireturn, 1) := by decide +kernel
theorem dX6_leads_0 : decode cX6_leads 0 = .ok (.iload_n 1, 1) := by decide +kernel
theorem dX6_leads_1 : decode cX6_leads 1 = .ok (.invokestatic 244, 3) := by decide +kernel
theorem dX6_leads_4 : decode cX6_leads 4 = .ok (.ifCond .ne 10, 3) := by decide +kernel
theorem dX6_leads_7 : decode cX6_leads 7 = .ok (.aload_n 0, 1) := by decide +kernel
theorem dX6_leads_8 : decode cX6_leads 8 = .ok (.bipush (-2), 2) := by decide +kernel
theorem dX6_leads_10 : decode cX6_leads 10 = .ok (.invokevirtual 67, 3) := by decide +kernel
theorem dX6_leads_13 : decode cX6_leads 13 = .ok (.ireturn, 1) := by decide +kernel
theorem dX6_leads_14 : decode cX6_leads 14 = .ok (.aload_n 0, 1) := by decide +kernel
theorem dX6_leads_15 : decode cX6_leads 15 = .ok (.getfield 27, 3) := by decide +kernel
theorem dX6_leads_18 : decode cX6_leads 18 = .ok (.aload_n 0, 1) := by decide +kernel
theorem dX6_leads_19 : decode cX6_leads 19 = .ok (.getfield 10, 3) := by decide +kernel
theorem dX6_leads_22 : decode cX6_leads 22 = .ok (.iload_n 1, 1) := by decide +kernel
theorem dX6_leads_23 : decode cX6_leads 23 = .ok (.invokevirtual 247, 3) := by decide +kernel
theorem dX6_leads_26 : decode cX6_leads 26 = .ok (.aload_n 0, 1) := by decide +kernel
theorem dX6_leads_27 : decode cX6_leads 27 = .ok (.getfield 27, 3) := by decide +kernel
theorem dX6_leads_30 : decode cX6_leads 30 = .ok (.getfield 283, 3) := by decide +kernel
theorem dX6_leads_33 : decode cX6_leads 33 = .ok (.ireturn, 1) := by decide +kernel
theorem dX6_game_0 : decode cX6_game 0 = .ok (.iload_n 1, 1) := by decide +kernel
theorem dX6_game_1 : decode cX6_game 1 = .ok (.ifCond .lt 8, 3) := by decide +kernel
theorem dX6_game_4 : decode cX6_game 4 = .ok (.iload_n 1, 1) := by decide +kernel
theorem dX6_game_5 : decode cX6_game 5 = .ok (.iconst 2, 1) := by decide +kernel
theorem dX6_game_6 : decode cX6_game 6 = .ok (.if_icmp .le 14, 3) := by decide +kernel
theorem dX6_game_9 : decode cX6_game 9 = .ok (.sipush (-1000), 3) := by decide +kernel
theorem dX6_game_12 : decode cX6_game 12 = .ok (.aload_n 0, 1) := by decide +kernel
theorem dX6_game_13 : decode cX6_game 13 = .ok (.bipush (-2), 2) := by decide +kernel
theorem dX6_game_15 : decode cX6_game 15 = .ok (.invokevirtual 67, 3) := by decide +kernel
theorem dX6_game_18 : decode cX6_game 18 = .ok (.iadd, 1) := by decide +kernel
theorem dX6_game_19 : decode cX6_game 19 = .ok (.ireturn, 1) := by decide +kernel
theorem dX6_game_20 : decode cX6_game 20 = .ok (.aload_n 0, 1) := by decide +kernel
theorem dX6_game_21 : decode cX6_game 21 = .ok (.getfield 10, 3) := by decide +kernel
theorem dX6_game_24 : decode cX6_game 24 = .ok (.invokevirtual 229, 3) := by decide +kernel
theorem dX6_game_27 : decode cX6_game 27 = .ok (.ifCond .eq 14, 3) := by decide +kernel
theorem dX6_game_30 : decode cX6_game 30 = .ok (.sipush (-1000), 3) := by decide +kernel
theorem dX6_game_33 : decode cX6_game 33 = .ok (.aload_n 0, 1) := by decide +kernel
theorem dX6_game_34 : decode cX6_game 34 = .ok (.bipush (-5), 2) := by decide +kernel
theorem dX6_game_36 : decode cX6_game 36 = .ok (.invokevirtual 67, 3) := by decide +kernel
theorem dX6_game_39 : decode cX6_game 39 = .ok (.iadd, 1) := by decide +kernel
theorem dX6_game_40 : decode cX6_game 40 = .ok (.ireturn, 1) := by decide +kernel
theorem dX6_game_41 : decode cX6_game 41 = .ok (.aload_n 0, 1) := by decide +kernel
theorem dX6_game_42 : decode cX6_game 42 = .ok (.getfield 34, 3) := by decide +kernel
theorem dX6_game_45 : decode cX6_game 45 = .ok (.aload_n 0, 1) := by decide +kernel
theorem dX6_game_46 : decode cX6_game 46 = .ok (.getfield 10, 3) := by decide +kernel
theorem dX6_game_49 : decode cX6_game 49 = .ok (.iload_n 1, 1) := by decide +kernel
theorem dX6_game_50 : decode cX6_game 50 = .ok (.invokevirtual 286, 3) := by decide +kernel
theorem dX6_game_53 : decode cX6_game 53 = .ok (.ireturn, 1) := by decide +kernel
theorem dX6_first_0 : decode cX6_first 0 = .ok (.iload_n 1, 1) := by decide +kernel
theorem dX6_first_1 : decode cX6_first 1 = .ok (.iconst 1, 1) := by decide +kernel
theorem dX6_first_2 : decode cX6_first 2 = .ok (.if_icmp .lt 8, 3) := by decide +kernel
theorem dX6_first_5 : decode cX6_first 5 = .ok (.iload_n 1, 1) := by decide +kernel
theorem dX6_first_6 : decode cX6_first 6 = .ok (.iconst 2, 1) := by decide +kernel
theorem dX6_first_7 : decode cX6_first 7 = .ok (.if_icmp .le 10, 3) := by decide +kernel
theorem dX6_first_10 : decode cX6_first 10 = .ok (.aload_n 0, 1) := by decide +kernel
theorem dX6_first_11 : decode cX6_first 11 = .ok (.bipush (-2), 2) := by decide +kernel
theorem dX6_first_13 : decode cX6_first 13 = .ok (.invokevirtual 67, 3) := by decide +kernel
theorem dX6_first_16 : decode cX6_first 16 = .ok (.ireturn, 1) := by decide +kernel
theorem dX6_first_17 : decode cX6_first 17 = .ok (.aload_n 0, 1) := by decide +kernel
theorem dX6_first_18 : decode cX6_first 18 = .ok (.getfield 10, 3) := by decide +kernel
theorem dX6_first_21 : decode cX6_first 21 = .ok (.invokevirtual 229, 3) := by decide +kernel
theorem dX6_first_24 : decode cX6_first 24 = .ok (.ifCond .eq 10, 3) := by decide +kernel
theorem dX6_first_27 : decode cX6_first 27 = .ok (.aload_n 0, 1) := by decide +kernel
theorem dX6_first_28 : decode cX6_first 28 = .ok (.bipush (-5), 2) := by decide +kernel
theorem dX6_first_30 : decode cX6_first 30 = .ok (.invokevirtual 67, 3) := by decide +kernel
theorem dX6_first_33 : decode cX6_first 33 = .ok (.ireturn, 1) := by decide +kernel
theorem dX6_first_34 : decode cX6_first 34 = .ok (.aload_n 0, 1) := by decide +kernel
theorem dX6_first_35 : decode cX6_first 35 = .ok (.getfield 34, 3) := by decide +kernel
theorem dX6_first_38 : decode cX6_first 38 = .ok (.aload_n 0, 1) := by decide +kernel
theorem dX6_first_39 : decode cX6_first 39 = .ok (.getfield 10, 3) := by decide +kernel
theorem dX6_first_42 : decode cX6_first 42 = .ok (.iload_n 1, 1) := by decide +kernel
theorem dX6_first_43 : decode cX6_first 43 = .ok (.invokevirtual 286, 3) := by decide +kernel
theorem dX6_first_46 : decode cX6_first 46 = .ok (.pop, 1) := by decide +kernel
theorem dX6_first_47 : decode cX6_first 47 = .ok (.aload_n 0, 1) := by decide +kernel
theorem dX6_first_48 : decode cX6_first 48 = .ok (.getfield 34, 3) := by decide +kernel
theorem dX6_first_51 : decode cX6_first 51 = .ok (.getfield 289, 3) := by decide +kernel
theorem dX6_first_54 : decode cX6_first 54 = .ok (.ireturn, 1) := by decide +kernel
theorem dX6_together_0 : decode cX6_together 0 = .ok (.iload_n 1, 1) := by decide +kernel
theorem dX6_together_1 : decode cX6_together 1 = .ok (.invokestatic 132, 3) := by decide +kernel
theorem dX6_together_4 : decode cX6_together 4 = .ok (.ifCond .ne 10, 3) := by decide +kernel
theorem dX6_together_7 : decode cX6_together 7 = .ok (.aload_n 0, 1) := by decide +kernel
theorem dX6_together_8 : decode cX6_together 8 = .ok (.bipush (-2), 2) := by decide +kernel
theorem dX6_together_10 : decode cX6_together 10 = .ok (.invokevirtual 67, 3) := by decide +kernel
theorem dX6_together_13 : decode cX6_together 13 = .ok (.ireturn, 1) := by decide +kernel
theorem dX6_together_14 : decode cX6_together 14 = .ok (.aload_n 0, 1) := by decide +kernel
theorem dX6_together_15 : decode cX6_together 15 = .ok (.getfield 10, 3) := by decide +kernel
theorem dX6_together_18 : decode cX6_together 18 = .ok (.getfield 199, 3) := by decide +kernel
theorem dX6_together_21 : decode cX6_together 21 = .ok (.iload_n 1, 1) := by decide +kernel
theorem dX6_together_22 : decode cX6_together 22 = .ok (.iaload, 1) := by decide +kernel
theorem dX6_together_23 : decode cX6_together 23 = .ok (.bipush 7, 2) := by decide +kernel
theorem dX6_together_25 : decode cX6_together 25 = .ok (.if_icmp .le 10, 3) := by decide +kernel
theorem dX6_together_28 : decode cX6_together 28 = .ok (.aload_n 0, 1) := by decide +kernel
theorem dX6_together_29 : decode cX6_together 29 = .ok (.bipush (-6), 2) := by decide +kernel
theorem dX6_together_31 : decode cX6_together 31 = .ok (.invokevirtual 67, 3) := by decide +kernel
theorem dX6_together_34 : decode cX6_together 34 = .ok (.ireturn, 1) := by decide +kernel
theorem dX6_together_35 : decode cX6_together 35 = .ok (.aload_n 0, 1) := by decide +kernel
theorem dX6_together_36 : decode cX6_together 36 = .ok (.getfield 10, 3) := by decide +kernel
theorem dX6_together_39 : decode cX6_together 39 = .ok (.getfield 199, 3) := by decide +kernel
theorem dX6_together_42 : decode cX6_together 42 = .ok (.iload_n 1, 1) := by decide +kernel
theorem dX6_together_43 : decode cX6_together 43 = .ok (.iaload, 1) := by decide +kernel
theorem dX6_together_44 : decode cX6_together 44 = .ok (.aload_n 0, 1) := by decide +kernel
theorem dX6_together_45 : decode cX6_together 45 = .ok (.getfield 10, 3) := by decide +kernel
theorem dX6_together_48 : decode cX6_together 48 = .ok (.iload_n 1, 1) := by decide +kernel
theorem dX6_together_49 : decode cX6_together 49 = .ok (.invokevirtual 126, 3) := by decide +kernel
theorem dX6_together_52 : decode cX6_together 52 = .ok (.invokestatic 292, 3) := by decide +kernel
theorem dX6_together_55 : decode cX6_together 55 = .ok (.ireturn, 1) := by decide +kernel
theorem dX6_swap_0 : decode cX6_swap 0 = .ok (.iload_n 1, 1) := by decide +kernel
theorem dX6_swap_1 : decode cX6_swap 1 = .ok (.invokestatic 132, 3) := by decide +kernel
theorem dX6_swap_4 : decode cX6_swap 4 = .ok (.ifCond .eq 12, 3) := by decide +kernel
theorem dX6_swap_7 : decode cX6_swap 7 = .ok (.iload_n 2, 1) := by decide +kernel
theorem dX6_swap_8 : decode cX6_swap 8 = .ok (.ifCond .lt 8, 3) := by decide +kernel
theorem dX6_swap_11 : decode cX6_swap 11 = .ok (.iload_n 2, 1) := by decide +kernel
theorem dX6_swap_12 : decode cX6_swap 12 = .ok (.iconst 1, 1) := by decide +kernel
theorem dX6_swap_13 : decode cX6_swap 13 = .ok (.if_icmp .le 14, 3) := by decide +kernel
theorem dX6_swap_16 : decode cX6_swap 16 = .ok (.sipush (-1000), 3) := by decide +kernel
theorem dX6_swap_19 : decode cX6_swap 19 = .ok (.aload_n 0, 1) := by decide +kernel
theorem dX6_swap_20 : decode cX6_swap 20 = .ok (.bipush (-2), 2) := by decide +kernel
theorem dX6_swap_22 : decode cX6_swap 22 = .ok (.invokevirtual 67, 3) := by decide +kernel
theorem dX6_swap_25 : decode cX6_swap 25 = .ok (.iadd, 1) := by decide +kernel
theorem dX6_swap_26 : decode cX6_swap 26 = .ok (.ireturn, 1) := by decide +kernel
theorem dX6_swap_27 : decode cX6_swap 27 = .ok (.aload_n 0, 1) := by decide +kernel
theorem dX6_swap_28 : decode cX6_swap 28 = .ok (.getfield 10, 3) := by decide +kernel
theorem dX6_swap_31 : decode cX6_swap 31 = .ok (.getfield 199, 3) := by decide +kernel
theorem dX6_swap_34 : decode cX6_swap 34 = .ok (.iload_n 1, 1) := by decide +kernel
theorem dX6_swap_35 : decode cX6_swap 35 = .ok (.iaload, 1) := by decide +kernel
theorem dX6_swap_36 : decode cX6_swap 36 = .ok (.iconst 2, 1) := by decide +kernel
theorem dX6_swap_37 : decode cX6_swap 37 = .ok (.if_icmp .ge 14, 3) := by decide +kernel
theorem dX6_swap_40 : decode cX6_swap 40 = .ok (.sipush (-1000), 3) := by decide +kernel
theorem dX6_swap_43 : decode cX6_swap 43 = .ok (.aload_n 0, 1) := by decide +kernel
theorem dX6_swap_44 : decode cX6_swap 44 = .ok (.bipush (-5), 2) := by decide +kernel
theorem dX6_swap_46 : decode cX6_swap 46 = .ok (.invokevirtual 67, 3) := by decide +kernel
theorem dX6_swap_49 : decode cX6_swap 49 = .ok (.iadd, 1) := by decide +kernel
theorem dX6_swap_50 : decode cX6_swap 50 = .ok (.ireturn, 1) := by decide +kernel
theorem dX6_swap_51 : decode cX6_swap 51 = .ok (.aload_n 0, 1) := by decide +kernel
theorem dX6_swap_52 : decode cX6_swap 52 = .ok (.getfield 19, 3) := by decide +kernel
theorem dX6_swap_55 : decode cX6_swap 55 = .ok (.aload_n 0, 1) := by decide +kernel
theorem dX6_swap_56 : decode cX6_swap 56 = .ok (.getfield 10, 3) := by decide +kernel
theorem dX6_swap_59 : decode cX6_swap 59 = .ok (.invokevirtual 180, 3) := by decide +kernel
theorem dX6_swap_62 : decode cX6_swap 62 = .ok (.iconst 0, 1) := by decide +kernel
theorem dX6_swap_63 : decode cX6_swap 63 = .ok (.istore_n 3, 1) := by decide +kernel
theorem dX6_swap_64 : decode cX6_swap 64 = .ok (.iconst (-1), 1) := by decide +kernel
theorem dX6_swap_65 : decode cX6_swap 65 = .ok (.istore 4, 2) := by decide +kernel
theorem dX6_swap_67 : decode cX6_swap 67 = .ok (.iconst 0, 1) := by decide +kernel
theorem dX6_swap_68 : decode cX6_swap 68 = .ok (.istore 5, 2) := by decide +kernel
theorem dX6_swap_70 : decode cX6_swap 70 = .ok (.iload 5, 2) := by decide +kernel
theorem dX6_swap_72 : decode cX6_swap 72 = .ok (.aload_n 0, 1) := by decide +kernel
theorem dX6_swap_73 : decode cX6_swap 73 = .ok (.getfield 19, 3) := by decide +kernel
theorem dX6_swap_76 : decode cX6_swap 76 = .ok (.getfield 199, 3) := by decide +kernel
theorem dX6_swap_79 : decode cX6_swap 79 = .ok (.iload_n 1, 1) := by decide +kernel
theorem dX6_swap_80 : decode cX6_swap 80 = .ok (.iaload, 1) := by decide +kernel
theorem dX6_swap_81 : decode cX6_swap 81 = .ok (.iconst 1, 1) := by decide +kernel
theorem dX6_swap_82 : decode cX6_swap 82 = .ok (.isub, 1) := by decide +kernel
theorem dX6_swap_83 : decode cX6_swap 83 = .ok (.if_icmp .ge 53, 3) := by decide +kernel
theorem dX6_swap_86 : decode cX6_swap 86 = .ok (.aload_n 0, 1) := by decide +kernel
theorem dX6_swap_87 : decode cX6_swap 87 = .ok (.getfield 19, 3) := by decide +kernel
theorem dX6_swap_90 : decode cX6_swap 90 = .ok (.iload_n 1, 1) := by decide +kernel
theorem dX6_swap_91 : decode cX6_swap 91 = .ok (.iload 5, 2) := by decide +kernel
theorem dX6_swap_93 : decode cX6_swap 93 = .ok (.invokevirtual 295, 3) := by decide +kernel
theorem dX6_swap_96 : decode cX6_swap 96 = .ok (.aload_n 0, 1) := by decide +kernel
theorem dX6_swap_97 : decode cX6_swap 97 = .ok (.getfield 19, 3) := by decide +kernel
theorem dX6_swap_100 : decode cX6_swap 100 = .ok (.iload_n 1, 1) := by decide +kernel
theorem dX6_swap_101 : decode cX6_swap 101 = .ok (.invokevirtual 261, 3) := by decide +kernel
theorem dX6_swap_104 : decode cX6_swap 104 = .ok (.istore 6, 2) := by decide +kernel
theorem dX6_swap_106 : decode cX6_swap 106 = .ok (.aload_n 0, 1) := by decide +kernel
theorem dX6_swap_107 : decode cX6_swap 107 = .ok (.getfield 19, 3) := by decide +kernel
theorem dX6_swap_110 : decode cX6_swap 110 = .ok (.iload_n 1, 1) := by decide +kernel
theorem dX6_swap_111 : decode cX6_swap 111 = .ok (.iload 5, 2) := by decide +kernel
theorem dX6_swap_113 : decode cX6_swap 113 = .ok (.invokevirtual 295, 3) := by decide +kernel
theorem dX6_swap_116 : decode cX6_swap 116 = .ok (.iload 6, 2) := by decide +kernel
theorem dX6_swap_118 : decode cX6_swap 118 = .ok (.iload 4, 2) := by decide +kernel
theorem dX6_swap_120 : decode cX6_swap 120 = .ok (.if_icmp .le 10, 3) := by decide +kernel
theorem dX6_swap_123 : decode cX6_swap 123 = .ok (.iload 6, 2) := by decide +kernel
theorem dX6_swap_125 : decode cX6_swap 125 = .ok (.istore 4, 2) := by decide +kernel
theorem dX6_swap_127 : decode cX6_swap 127 = .ok (.iload 5, 2) := by decide +kernel
theorem dX6_swap_129 : decode cX6_swap 129 = .ok (.istore_n 3, 1) := by decide +kernel
theorem dX6_swap_130 : decode cX6_swap 130 = .ok (.iinc 5 1, 3) := by decide +kernel
theorem dX6_swap_133 : decode cX6_swap 133 = .ok (.goto (-63), 3) := by decide +kernel
theorem dX6_swap_136 : decode cX6_swap 136 = .ok (.iload_n 2, 1) := by decide +kernel
theorem dX6_swap_137 : decode cX6_swap 137 = .ok (.ifCond .ne 7, 3) := by decide +kernel
theorem dX6_swap_140 : decode cX6_swap 140 = .ok (.iload_n 3, 1) := by decide +kernel
theorem dX6_swap_141 : decode cX6_swap 141 = .ok (.goto 14, 3) := by decide +kernel
theorem dX6_swap_144 : decode cX6_swap 144 = .ok (.iload 4, 2) := by decide +kernel
theorem dX6_swap_146 : decode cX6_swap 146 = .ok (.aload_n 0, 1) := by decide +kernel
theorem dX6_swap_147 : decode cX6_swap 147 = .ok (.getfield 10, 3) := by decide +kernel
theorem dX6_swap_150 : decode cX6_swap 150 = .ok (.iload_n 1, 1) := by decide +kernel
theorem dX6_swap_151 : decode cX6_swap 151 = .ok (.invokevirtual 261, 3) := by decide +kernel
theorem dX6_swap_154 : decode cX6_swap 154 = .ok (.isub, 1) := by decide +kernel
theorem dX6_swap_155 : decode cX6_swap 155 = .ok (.ireturn, 1) := by decide +kernel
theorem dX6_could_0 : decode cX6_could 0 = .ok (.aload_n 0, 1) := by decide +kernel
theorem dX6_could_1 : decode cX6_could 1 = .ok (.getfield 10, 3) := by decide +kernel
theorem dX6_could_4 : decode cX6_could 4 = .ok (.aload_n 0, 1) := by decide +kernel
theorem dX6_could_5 : decode cX6_could 5 = .ok (.getfield 10, 3) := by decide +kernel
theorem dX6_could_8 : decode cX6_could 8 = .ok (.getfield 169, 3) := by decide +kernel
theorem dX6_could_11 : decode cX6_could 11 = .ok (.iload_n 1, 1) := by decide +kernel
theorem dX6_could_12 : decode cX6_could 12 = .ok (.invokevirtual 205, 3) := by decide +kernel
theorem dX6_could_15 : decode cX6_could 15 = .ok (.ifCond .eq 12, 3) := by decide +kernel
theorem dX6_could_18 : decode cX6_could 18 = .ok (.iload_n 2, 1) := by decide +kernel
theorem dX6_could_19 : decode cX6_could 19 = .ok (.ifCond .lt 8, 3) := by decide +kernel
theorem dX6_could_22 : decode cX6_could 22 = .ok (.iload_n 2, 1) := by decide +kernel
theorem dX6_could_23 : decode cX6_could 23 = .ok (.iconst 1, 1) := by decide +kernel
theorem dX6_could_24 : decode cX6_could 24 = .ok (.if_icmp .le 10, 3) := by decide +kernel
theorem dX6_could_27 : decode cX6_could 27 = .ok (.aload_n 0, 1) := by decide +kernel
theorem dX6_could_28 : decode cX6_could 28 = .ok (.bipush (-2), 2) := by decide +kernel
theorem dX6_could_30 : decode cX6_could 30 = .ok (.invokevirtual 67, 3) := by decide +kernel
theorem dX6_could_33 : decode cX6_could 33 = .ok (.ireturn, 1) := by decide +kernel
theorem dX6_could_34 : decode cX6_could 34 = .ok (.iload_n 2, 1) := by decide +kernel
theorem dX6_could_35 : decode cX6_could 35 = .ok (.iconst 1, 1) := by decide +kernel
theorem dX6_could_36 : decode cX6_could 36 = .ok (.if_icmp .ne 9, 3) := by decide +kernel
theorem dX6_could_39 : decode cX6_could 39 = .ok (.ldc_w 298, 3) := by decide +kernel
theorem dX6_could_42 : decode cX6_could 42 = .ok (.goto 4, 3) := by decide +kernel
theorem dX6_could_45 : decode cX6_could 45 = .ok (.iconst 1, 1) := by decide +kernel
theorem dX6_could_46 : decode cX6_could 46 = .ok (.istore_n 3, 1) := by decide +kernel
theorem dX6_could_47 : decode cX6_could 47 = .ok (.iconst 0, 1) := by decide +kernel
theorem dX6_could_48 : decode cX6_could 48 = .ok (.istore 4, 2) := by decide +kernel
theorem dX6_could_50 : decode cX6_could 50 = .ok (.iconst 0, 1) := by decide +kernel
theorem dX6_could_51 : decode cX6_could 51 = .ok (.istore 5, 2) := by decide +kernel
theorem dX6_could_53 : decode cX6_could 53 = .ok (.iload 5, 2) := by decide +kernel
theorem dX6_could_55 : decode cX6_could 55 = .ok (.aload_n 0, 1) := by decide +kernel
theorem dX6_could_56 : decode cX6_could 56 = .ok (.getfield 10, 3) := by decide +kernel
theorem dX6_could_59 : decode cX6_could 59 = .ok (.getfield 138, 3) := by decide +kernel
theorem dX6_could_62 : decode cX6_could 62 = .ok (.if_icmp .ge 44, 3) := by decide +kernel
theorem dX6_could_65 : decode cX6_could 65 = .ok (.aload_n 0, 1) := by decide +kernel
theorem dX6_could_66 : decode cX6_could 66 = .ok (.getfield 10, 3) := by decide +kernel
theorem dX6_could_69 : decode cX6_could 69 = .ok (.iload 5, 2) := by decide +kernel
theorem dX6_could_71 : decode cX6_could 71 = .ok (.invokevirtual 226, 3) := by decide +kernel
theorem dX6_could_74 : decode cX6_could 74 = .ok (.ifCond .eq 26, 3) := by decide +kernel
theorem dX6_could_77 : decode cX6_could 77 = .ok (.aload_n 0, 1) := by decide +kernel
theorem dX6_could_78 : decode cX6_could 78 = .ok (.getfield 10, 3) := by decide +kernel
theorem dX6_could_81 : decode cX6_could 81 = .ok (.iload 5, 2) := by decide +kernel
theorem dX6_could_83 : decode cX6_could 83 = .ok (.iload_n 1, 1) := by decide +kernel
theorem dX6_could_84 : decode cX6_could 84 = .ok (.invokevirtual 223, 3) := by decide +kernel
theorem dX6_could_87 : decode cX6_could 87 = .ok (.iload_n 3, 1) := by decide +kernel
theorem dX6_could_88 : decode cX6_could 88 = .ok (.if_icmp .lt 12, 3) := by decide +kernel
theorem dX6_could_91 : decode cX6_could 91 = .ok (.iload 4, 2) := by decide +kernel
theorem dX6_could_93 : decode cX6_could 93 = .ok (.iconst 1, 1) := by decide +kernel
theorem dX6_could_94 : decode cX6_could 94 = .ok (.iload 5, 2) := by decide +kernel
theorem dX6_could_96 : decode cX6_could 96 = .ok (.ishl, 1) := by decide +kernel
theorem dX6_could_97 : decode cX6_could 97 = .ok (.ior, 1) := by decide +kernel
theorem dX6_could_98 : decode cX6_could 98 = .ok (.istore 4, 2) := by decide +kernel
theorem dX6_could_100 : decode cX6_could 100 = .ok (.iinc 5 1, 3) := by decide +kernel
theorem dX6_could_103 : decode cX6_could 103 = .ok (.goto (-50), 3) := by decide +kernel
theorem dX6_could_106 : decode cX6_could 106 = .ok (.iload 4, 2) := by decide +kernel
theorem dX6_could_108 : decode cX6_could 108 = .ok (.ireturn, 1) := by decide +kernel
theorem dX6_judge_0 : decode cX6_judge 0 = .ok (.aload_n 0, 1) := by decide +kernel
theorem dX6_judge_1 : decode cX6_judge 1 = .ok (.iload_n 1, 1) := by decide +kernel
theorem dX6_judge_2 : decode cX6_judge 2 = .ok (.iload_n 2, 1) := by decide +kernel
theorem dX6_judge_3 : decode cX6_judge 3 = .ok (.invokevirtual 75, 3) := by decide +kernel
theorem dX6_judge_6 : decode cX6_judge 6 = .ok (.istore_n 3, 1) := by decide +kernel
theorem dX6_judge_7 : decode cX6_judge 7 = .ok (.iload_n 3, 1) := by decide +kernel
theorem dX6_judge_8 : decode cX6_judge 8 = .ok (.ifCond .eq 11, 3) := by decide +kernel
theorem dX6_judge_11 : decode cX6_judge 11 = .ok (.aload_n 0, 1) := by decide +kernel
theorem dX6_judge_12 : decode cX6_judge 12 = .ok (.iload_n 3, 1) := by decide +kernel
theorem dX6_judge_13 : decode cX6_judge 13 = .ok (.invokevirtual 67, 3) := by decide +kernel
theorem dX6_judge_16 : decode cX6_judge 16 = .ok (.goto 14, 3) := by decide +kernel
theorem dX6_judge_19 : decode cX6_judge 19 = .ok (.aload_n 0, 1) := by decide +kernel
theorem dX6_judge_20 : decode cX6_judge 20 = .ok (.aload_n 0, 1) := by decide +kernel
theorem dX6_judge_21 : decode cX6_judge 21 = .ok (.getfield 54, 3) := by decide +kernel
theorem dX6_judge_24 : decode cX6_judge 24 = .ok (.iload_n 1, 1) := by decide +kernel
theorem dX6_judge_25 : decode cX6_judge 25 = .ok (.aaload, 1) := by decide +kernel
theorem dX6_judge_26 : decode cX6_judge 26 = .ok (.iload_n 2, 1) := by decide +kernel
theorem dX6_judge_27 : decode cX6_judge 27 = .ok (.invokevirtual 299, 3) := by decide +kernel
theorem dX6_judge_30 : decode cX6_judge 30 = .ok (.ireturn, 1) := by decide +kernel
theorem dX6_behind_0 : decode cX6_behind 0 = .ok (.iload_n 3, 1) := by decide +kernel
theorem dX6_behind_1 : decode cX6_behind 1 = .ok (.ifCond .lt 8, 3) := by decide +kernel
theorem dX6_behind_4 : decode cX6_behind 4 = .ok (.iload_n 3, 1) := by decide +kernel
theorem dX6_behind_5 : decode cX6_behind 5 = .ok (.iconst 2, 1) := by decide +kernel
theorem dX6_behind_6 : decode cX6_behind 6 = .ok (.if_icmp .le 8, 3) := by decide +kernel
theorem dX6_behind_9 : decode cX6_behind 9 = .ok (.bipush (-2), 2) := by decide +kernel
theorem dX6_behind_11 : decode cX6_behind 11 = .ok (.goto 9, 3) := by decide +kernel
theorem dX6_behind_14 : decode cX6_behind 14 = .ok (.aload_n 0, 1) := by decide +kernel
theorem dX6_behind_15 : decode cX6_behind 15 = .ok (.iload_n 1, 1) := by decide +kernel
theorem dX6_behind_16 : decode cX6_behind 16 = .ok (.iload_n 2, 1) := by decide +kernel
theorem dX6_behind_17 : decode cX6_behind 17 = .ok (.invokevirtual 75, 3) := by decide +kernel
theorem dX6_behind_20 : decode cX6_behind 20 = .ok (.istore 4, 2) := by decide +kernel
theorem dX6_behind_22 : decode cX6_behind 22 = .ok (.iload 4, 2) := by decide +kernel
theorem dX6_behind_24 : decode cX6_behind 24 = .ok (.ifCond .eq 10, 3) := by decide +kernel
theorem dX6_behind_27 : decode cX6_behind 27 = .ok (.aload_n 0, 1) := by decide +kernel
theorem dX6_behind_28 : decode cX6_behind 28 = .ok (.iload 4, 2) := by decide +kernel
theorem dX6_behind_30 : decode cX6_behind 30 = .ok (.invokevirtual 67, 3) := by decide +kernel
theorem dX6_behind_33 : decode cX6_behind 33 = .ok (.ireturn, 1) := by decide +kernel
theorem dX6_behind_34 : decode cX6_behind 34 = .ok (.aload_n 0, 1) := by decide +kernel
theorem dX6_behind_35 : decode cX6_behind 35 = .ok (.aload_n 0, 1) := by decide +kernel
theorem dX6_behind_36 : decode cX6_behind 36 = .ok (.getfield 54, 3) := by decide +kernel
theorem dX6_behind_39 : decode cX6_behind 39 = .ok (.iload_n 1, 1) := by decide +kernel
theorem dX6_behind_40 : decode cX6_behind 40 = .ok (.aaload, 1) := by decide +kernel
theorem dX6_behind_41 : decode cX6_behind 41 = .ok (.iload_n 2, 1) := by decide +kernel
theorem dX6_behind_42 : decode cX6_behind 42 = .ok (.invokevirtual 299, 3) := by decide +kernel
theorem dX6_behind_45 : decode cX6_behind 45 = .ok (.iconst (-1), 1) := by decide +kernel
theorem dX6_behind_46 : decode cX6_behind 46 = .ok (.if_icmp .eq 10, 3) := by decide +kernel
theorem dX6_behind_49 : decode cX6_behind 49 = .ok (.aload_n 0, 1) := by decide +kernel
theorem dX6_behind_50 : decode cX6_behind 50 = .ok (.bipush (-5), 2) := by decide +kernel
theorem dX6_behind_52 : decode cX6_behind 52 = .ok (.invokevirtual 67, 3) := by decide +kernel
theorem dX6_behind_55 : decode cX6_behind 55 = .ok (.ireturn, 1) := by decide +kernel
theorem dX6_behind_56 : decode cX6_behind 56 = .ok (.iload_n 3, 1) := by decide +kernel
theorem dX6_behind_57 : decode cX6_behind 57 = .ok (.iconst 2, 1) := by decide +kernel
theorem dX6_behind_58 : decode cX6_behind 58 = .ok (.if_icmp .ne 13, 3) := by decide +kernel
theorem dX6_behind_61 : decode cX6_behind 61 = .ok (.aload_n 0, 1) := by decide +kernel
theorem dX6_behind_62 : decode cX6_behind 62 = .ok (.getfield 19, 3) := by decide +kernel
theorem dX6_behind_65 : decode cX6_behind 65 = .ok (.invokevirtual 241, 3) := by decide +kernel
theorem dX6_behind_68 : decode cX6_behind 68 = .ok (.goto 12, 3) := by decide +kernel
theorem dX6_behind_71 : decode cX6_behind 71 = .ok (.aload_n 0, 1) := by decide +kernel
theorem dX6_behind_72 : decode cX6_behind 72 = .ok (.getfield 19, 3) := by decide +kernel
theorem dX6_behind_75 : decode cX6_behind 75 = .ok (.getfield 199, 3) := by decide +kernel
theorem dX6_behind_78 : decode cX6_behind 78 = .ok (.iload_n 3, 1) := by decide +kernel
theorem dX6_behind_79 : decode cX6_behind 79 = .ok (.iaload, 1) := by decide +kernel
theorem dX6_behind_80 : decode cX6_behind 80 = .ok (.ireturn, 1) := by decide +kernel
theorem dX6_booked_0 : decode cX6_booked 0 = .ok (.aload_n 0, 1) := by decide +kernel
theorem dX6_booked_1 : decode cX6_booked 1 = .ok (.iload_n 1, 1) := by decide +kernel
theorem dX6_booked_2 : decode cX6_booked 2 = .ok (.iload_n 2, 1) := by decide +kernel
theorem dX6_booked_3 : decode cX6_booked 3 = .ok (.invokevirtual 75, 3) := by decide +kernel
theorem dX6_booked_6 : decode cX6_booked 6 = .ok (.istore_n 3, 1) := by decide +kernel
theorem dX6_booked_7 : decode cX6_booked 7 = .ok (.iload_n 3, 1) := by decide +kernel
theorem dX6_booked_8 : decode cX6_booked 8 = .ok (.ifCond .eq 9, 3) := by decide +kernel
theorem dX6_booked_11 : decode cX6_booked 11 = .ok (.aload_n 0, 1) := by decide +kernel
theorem dX6_booked_12 : decode cX6_booked 12 = .ok (.iload_n 3, 1) := by decide +kernel
theorem dX6_booked_13 : decode cX6_booked 13 = .ok (.invokevirtual 67, 3) := by decide +kernel
theorem dX6_booked_16 : decode cX6_booked 16 = .ok (.ireturn, 1) := by decide +kernel
theorem dX6_booked_17 : decode cX6_booked 17 = .ok (.aload_n 0, 1) := by decide +kernel
theorem dX6_booked_18 : decode cX6_booked 18 = .ok (.aload_n 0, 1) := by decide +kernel
theorem dX6_booked_19 : decode cX6_booked 19 = .ok (.getfield 54, 3) := by decide +kernel
theorem dX6_booked_22 : decode cX6_booked 22 = .ok (.iload_n 1, 1) := by decide +kernel
theorem dX6_booked_23 : decode cX6_booked 23 = .ok (.aaload, 1) := by decide +kernel
theorem dX6_booked_24 : decode cX6_booked 24 = .ok (.iload_n 2, 1) := by decide +kernel
theorem dX6_booked_25 : decode cX6_booked 25 = .ok (.invokevirtual 299, 3) := by decide +kernel
theorem dX6_booked_28 : decode cX6_booked 28 = .ok (.iconst (-1), 1) := by decide +kernel
theorem dX6_booked_29 : decode cX6_booked 29 = .ok (.if_icmp .eq 10, 3) := by decide +kernel
theorem dX6_booked_32 : decode cX6_booked 32 = .ok (.aload_n 0, 1) := by decide +kernel
theorem dX6_booked_33 : decode cX6_booked 33 = .ok (.bipush (-5), 2) := by decide +kernel
theorem dX6_booked_35 : decode cX6_booked 35 = .ok (.invokevirtual 67, 3) := by decide +kernel
theorem dX6_booked_38 : decode cX6_booked 38 = .ok (.ireturn, 1) := by decide +kernel
theorem dX6_booked_39 : decode cX6_booked 39 = .ok (.aload_n 0, 1) := by decide +kernel
theorem dX6_booked_40 : decode cX6_booked 40 = .ok (.getfield 10, 3) := by decide +kernel
theorem dX6_booked_43 : decode cX6_booked 43 = .ok (.aload_n 0, 1) := by decide +kernel
theorem dX6_booked_44 : decode cX6_booked 44 = .ok (.getfield 19, 3) := by decide +kernel
theorem dX6_booked_47 : decode cX6_booked 47 = .ok (.invokevirtual 180, 3) := by decide +kernel
theorem dX6_booked_50 : decode cX6_booked 50 = .ok (.aload_n 0, 1) := by decide +kernel
theorem dX6_booked_51 : decode cX6_booked 51 = .ok (.getfield 10, 3) := by decide +kernel
theorem dX6_booked_54 : decode cX6_booked 54 = .ok (.getfield 303, 3) := by decide +kernel
theorem dX6_booked_57 : decode cX6_booked 57 = .ok (.ireturn, 1) := by decide +kernel
theorem dX6_order_0 : decode cX6_order 0 = .ok (.iload_n 1, 1) := by decide +kernel
theorem dX6_order_1 : decode cX6_order 1 = .ok (.invokestatic 132, 3) := by decide +kernel
theorem dX6_order_4 : decode cX6_order 4 = .ok (.ifCond .eq 20, 3) := by decide +kernel
theorem dX6_order_7 : decode cX6_order 7 = .ok (.aload_n 0, 1) := by decide +kernel
theorem dX6_order_8 : decode cX6_order 8 = .ok (.iload_n 2, 1) := by decide +kernel
theorem dX6_order_9 : decode cX6_order 9 = .ok (.aload_n 0, 1) := by decide +kernel
theorem dX6_order_10 : decode cX6_order 10 = .ok (.getfield 10, 3) := by decide +kernel
theorem dX6_order_13 : decode cX6_order 13 = .ok (.getfield 199, 3) := by decide +kernel
theorem dX6_order_16 : decode cX6_order 16 = .ok (.iload_n 1, 1) := by decide +kernel
theorem dX6_order_17 : decode cX6_order 17 = .ok (.iaload, 1) := by decide +kernel
theorem dX6_order_18 : decode cX6_order 18 = .ok (.invokevirtual 75, 3) := by decide +kernel
theorem dX6_order_21 : decode cX6_order 21 = .ok (.goto 5, 3) := by decide +kernel
theorem dX6_order_24 : decode cX6_order 24 = .ok (.bipush (-2), 2) := by decide +kernel
theorem dX6_order_26 : decode cX6_order 26 = .ok (.istore_n 3, 1) := by decide +kernel
theorem dX6_order_27 : decode cX6_order 27 = .ok (.iload_n 3, 1) := by decide +kernel
theorem dX6_order_28 : decode cX6_order 28 = .ok (.ifCond .eq 9, 3) := by decide +kernel
theorem dX6_order_31 : decode cX6_order 31 = .ok (.aload_n 0, 1) := by decide +kernel
theorem dX6_order_32 : decode cX6_order 32 = .ok (.iload_n 3, 1) := by decide +kernel
theorem dX6_order_33 : decode cX6_order 33 = .ok (.invokevirtual 67, 3) := by decide +kernel
theorem dX6_order_36 : decode cX6_order 36 = .ok (.ireturn, 1) := by decide +kernel
theorem dX6_order_37 : decode cX6_order 37 = .ok (.aload_n 0, 1) := by decide +kernel
theorem dX6_order_38 : decode cX6_order 38 = .ok (.iload_n 1, 1) := by decide +kernel
theorem dX6_order_39 : decode cX6_order 39 = .ok (.aload_n 0, 1) := by decide +kernel
theorem dX6_order_40 : decode cX6_order 40 = .ok (.getfield 54, 3) := by decide +kernel
theorem dX6_order_43 : decode cX6_order 43 = .ok (.iload_n 2, 1) := by decide +kernel
theorem dX6_order_44 : decode cX6_order 44 = .ok (.aaload, 1) := by decide +kernel
theorem dX6_order_45 : decode cX6_order 45 = .ok (.getfield 98, 3) := by decide +kernel
theorem dX6_order_48 : decode cX6_order 48 = .ok (.invokevirtual 306, 3) := by decide +kernel
theorem dX6_order_51 : decode cX6_order 51 = .ok (.ifCond .ne 10, 3) := by decide +kernel
theorem dX6_order_54 : decode cX6_order 54 = .ok (.aload_n 0, 1) := by decide +kernel
theorem dX6_order_55 : decode cX6_order 55 = .ok (.bipush (-2), 2) := by decide +kernel
theorem dX6_order_57 : decode cX6_order 57 = .ok (.invokevirtual 67, 3) := by decide +kernel
theorem dX6_order_60 : decode cX6_order 60 = .ok (.ireturn, 1) := by decide +kernel
theorem dX6_order_61 : decode cX6_order 61 = .ok (.aload_n 0, 1) := by decide +kernel
theorem dX6_order_62 : decode cX6_order 62 = .ok (.getfield 10, 3) := by decide +kernel
theorem dX6_order_65 : decode cX6_order 65 = .ok (.getfield 199, 3) := by decide +kernel
theorem dX6_order_68 : decode cX6_order 68 = .ok (.iload_n 1, 1) := by decide +kernel
theorem dX6_order_69 : decode cX6_order 69 = .ok (.iaload, 1) := by decide +kernel
theorem dX6_order_70 : decode cX6_order 70 = .ok (.istore 4, 2) := by decide +kernel
theorem dX6_order_72 : decode cX6_order 72 = .ok (.iconst 0, 1) := by decide +kernel
theorem dX6_order_73 : decode cX6_order 73 = .ok (.istore 5, 2) := by decide +kernel
theorem dX6_order_75 : decode cX6_order 75 = .ok (.iload 5, 2) := by decide +kernel
theorem dX6_order_77 : decode cX6_order 77 = .ok (.iload 4, 2) := by decide +kernel
theorem dX6_order_79 : decode cX6_order 79 = .ok (.if_icmp .ge 34, 3) := by decide +kernel
theorem dX6_order_82 : decode cX6_order 82 = .ok (.aload_n 0, 1) := by decide +kernel
theorem dX6_order_83 : decode cX6_order 83 = .ok (.getfield 10, 3) := by decide +kernel
theorem dX6_order_86 : decode cX6_order 86 = .ok (.getfield 201, 3) := by decide +kernel
theorem dX6_order_89 : decode cX6_order 89 = .ok (.iload_n 1, 1) := by decide +kernel
theorem dX6_order_90 : decode cX6_order 90 = .ok (.aaload, 1) := by decide +kernel
theorem dX6_order_91 : decode cX6_order 91 = .ok (.iload 5, 2) := by decide +kernel
theorem dX6_order_93 : decode cX6_order 93 = .ok (.aload_n 0, 1) := by decide +kernel
theorem dX6_order_94 : decode cX6_order 94 = .ok (.getfield 54, 3) := by decide +kernel
theorem dX6_order_97 : decode cX6_order 97 = .ok (.iload_n 2, 1) := by decide +kernel
theorem dX6_order_98 : decode cX6_order 98 = .ok (.aaload, 1) := by decide +kernel
theorem dX6_order_99 : decode cX6_order 99 = .ok (.getfield 98, 3) := by decide +kernel
theorem dX6_order_102 : decode cX6_order 102 = .ok (.iload 5, 2) := by decide +kernel
theorem dX6_order_104 : decode cX6_order 104 = .ok (.laload, 1) := by decide +kernel
theorem dX6_order_105 : decode cX6_order 105 = .ok (.l2i, 1) := by decide +kernel
theorem dX6_order_106 : decode cX6_order 106 = .ok (.iastore, 1) := by decide +kernel
theorem dX6_order_107 : decode cX6_order 107 = .ok (.iinc 5 1, 3) := by decide +kernel
theorem dX6_order_110 : decode cX6_order 110 = .ok (.goto (-35), 3) := by decide +kernel
theorem dX6_order_113 : decode cX6_order 113 = .ok (.iload 4, 2) := by decide +kernel
theorem dX6_order_115 : decode cX6_order 115 = .ok (.ireturn, 1) := by decide +kernel
theorem dX6_best_0 : decode cX6_best 0 = .ok (.iload_n 1, 1) := by decide +kernel
theorem dX6_best_1 : decode cX6_best 1 = .ok (.invokestatic 132, 3) := by decide +kernel
theorem dX6_best_4 : decode cX6_best 4 = .ok (.ifCond .ne 10, 3) := by decide +kernel
theorem dX6_best_7 : decode cX6_best 7 = .ok (.aload_n 0, 1) := by decide +kernel
theorem dX6_best_8 : decode cX6_best 8 = .ok (.bipush (-2), 2) := by decide +kernel
theorem dX6_best_10 : decode cX6_best 10 = .ok (.invokevirtual 67, 3) := by decide +kernel
theorem dX6_best_13 : decode cX6_best 13 = .ok (.ireturn, 1) := by decide +kernel
theorem dX6_best_14 : decode cX6_best 14 = .ok (.aload_n 0, 1) := by decide +kernel
theorem dX6_best_15 : decode cX6_best 15 = .ok (.getfield 10, 3) := by decide +kernel
theorem dX6_best_18 : decode cX6_best 18 = .ok (.getfield 199, 3) := by decide +kernel
theorem dX6_best_21 : decode cX6_best 21 = .ok (.iload_n 1, 1) := by decide +kernel
theorem dX6_best_22 : decode cX6_best 22 = .ok (.iaload, 1) := by decide +kernel
theorem dX6_best_23 : decode cX6_best 23 = .ok (.bipush 7, 2) := by decide +kernel
theorem dX6_best_25 : decode cX6_best 25 = .ok (.if_icmp .le 10, 3) := by decide +kernel
theorem dX6_best_28 : decode cX6_best 28 = .ok (.aload_n 0, 1) := by decide +kernel
theorem dX6_best_29 : decode cX6_best 29 = .ok (.bipush (-6), 2) := by decide +kernel
theorem dX6_best_31 : decode cX6_best 31 = .ok (.invokevirtual 67, 3) := by decide +kernel
theorem dX6_best_34 : decode cX6_best 34 = .ok (.ireturn, 1) := by decide +kernel
theorem dX6_best_35 : decode cX6_best 35 = .ok (.aload_n 0, 1) := by decide +kernel
theorem dX6_best_36 : decode cX6_best 36 = .ok (.getfield 41, 3) := by decide +kernel
theorem dX6_best_39 : decode cX6_best 39 = .ok (.aload_n 0, 1) := by decide +kernel
theorem dX6_best_40 : decode cX6_best 40 = .ok (.getfield 10, 3) := by decide +kernel
theorem dX6_best_43 : decode cX6_best 43 = .ok (.iload_n 1, 1) := by decide +kernel
theorem dX6_best_44 : decode cX6_best 44 = .ok (.invokevirtual 254, 3) := by decide +kernel
theorem dX6_best_47 : decode cX6_best 47 = .ok (.istore_n 2, 1) := by decide +kernel
theorem dX6_best_48 : decode cX6_best 48 = .ok (.aload_n 0, 1) := by decide +kernel
theorem dX6_best_49 : decode cX6_best 49 = .ok (.getfield 41, 3) := by decide +kernel
theorem dX6_best_52 : decode cX6_best 52 = .ok (.getfield 258, 3) := by decide +kernel
theorem dX6_best_55 : decode cX6_best 55 = .ok (.iconst 0, 1) := by decide +kernel
theorem dX6_best_56 : decode cX6_best 56 = .ok (.aload_n 0, 1) := by decide +kernel
theorem dX6_best_57 : decode cX6_best 57 = .ok (.getfield 10, 3) := by decide +kernel
theorem dX6_best_60 : decode cX6_best 60 = .ok (.getfield 201, 3) := by decide +kernel
theorem dX6_best_63 : decode cX6_best 63 = .ok (.iload_n 1, 1) := by decide +kernel
theorem dX6_best_64 : decode cX6_best 64 = .ok (.aaload, 1) := by decide +kernel
theorem dX6_best_65 : decode cX6_best 65 = .ok (.iconst 0, 1) := by decide +kernel
theorem dX6_best_66 : decode cX6_best 66 = .ok (.aload_n 0, 1) := by decide +kernel
theorem dX6_best_67 : decode cX6_best 67 = .ok (.getfield 10, 3) := by decide +kernel
theorem dX6_best_70 : decode cX6_best 70 = .ok (.getfield 199, 3) := by decide +kernel
theorem dX6_best_73 : decode cX6_best 73 = .ok (.iload_n 1, 1) := by decide +kernel
theorem dX6_best_74 : decode cX6_best 74 = .ok (.iaload, 1) := by decide +kernel
theorem dX6_best_75 : decode cX6_best 75 = .ok (.invokestatic 102, 3) := by decide +kernel
theorem dX6_best_78 : decode cX6_best 78 = .ok (.iload_n 2, 1) := by decide +kernel
theorem dX6_best_79 : decode cX6_best 79 = .ok (.ireturn, 1) := by decide +kernel
theorem dX6_run_0 : decode cX6_run 0 = .ok (.aload_n 0, 1) := by decide +kernel
theorem dX6_run_1 : decode cX6_run 1 = .ok (.getfield 10, 3) := by decide +kernel
theorem dX6_run_4 : decode cX6_run 4 = .ok (.iload_n 1, 1) := by decide +kernel
theorem dX6_run_5 : decode cX6_run 5 = .ok (.invokevirtual 111, 3) := by decide +kernel
theorem dX6_run_8 : decode cX6_run 8 = .ok (.ifCond .eq 30, 3) := by decide +kernel
theorem dX6_run_11 : decode cX6_run 11 = .ok (.aload_n 0, 1) := by decide +kernel
theorem dX6_run_12 : decode cX6_run 12 = .ok (.getfield 10, 3) := by decide +kernel
theorem dX6_run_15 : decode cX6_run 15 = .ok (.aload_n 0, 1) := by decide +kernel
theorem dX6_run_16 : decode cX6_run 16 = .ok (.getfield 10, 3) := by decide +kernel
theorem dX6_run_19 : decode cX6_run 19 = .ok (.getfield 169, 3) := by decide +kernel
theorem dX6_run_22 : decode cX6_run 22 = .ok (.iload_n 2, 1) := by decide +kernel
theorem dX6_run_23 : decode cX6_run 23 = .ok (.invokevirtual 205, 3) := by decide +kernel
theorem dX6_run_26 : decode cX6_run 26 = .ok (.ifCond .eq 12, 3) := by decide +kernel
theorem dX6_run_29 : decode cX6_run 29 = .ok (.iload_n 3, 1) := by decide +kernel
theorem dX6_run_30 : decode cX6_run 30 = .ok (.ifCond .lt 8, 3) := by decide +kernel
theorem dX6_run_33 : decode cX6_run 33 = .ok (.iload_n 3, 1) := by decide +kernel
theorem dX6_run_34 : decode cX6_run 34 = .ok (.iconst 1, 1) := by decide +kernel
theorem dX6_run_35 : decode cX6_run 35 = .ok (.if_icmp .le 10, 3) := by decide +kernel
theorem dX6_run_38 : decode cX6_run 38 = .ok (.aload_n 0, 1) := by decide +kernel
theorem dX6_run_39 : decode cX6_run 39 = .ok (.bipush (-2), 2) := by decide +kernel
theorem dX6_run_41 : decode cX6_run 41 = .ok (.invokevirtual 67, 3) := by decide +kernel
theorem dX6_run_44 : decode cX6_run 44 = .ok (.ireturn, 1) := by decide +kernel
theorem dX6_run_45 : decode cX6_run 45 = .ok (.aload_n 0, 1) := by decide +kernel
theorem dX6_run_46 : decode cX6_run 46 = .ok (.getfield 10, 3) := by decide +kernel
theorem dX6_run_49 : decode cX6_run 49 = .ok (.iload_n 1, 1) := by decide +kernel
theorem dX6_run_50 : decode cX6_run 50 = .ok (.invokevirtual 226, 3) := by decide +kernel
theorem dX6_run_53 : decode cX6_run 53 = .ok (.ifCond .eq 13, 3) := by decide +kernel
theorem dX6_run_56 : decode cX6_run 56 = .ok (.aload_n 0, 1) := by decide +kernel
theorem dX6_run_57 : decode cX6_run 57 = .ok (.getfield 10, 3) := by decide +kernel
theorem dX6_run_60 : decode cX6_run 60 = .ok (.invokevirtual 229, 3) := by decide +kernel
theorem dX6_run_63 : decode cX6_run 63 = .ok (.ifCond .eq 10, 3) := by decide +kernel
theorem dX6_run_66 : decode cX6_run 66 = .ok (.aload_n 0, 1) := by decide +kernel
theorem dX6_run_67 : decode cX6_run 67 = .ok (.bipush (-5), 2) := by decide +kernel
theorem dX6_run_69 : decode cX6_run 69 = .ok (.invokevirtual 67, 3) := by decide +kernel
theorem dX6_run_72 : decode cX6_run 72 = .ok (.ireturn, 1) := by decide +kernel
theorem dX6_run_73 : decode cX6_run 73 = .ok (.aload_n 0, 1) := by decide +kernel
theorem dX6_run_74 : decode cX6_run 74 = .ok (.getfield 10, 3) := by decide +kernel
theorem dX6_run_77 : decode cX6_run 77 = .ok (.iload_n 1, 1) := by decide +kernel
theorem dX6_run_78 : decode cX6_run 78 = .ok (.iload_n 2, 1) := by decide +kernel
theorem dX6_run_79 : decode cX6_run 79 = .ok (.iload_n 3, 1) := by decide +kernel
theorem dX6_run_80 : decode cX6_run 80 = .ok (.invokevirtual 310, 3) := by decide +kernel
theorem dX6_run_83 : decode cX6_run 83 = .ok (.ifCond .eq 7, 3) := by decide +kernel
theorem dX6_run_86 : decode cX6_run 86 = .ok (.iconst 1, 1) := by decide +kernel
theorem dX6_run_87 : decode cX6_run 87 = .ok (.goto 4, 3) := by decide +kernel
theorem dX6_run_90 : decode cX6_run 90 = .ok (.iconst 0, 1) := by decide +kernel
theorem dX6_run_91 : decode cX6_run 91 = .ok (.ireturn, 1) := by decide +kernel
theorem dX6_runs_0 : decode cX6_runs 0 = .ok (.iload_n 1, 1) := by decide +kernel
theorem dX6_runs_1 : decode cX6_runs 1 = .ok (.iconst 1, 1) := by decide +kernel
theorem dX6_runs_2 : decode cX6_runs 2 = .ok (.if_icmp .lt 9, 3) := by decide +kernel
theorem dX6_runs_5 : decode cX6_runs 5 = .ok (.iload_n 1, 1) := by decide +kernel
theorem dX6_runs_6 : decode cX6_runs 6 = .ok (.bipush 40, 2) := by decide +kernel
theorem dX6_runs_8 : decode cX6_runs 8 = .ok (.if_icmp .le 10, 3) := by decide +kernel
theorem dX6_runs_11 : decode cX6_runs 11 = .ok (.aload_n 0, 1) := by decide +kernel
theorem dX6_runs_12 : decode cX6_runs 12 = .ok (.bipush (-2), 2) := by decide +kernel
theorem dX6_runs_14 : decode cX6_runs 14 = .ok (.invokevirtual 67, 3) := by decide +kernel
theorem dX6_runs_17 : decode cX6_runs 17 = .ok (.ireturn, 1) := by decide +kernel
theorem dX6_runs_18 : decode cX6_runs 18 = .ok (.iconst 0, 1) := by decide +kernel
