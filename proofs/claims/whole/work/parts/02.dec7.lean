theorem dX7_swap_120 : decode cX7_swap 120 = .ok (.invokevirtual 321, 3) := by decide +kernel
theorem dX7_swap_123 : decode cX7_swap 123 = .ok (.iload 4, 2) := by decide +kernel
theorem dX7_swap_125 : decode cX7_swap 125 = .ok (.iconst (-1), 1) := by decide +kernel
theorem dX7_swap_126 : decode cX7_swap 126 = .ok (.if_icmp .eq 10, 3) := by decide +kernel
theorem dX7_swap_129 : decode cX7_swap 129 = .ok (.iload 7, 2) := by decide +kernel
theorem dX7_swap_131 : decode cX7_swap 131 = .ok (.iload 5, 2) := by decide +kernel
theorem dX7_swap_133 : decode cX7_swap 133 = .ok (.if_icmp .le 11, 3) := by decide +kernel
theorem dX7_swap_136 : decode cX7_swap 136 = .ok (.iload 6, 2) := by decide +kernel
theorem dX7_swap_138 : decode cX7_swap 138 = .ok (.istore 4, 2) := by decide +kernel
theorem dX7_swap_140 : decode cX7_swap 140 = .ok (.iload 7, 2) := by decide +kernel
theorem dX7_swap_142 : decode cX7_swap 142 = .ok (.istore 5, 2) := by decide +kernel
theorem dX7_swap_144 : decode cX7_swap 144 = .ok (.iinc 6 1, 3) := by decide +kernel
theorem dX7_swap_147 : decode cX7_swap 147 = .ok (.goto (-69), 3) := by decide +kernel
theorem dX7_swap_150 : decode cX7_swap 150 = .ok (.iload_n 2, 1) := by decide +kernel
theorem dX7_swap_151 : decode cX7_swap 151 = .ok (.ifCond .ne 8, 3) := by decide +kernel
theorem dX7_swap_154 : decode cX7_swap 154 = .ok (.iload 4, 2) := by decide +kernel
theorem dX7_swap_156 : decode cX7_swap 156 = .ok (.goto 7, 3) := by decide +kernel
theorem dX7_swap_159 : decode cX7_swap 159 = .ok (.iload 5, 2) := by decide +kernel
theorem dX7_swap_161 : decode cX7_swap 161 = .ok (.iload_n 3, 1) := by decide +kernel
theorem dX7_swap_162 : decode cX7_swap 162 = .ok (.isub, 1) := by decide +kernel
theorem dX7_swap_163 : decode cX7_swap 163 = .ok (.ireturn, 1) := by decide +kernel
theorem dX7_gameOf_0 : decode cX7_gameOf 0 = .ok (.iload_n 1, 1) := by decide +kernel
theorem dX7_gameOf_1 : decode cX7_gameOf 1 = .ok (.ifCond .eq 10, 3) := by decide +kernel
theorem dX7_gameOf_4 : decode cX7_gameOf 4 = .ok (.aload_n 0, 1) := by decide +kernel
theorem dX7_gameOf_5 : decode cX7_gameOf 5 = .ok (.invokevirtual 208, 3) := by decide +kernel
theorem dX7_gameOf_8 : decode cX7_gameOf 8 = .ok (.ifCond .eq 25, 3) := by decide +kernel
theorem dX7_gameOf_11 : decode cX7_gameOf 11 = .ok (.aload_n 0, 1) := by decide +kernel
theorem dX7_gameOf_12 : decode cX7_gameOf 12 = .ok (.getfield 57, 3) := by decide +kernel
theorem dX7_gameOf_15 : decode cX7_gameOf 15 = .ok (.aload_n 0, 1) := by decide +kernel
theorem dX7_gameOf_16 : decode cX7_gameOf 16 = .ok (.getfield 148, 3) := by decide +kernel
theorem dX7_gameOf_19 : decode cX7_gameOf 19 = .ok (.iaload, 1) := by decide +kernel
theorem dX7_gameOf_20 : decode cX7_gameOf 20 = .ok (.aload_n 0, 1) := by decide +kernel
theorem dX7_gameOf_21 : decode cX7_gameOf 21 = .ok (.getfield 57, 3) := by decide +kernel
theorem dX7_gameOf_24 : decode cX7_gameOf 24 = .ok (.iconst 1, 1) := by decide +kernel
theorem dX7_gameOf_25 : decode cX7_gameOf 25 = .ok (.aload_n 0, 1) := by decide +kernel
theorem dX7_gameOf_26 : decode cX7_gameOf 26 = .ok (.getfield 148, 3) := by decide +kernel
theorem dX7_gameOf_29 : decode cX7_gameOf 29 = .ok (.isub, 1) := by decide +kernel
theorem dX7_gameOf_30 : decode cX7_gameOf 30 = .ok (.iaload, 1) := by decide +kernel
theorem dX7_gameOf_31 : decode cX7_gameOf 31 = .ok (.isub, 1) := by decide +kernel
theorem dX7_gameOf_32 : decode cX7_gameOf 32 = .ok (.ireturn, 1) := by decide +kernel
theorem dX7_gameOf_33 : decode cX7_gameOf 33 = .ok (.aload_n 0, 1) := by decide +kernel
theorem dX7_gameOf_34 : decode cX7_gameOf 34 = .ok (.getfield 324, 3) := by decide +kernel
theorem dX7_gameOf_37 : decode cX7_gameOf 37 = .ok (.ifnonnull 14, 3) := by decide +kernel
theorem dX7_gameOf_40 : decode cX7_gameOf 40 = .ok (.aload_n 0, 1) := by decide +kernel
theorem dX7_gameOf_41 : decode cX7_gameOf 41 = .ok (.new 8, 3) := by decide +kernel
theorem dX7_gameOf_44 : decode cX7_gameOf 44 = .ok (.dup, 1) := by decide +kernel
theorem dX7_gameOf_45 : decode cX7_gameOf 45 = .ok (.invokespecial 303, 3) := by decide +kernel
theorem dX7_gameOf_48 : decode cX7_gameOf 48 = .ok (.putfield 324, 3) := by decide +kernel
theorem dX7_gameOf_51 : decode cX7_gameOf 51 = .ok (.iconst 0, 1) := by decide +kernel
theorem dX7_gameOf_52 : decode cX7_gameOf 52 = .ok (.istore_n 2, 1) := by decide +kernel
theorem dX7_gameOf_53 : decode cX7_gameOf 53 = .ok (.iconst (-1), 1) := by decide +kernel
theorem dX7_gameOf_54 : decode cX7_gameOf 54 = .ok (.istore_n 3, 1) := by decide +kernel
theorem dX7_gameOf_55 : decode cX7_gameOf 55 = .ok (.iconst 0, 1) := by decide +kernel
theorem dX7_gameOf_56 : decode cX7_gameOf 56 = .ok (.istore 4, 2) := by decide +kernel
theorem dX7_gameOf_58 : decode cX7_gameOf 58 = .ok (.iload 4, 2) := by decide +kernel
theorem dX7_gameOf_60 : decode cX7_gameOf 60 = .ok (.aload_n 0, 1) := by decide +kernel
theorem dX7_gameOf_61 : decode cX7_gameOf 61 = .ok (.getfield 82, 3) := by decide +kernel
theorem dX7_gameOf_64 : decode cX7_gameOf 64 = .ok (.if_icmp .ge 48, 3) := by decide +kernel
theorem dX7_gameOf_67 : decode cX7_gameOf 67 = .ok (.aload_n 0, 1) := by decide +kernel
theorem dX7_gameOf_68 : decode cX7_gameOf 68 = .ok (.iload 4, 2) := by decide +kernel
theorem dX7_gameOf_70 : decode cX7_gameOf 70 = .ok (.invokevirtual 119, 3) := by decide +kernel
theorem dX7_gameOf_73 : decode cX7_gameOf 73 = .ok (.aload_n 0, 1) := by decide +kernel
theorem dX7_gameOf_74 : decode cX7_gameOf 74 = .ok (.getfield 148, 3) := by decide +kernel
theorem dX7_gameOf_77 : decode cX7_gameOf 77 = .ok (.if_icmp .eq 29, 3) := by decide +kernel
theorem dX7_gameOf_80 : decode cX7_gameOf 80 = .ok (.aload_n 0, 1) := by decide +kernel
theorem dX7_gameOf_81 : decode cX7_gameOf 81 = .ok (.iload 4, 2) := by decide +kernel
theorem dX7_gameOf_83 : decode cX7_gameOf 83 = .ok (.iload_n 1, 1) := by decide +kernel
theorem dX7_gameOf_84 : decode cX7_gameOf 84 = .ok (.invokevirtual 327, 3) := by decide +kernel
theorem dX7_gameOf_87 : decode cX7_gameOf 87 = .ok (.istore 5, 2) := by decide +kernel
theorem dX7_gameOf_89 : decode cX7_gameOf 89 = .ok (.iload_n 3, 1) := by decide +kernel
theorem dX7_gameOf_90 : decode cX7_gameOf 90 = .ok (.iconst (-1), 1) := by decide +kernel
theorem dX7_gameOf_91 : decode cX7_gameOf 91 = .ok (.if_icmp .eq 9, 3) := by decide +kernel
theorem dX7_gameOf_94 : decode cX7_gameOf 94 = .ok (.iload 5, 2) := by decide +kernel
theorem dX7_gameOf_96 : decode cX7_gameOf 96 = .ok (.iload_n 2, 1) := by decide +kernel
theorem dX7_gameOf_97 : decode cX7_gameOf 97 = .ok (.if_icmp .le 9, 3) := by decide +kernel
theorem dX7_gameOf_100 : decode cX7_gameOf 100 = .ok (.iload 5, 2) := by decide +kernel
theorem dX7_gameOf_102 : decode cX7_gameOf 102 = .ok (.istore_n 2, 1) := by decide +kernel
theorem dX7_gameOf_103 : decode cX7_gameOf 103 = .ok (.iload 4, 2) := by decide +kernel
theorem dX7_gameOf_105 : decode cX7_gameOf 105 = .ok (.istore_n 3, 1) := by decide +kernel
theorem dX7_gameOf_106 : decode cX7_gameOf 106 = .ok (.iinc 4 1, 3) := by decide +kernel
theorem dX7_gameOf_109 : decode cX7_gameOf 109 = .ok (.goto (-51), 3) := by decide +kernel
theorem dX7_gameOf_112 : decode cX7_gameOf 112 = .ok (.aload_n 0, 1) := by decide +kernel
theorem dX7_gameOf_113 : decode cX7_gameOf 113 = .ok (.iload_n 3, 1) := by decide +kernel
theorem dX7_gameOf_114 : decode cX7_gameOf 114 = .ok (.putfield 330, 3) := by decide +kernel
theorem dX7_gameOf_117 : decode cX7_gameOf 117 = .ok (.iload_n 2, 1) := by decide +kernel
theorem dX7_gameOf_118 : decode cX7_gameOf 118 = .ok (.ireturn, 1) := by decide +kernel
theorem dX7_leastBy_0 : decode cX7_leastBy 0 = .ok (.iconst 0, 1) := by decide +kernel
theorem dX7_leastBy_1 : decode cX7_leastBy 1 = .ok (.istore_n 3, 1) := by decide +kernel
theorem dX7_leastBy_2 : decode cX7_leastBy 2 = .ok (.iconst 0, 1) := by decide +kernel
theorem dX7_leastBy_3 : decode cX7_leastBy 3 = .ok (.istore 4, 2) := by decide +kernel
theorem dX7_leastBy_5 : decode cX7_leastBy 5 = .ok (.iconst 0, 1) := by decide +kernel
theorem dX7_leastBy_6 : decode cX7_leastBy 6 = .ok (.istore 5, 2) := by decide +kernel
theorem dX7_leastBy_8 : decode cX7_leastBy 8 = .ok (.iload 5, 2) := by decide +kernel
theorem dX7_leastBy_10 : decode cX7_leastBy 10 = .ok (.aload_n 0, 1) := by decide +kernel
theorem dX7_leastBy_11 : decode cX7_leastBy 11 = .ok (.getfield 57, 3) := by decide +kernel
theorem dX7_leastBy_14 : decode cX7_leastBy 14 = .ok (.aload_n 0, 1) := by decide +kernel
theorem dX7_leastBy_15 : decode cX7_leastBy 15 = .ok (.getfield 148, 3) := by decide +kernel
theorem dX7_leastBy_18 : decode cX7_leastBy 18 = .ok (.iaload, 1) := by decide +kernel
theorem dX7_leastBy_19 : decode cX7_leastBy 19 = .ok (.iconst 1, 1) := by decide +kernel
theorem dX7_leastBy_20 : decode cX7_leastBy 20 = .ok (.isub, 1) := by decide +kernel
theorem dX7_leastBy_21 : decode cX7_leastBy 21 = .ok (.if_icmp .ge 144, 3) := by decide +kernel
theorem dX7_leastBy_24 : decode cX7_leastBy 24 = .ok (.aload_n 0, 1) := by decide +kernel
theorem dX7_leastBy_25 : decode cX7_leastBy 25 = .ok (.iload_n 1, 1) := by decide +kernel
theorem dX7_leastBy_26 : decode cX7_leastBy 26 = .ok (.invokevirtual 126, 3) := by decide +kernel
theorem dX7_leastBy_29 : decode cX7_leastBy 29 = .ok (.aload_n 0, 1) := by decide +kernel
theorem dX7_leastBy_30 : decode cX7_leastBy 30 = .ok (.aload_n 0, 1) := by decide +kernel
theorem dX7_leastBy_31 : decode cX7_leastBy 31 = .ok (.getfield 54, 3) := by decide +kernel
theorem dX7_leastBy_34 : decode cX7_leastBy 34 = .ok (.aload_n 0, 1) := by decide +kernel
theorem dX7_leastBy_35 : decode cX7_leastBy 35 = .ok (.getfield 148, 3) := by decide +kernel
theorem dX7_leastBy_38 : decode cX7_leastBy 38 = .ok (.aaload, 1) := by decide +kernel
theorem dX7_leastBy_39 : decode cX7_leastBy 39 = .ok (.aload_n 0, 1) := by decide +kernel
theorem dX7_leastBy_40 : decode cX7_leastBy 40 = .ok (.getfield 57, 3) := by decide +kernel
theorem dX7_leastBy_43 : decode cX7_leastBy 43 = .ok (.aload_n 0, 1) := by decide +kernel
theorem dX7_leastBy_44 : decode cX7_leastBy 44 = .ok (.getfield 148, 3) := by decide +kernel
theorem dX7_leastBy_47 : decode cX7_leastBy 47 = .ok (.iaload, 1) := by decide +kernel
theorem dX7_leastBy_48 : decode cX7_leastBy 48 = .ok (.iload 5, 2) := by decide +kernel
theorem dX7_leastBy_50 : decode cX7_leastBy 50 = .ok (.invokevirtual 266, 3) := by decide +kernel
theorem dX7_leastBy_53 : decode cX7_leastBy 53 = .ok (.if_icmp .le 7, 3) := by decide +kernel
theorem dX7_leastBy_56 : decode cX7_leastBy 56 = .ok (.iconst 1, 1) := by decide +kernel
theorem dX7_leastBy_57 : decode cX7_leastBy 57 = .ok (.goto 4, 3) := by decide +kernel
theorem dX7_leastBy_60 : decode cX7_leastBy 60 = .ok (.iconst 0, 1) := by decide +kernel
theorem dX7_leastBy_61 : decode cX7_leastBy 61 = .ok (.istore 6, 2) := by decide +kernel
theorem dX7_leastBy_63 : decode cX7_leastBy 63 = .ok (.iconst 0, 1) := by decide +kernel
theorem dX7_leastBy_64 : decode cX7_leastBy 64 = .ok (.istore 7, 2) := by decide +kernel
theorem dX7_leastBy_66 : decode cX7_leastBy 66 = .ok (.iload 7, 2) := by decide +kernel
theorem dX7_leastBy_68 : decode cX7_leastBy 68 = .ok (.iload 6, 2) := by decide +kernel
theorem dX7_leastBy_70 : decode cX7_leastBy 70 = .ok (.ifCond .eq 7, 3) := by decide +kernel
theorem dX7_leastBy_73 : decode cX7_leastBy 73 = .ok (.iconst 2, 1) := by decide +kernel
theorem dX7_leastBy_74 : decode cX7_leastBy 74 = .ok (.goto 4, 3) := by decide +kernel
theorem dX7_leastBy_77 : decode cX7_leastBy 77 = .ok (.iconst 1, 1) := by decide +kernel
theorem dX7_leastBy_78 : decode cX7_leastBy 78 = .ok (.if_icmp .ge 81, 3) := by decide +kernel
theorem dX7_leastBy_81 : decode cX7_leastBy 81 = .ok (.aload_n 0, 1) := by decide +kernel
theorem dX7_leastBy_82 : decode cX7_leastBy 82 = .ok (.getfield 324, 3) := by decide +kernel
theorem dX7_leastBy_85 : decode cX7_leastBy 85 = .ok (.aload_n 0, 1) := by decide +kernel
theorem dX7_leastBy_86 : decode cX7_leastBy 86 = .ok (.invokevirtual 257, 3) := by decide +kernel
theorem dX7_leastBy_89 : decode cX7_leastBy 89 = .ok (.iload 6, 2) := by decide +kernel
theorem dX7_leastBy_91 : decode cX7_leastBy 91 = .ok (.ifCond .eq 18, 3) := by decide +kernel
theorem dX7_leastBy_94 : decode cX7_leastBy 94 = .ok (.aload_n 0, 1) := by decide +kernel
theorem dX7_leastBy_95 : decode cX7_leastBy 95 = .ok (.getfield 324, 3) := by decide +kernel
theorem dX7_leastBy_98 : decode cX7_leastBy 98 = .ok (.iload_n 1, 1) := by decide +kernel
theorem dX7_leastBy_99 : decode cX7_leastBy 99 = .ok (.iload 5, 2) := by decide +kernel
theorem dX7_leastBy_101 : decode cX7_leastBy 101 = .ok (.iload 7, 2) := by decide +kernel
theorem dX7_leastBy_103 : decode cX7_leastBy 103 = .ok (.invokevirtual 214, 3) := by decide +kernel
theorem dX7_leastBy_106 : decode cX7_leastBy 106 = .ok (.goto 13, 3) := by decide +kernel
theorem dX7_leastBy_109 : decode cX7_leastBy 109 = .ok (.aload_n 0, 1) := by decide +kernel
theorem dX7_leastBy_110 : decode cX7_leastBy 110 = .ok (.getfield 324, 3) := by decide +kernel
theorem dX7_leastBy_113 : decode cX7_leastBy 113 = .ok (.iload_n 1, 1) := by decide +kernel
theorem dX7_leastBy_114 : decode cX7_leastBy 114 = .ok (.iload 5, 2) := by decide +kernel
theorem dX7_leastBy_116 : decode cX7_leastBy 116 = .ok (.invokevirtual 219, 3) := by decide +kernel
theorem dX7_leastBy_119 : decode cX7_leastBy 119 = .ok (.aload_n 0, 1) := by decide +kernel
theorem dX7_leastBy_120 : decode cX7_leastBy 120 = .ok (.getfield 324, 3) := by decide +kernel
theorem dX7_leastBy_123 : decode cX7_leastBy 123 = .ok (.iload_n 2, 1) := by decide +kernel
theorem dX7_leastBy_124 : decode cX7_leastBy 124 = .ok (.iconst 1, 1) := by decide +kernel
theorem dX7_leastBy_125 : decode cX7_leastBy 125 = .ok (.isub, 1) := by decide +kernel
theorem dX7_leastBy_126 : decode cX7_leastBy 126 = .ok (.invokevirtual 333, 3) := by decide +kernel
theorem dX7_leastBy_129 : decode cX7_leastBy 129 = .ok (.ineg, 1) := by decide +kernel
theorem dX7_leastBy_130 : decode cX7_leastBy 130 = .ok (.istore 8, 2) := by decide +kernel
theorem dX7_leastBy_132 : decode cX7_leastBy 132 = .ok (.iload 4, 2) := by decide +kernel
theorem dX7_leastBy_134 : decode cX7_leastBy 134 = .ok (.ifCond .eq 9, 3) := by decide +kernel
theorem dX7_leastBy_137 : decode cX7_leastBy 137 = .ok (.iload 8, 2) := by decide +kernel
theorem dX7_leastBy_139 : decode cX7_leastBy 139 = .ok (.iload_n 3, 1) := by decide +kernel
theorem dX7_leastBy_140 : decode cX7_leastBy 140 = .ok (.if_icmp .ge 8, 3) := by decide +kernel
theorem dX7_leastBy_143 : decode cX7_leastBy 143 = .ok (.iload 8, 2) := by decide +kernel
theorem dX7_leastBy_145 : decode cX7_leastBy 145 = .ok (.goto 4, 3) := by decide +kernel
theorem dX7_leastBy_148 : decode cX7_leastBy 148 = .ok (.iload_n 3, 1) := by decide +kernel
theorem dX7_leastBy_149 : decode cX7_leastBy 149 = .ok (.istore_n 3, 1) := by decide +kernel
theorem dX7_leastBy_150 : decode cX7_leastBy 150 = .ok (.iconst 1, 1) := by decide +kernel
theorem dX7_leastBy_151 : decode cX7_leastBy 151 = .ok (.istore 4, 2) := by decide +kernel
theorem dX7_leastBy_153 : decode cX7_leastBy 153 = .ok (.iinc 7 1, 3) := by decide +kernel
theorem dX7_leastBy_156 : decode cX7_leastBy 156 = .ok (.goto (-90), 3) := by decide +kernel
theorem dX7_leastBy_159 : decode cX7_leastBy 159 = .ok (.iinc 5 1, 3) := by decide +kernel
theorem dX7_leastBy_162 : decode cX7_leastBy 162 = .ok (.goto (-154), 3) := by decide +kernel
theorem dX7_leastBy_165 : decode cX7_leastBy 165 = .ok (.iload_n 3, 1) := by decide +kernel
theorem dX7_leastBy_166 : decode cX7_leastBy 166 = .ok (.ireturn, 1) := by decide +kernel
theorem dX7_game_0 : decode cX7_game 0 = .ok (.iload_n 1, 1) := by decide +kernel
theorem dX7_game_1 : decode cX7_game 1 = .ok (.i2l, 1) := by decide +kernel
theorem dX7_game_2 : decode cX7_game 2 = .ok (.lconst 0, 1) := by decide +kernel
theorem dX7_game_3 : decode cX7_game 3 = .ok (.ldc2_w 137, 3) := by decide +kernel
theorem dX7_game_6 : decode cX7_game 6 = .ok (.invokestatic 85, 3) := by decide +kernel
theorem dX7_game_9 : decode cX7_game 9 = .ok (.ifCond .ne 14, 3) := by decide +kernel
theorem dX7_game_12 : decode cX7_game 12 = .ok (.sipush (-1000), 3) := by decide +kernel
theorem dX7_game_15 : decode cX7_game 15 = .ok (.aload_n 0, 1) := by decide +kernel
theorem dX7_game_16 : decode cX7_game 16 = .ok (.bipush (-2), 2) := by decide +kernel
theorem dX7_game_18 : decode cX7_game 18 = .ok (.invokevirtual 99, 3) := by decide +kernel
theorem dX7_game_21 : decode cX7_game 21 = .ok (.iadd, 1) := by decide +kernel
theorem dX7_game_22 : decode cX7_game 22 = .ok (.ireturn, 1) := by decide +kernel
theorem dX7_game_23 : decode cX7_game 23 = .ok (.aload_n 0, 1) := by decide +kernel
theorem dX7_game_24 : decode cX7_game 24 = .ok (.invokevirtual 208, 3) := by decide +kernel
theorem dX7_game_27 : decode cX7_game 27 = .ok (.ifCond .eq 16, 3) := by decide +kernel
theorem dX7_game_30 : decode cX7_game 30 = .ok (.sipush (-1000), 3) := by decide +kernel
theorem dX7_game_33 : decode cX7_game 33 = .ok (.aload_n 0, 1) := by decide +kernel
theorem dX7_game_34 : decode cX7_game 34 = .ok (.bipush (-5), 2) := by decide +kernel
theorem dX7_game_36 : decode cX7_game 36 = .ok (.invokevirtual 99, 3) := by decide +kernel
theorem dX7_game_39 : decode cX7_game 39 = .ok (.iadd, 1) := by decide +kernel
theorem dX7_game_40 : decode cX7_game 40 = .ok (.goto 8, 3) := by decide +kernel
theorem dX7_game_43 : decode cX7_game 43 = .ok (.aload_n 0, 1) := by decide +kernel
theorem dX7_game_44 : decode cX7_game 44 = .ok (.iload_n 1, 1) := by decide +kernel
theorem dX7_game_45 : decode cX7_game 45 = .ok (.invokevirtual 333, 3) := by decide +kernel
theorem dX7_game_48 : decode cX7_game 48 = .ok (.ireturn, 1) := by decide +kernel
theorem dX7_first_0 : decode cX7_first 0 = .ok (.iload_n 1, 1) := by decide +kernel
theorem dX7_first_1 : decode cX7_first 1 = .ok (.i2l, 1) := by decide +kernel
theorem dX7_first_2 : decode cX7_first 2 = .ok (.lconst 1, 1) := by decide +kernel
theorem dX7_first_3 : decode cX7_first 3 = .ok (.ldc2_w 137, 3) := by decide +kernel
theorem dX7_first_6 : decode cX7_first 6 = .ok (.invokestatic 85, 3) := by decide +kernel
theorem dX7_first_9 : decode cX7_first 9 = .ok (.ifCond .ne 10, 3) := by decide +kernel
theorem dX7_first_12 : decode cX7_first 12 = .ok (.aload_n 0, 1) := by decide +kernel
theorem dX7_first_13 : decode cX7_first 13 = .ok (.bipush (-2), 2) := by decide +kernel
theorem dX7_first_15 : decode cX7_first 15 = .ok (.invokevirtual 99, 3) := by decide +kernel
theorem dX7_first_18 : decode cX7_first 18 = .ok (.ireturn, 1) := by decide +kernel
theorem dX7_first_19 : decode cX7_first 19 = .ok (.aload_n 0, 1) := by decide +kernel
theorem dX7_first_20 : decode cX7_first 20 = .ok (.invokevirtual 208, 3) := by decide +kernel
theorem dX7_first_23 : decode cX7_first 23 = .ok (.ifCond .eq 10, 3) := by decide +kernel
theorem dX7_first_26 : decode cX7_first 26 = .ok (.aload_n 0, 1) := by decide +kernel
theorem dX7_first_27 : decode cX7_first 27 = .ok (.bipush (-5), 2) := by decide +kernel
theorem dX7_first_29 : decode cX7_first 29 = .ok (.invokevirtual 99, 3) := by decide +kernel
theorem dX7_first_32 : decode cX7_first 32 = .ok (.ireturn, 1) := by decide +kernel
theorem dX7_first_33 : decode cX7_first 33 = .ok (.aload_n 0, 1) := by decide +kernel
theorem dX7_first_34 : decode cX7_first 34 = .ok (.iload_n 1, 1) := by decide +kernel
theorem dX7_first_35 : decode cX7_first 35 = .ok (.invokevirtual 333, 3) := by decide +kernel
theorem dX7_first_38 : decode cX7_first 38 = .ok (.pop, 1) := by decide +kernel
theorem dX7_first_39 : decode cX7_first 39 = .ok (.aload_n 0, 1) := by decide +kernel
theorem dX7_first_40 : decode cX7_first 40 = .ok (.getfield 330, 3) := by decide +kernel
theorem dX7_first_43 : decode cX7_first 43 = .ok (.ireturn, 1) := by decide +kernel
theorem dX7_could_0 : decode cX7_could 0 = .ok (.aload_n 0, 1) := by decide +kernel
theorem dX7_could_1 : decode cX7_could 1 = .ok (.aload_n 0, 1) := by decide +kernel
theorem dX7_could_2 : decode cX7_could 2 = .ok (.getfield 148, 3) := by decide +kernel
theorem dX7_could_5 : decode cX7_could 5 = .ok (.iload_n 1, 1) := by decide +kernel
theorem dX7_could_6 : decode cX7_could 6 = .ok (.invokevirtual 263, 3) := by decide +kernel
theorem dX7_could_9 : decode cX7_could 9 = .ok (.ifCond .eq 13, 3) := by decide +kernel
theorem dX7_could_12 : decode cX7_could 12 = .ok (.iload_n 2, 1) := by decide +kernel
theorem dX7_could_13 : decode cX7_could 13 = .ok (.i2l, 1) := by decide +kernel
theorem dX7_could_14 : decode cX7_could 14 = .ok (.lconst 0, 1) := by decide +kernel
theorem dX7_could_15 : decode cX7_could 15 = .ok (.lconst 1, 1) := by decide +kernel
theorem dX7_could_16 : decode cX7_could 16 = .ok (.invokestatic 85, 3) := by decide +kernel
theorem dX7_could_19 : decode cX7_could 19 = .ok (.ifCond .ne 10, 3) := by decide +kernel
theorem dX7_could_22 : decode cX7_could 22 = .ok (.aload_n 0, 1) := by decide +kernel
theorem dX7_could_23 : decode cX7_could 23 = .ok (.bipush (-2), 2) := by decide +kernel
theorem dX7_could_25 : decode cX7_could 25 = .ok (.invokevirtual 99, 3) := by decide +kernel
theorem dX7_could_28 : decode cX7_could 28 = .ok (.ireturn, 1) := by decide +kernel
theorem dX7_could_29 : decode cX7_could 29 = .ok (.iconst 0, 1) := by decide +kernel
theorem dX7_could_30 : decode cX7_could 30 = .ok (.istore_n 3, 1) := by decide +kernel
theorem dX7_could_31 : decode cX7_could 31 = .ok (.iconst 0, 1) := by decide +kernel
theorem dX7_could_32 : decode cX7_could 32 = .ok (.istore 4, 2) := by decide +kernel
theorem dX7_could_34 : decode cX7_could 34 = .ok (.iload 4, 2) := by decide +kernel
theorem dX7_could_36 : decode cX7_could 36 = .ok (.aload_n 0, 1) := by decide +kernel
theorem dX7_could_37 : decode cX7_could 37 = .ok (.getfield 82, 3) := by decide +kernel
theorem dX7_could_40 : decode cX7_could 40 = .ok (.if_icmp .ge 62, 3) := by decide +kernel
theorem dX7_could_43 : decode cX7_could 43 = .ok (.aload_n 0, 1) := by decide +kernel
theorem dX7_could_44 : decode cX7_could 44 = .ok (.iload 4, 2) := by decide +kernel
theorem dX7_could_46 : decode cX7_could 46 = .ok (.invokevirtual 119, 3) := by decide +kernel
theorem dX7_could_49 : decode cX7_could 49 = .ok (.aload_n 0, 1) := by decide +kernel
theorem dX7_could_50 : decode cX7_could 50 = .ok (.getfield 148, 3) := by decide +kernel
theorem dX7_could_53 : decode cX7_could 53 = .ok (.if_icmp .ne 7, 3) := by decide +kernel
theorem dX7_could_56 : decode cX7_could 56 = .ok (.iconst 0, 1) := by decide +kernel
theorem dX7_could_57 : decode cX7_could 57 = .ok (.goto 10, 3) := by decide +kernel
theorem dX7_could_60 : decode cX7_could 60 = .ok (.aload_n 0, 1) := by decide +kernel
theorem dX7_could_61 : decode cX7_could 61 = .ok (.iload 4, 2) := by decide +kernel
theorem dX7_could_63 : decode cX7_could 63 = .ok (.iload_n 1, 1) := by decide +kernel
theorem dX7_could_64 : decode cX7_could 64 = .ok (.invokevirtual 211, 3) := by decide +kernel
theorem dX7_could_67 : decode cX7_could 67 = .ok (.istore 5, 2) := by decide +kernel
theorem dX7_could_69 : decode cX7_could 69 = .ok (.iload_n 3, 1) := by decide +kernel
theorem dX7_could_70 : decode cX7_could 70 = .ok (.iload 5, 2) := by decide +kernel
theorem dX7_could_72 : decode cX7_could 72 = .ok (.ldc 218, 2) := by decide +kernel
theorem dX7_could_74 : decode cX7_could 74 = .ok (.if_icmp .eq 12, 3) := by decide +kernel
theorem dX7_could_77 : decode cX7_could 77 = .ok (.iload_n 2, 1) := by decide +kernel
theorem dX7_could_78 : decode cX7_could 78 = .ok (.ifCond .ne 15, 3) := by decide +kernel
theorem dX7_could_81 : decode cX7_could 81 = .ok (.iload 5, 2) := by decide +kernel
theorem dX7_could_83 : decode cX7_could 83 = .ok (.ifCond .le 10, 3) := by decide +kernel
theorem dX7_could_86 : decode cX7_could 86 = .ok (.iconst 1, 1) := by decide +kernel
theorem dX7_could_87 : decode cX7_could 87 = .ok (.iload 4, 2) := by decide +kernel
theorem dX7_could_89 : decode cX7_could 89 = .ok (.ishl, 1) := by decide +kernel
theorem dX7_could_90 : decode cX7_could 90 = .ok (.goto 4, 3) := by decide +kernel
theorem dX7_could_93 : decode cX7_could 93 = .ok (.iconst 0, 1) := by decide +kernel
theorem dX7_could_94 : decode cX7_could 94 = .ok (.ior, 1) := by decide +kernel
theorem dX7_could_95 : decode cX7_could 95 = .ok (.istore_n 3, 1) := by decide +kernel
theorem dX7_could_96 : decode cX7_could 96 = .ok (.iinc 4 1, 3) := by decide +kernel
theorem dX7_could_99 : decode cX7_could 99 = .ok (.goto (-65), 3) := by decide +kernel
theorem dX7_could_102 : decode cX7_could 102 = .ok (.iload_n 3, 1) := by decide +kernel
theorem dX7_could_103 : decode cX7_could 103 = .ok (.ireturn, 1) := by decide +kernel
theorem dX7_noBook_0 : decode cX7_noBook 0 = .ok (.iload_n 1, 1) := by decide +kernel
theorem dX7_noBook_1 : decode cX7_noBook 1 = .ok (.i2l, 1) := by decide +kernel
theorem dX7_noBook_2 : decode cX7_noBook 2 = .ok (.lconst 0, 1) := by decide +kernel
theorem dX7_noBook_3 : decode cX7_noBook 3 = .ok (.ldc2_w 93, 3) := by decide +kernel
theorem dX7_noBook_6 : decode cX7_noBook 6 = .ok (.invokestatic 85, 3) := by decide +kernel
theorem dX7_noBook_9 : decode cX7_noBook 9 = .ok (.ifCond .eq 15, 3) := by decide +kernel
theorem dX7_noBook_12 : decode cX7_noBook 12 = .ok (.iload_n 2, 1) := by decide +kernel
theorem dX7_noBook_13 : decode cX7_noBook 13 = .ok (.i2l, 1) := by decide +kernel
theorem dX7_noBook_14 : decode cX7_noBook 14 = .ok (.lconst 0, 1) := by decide +kernel
theorem dX7_noBook_15 : decode cX7_noBook 15 = .ok (.ldc2_w 97, 3) := by decide +kernel
theorem dX7_noBook_18 : decode cX7_noBook 18 = .ok (.invokestatic 85, 3) := by decide +kernel
theorem dX7_noBook_21 : decode cX7_noBook 21 = .ok (.ifCond .ne 10, 3) := by decide +kernel
theorem dX7_noBook_24 : decode cX7_noBook 24 = .ok (.aload_n 0, 1) := by decide +kernel
theorem dX7_noBook_25 : decode cX7_noBook 25 = .ok (.bipush (-2), 2) := by decide +kernel
theorem dX7_noBook_27 : decode cX7_noBook 27 = .ok (.invokevirtual 99, 3) := by decide +kernel
theorem dX7_noBook_30 : decode cX7_noBook 30 = .ok (.ireturn, 1) := by decide +kernel
theorem dX7_noBook_31 : decode cX7_noBook 31 = .ok (.aload_n 0, 1) := by decide +kernel
theorem dX7_noBook_32 : decode cX7_noBook 32 = .ok (.iload_n 1, 1) := by decide +kernel
theorem dX7_noBook_33 : decode cX7_noBook 33 = .ok (.invokevirtual 102, 3) := by decide +kernel
theorem dX7_noBook_36 : decode cX7_noBook 36 = .ok (.istore_n 3, 1) := by decide +kernel
theorem dX7_noBook_37 : decode cX7_noBook 37 = .ok (.iload_n 3, 1) := by decide +kernel
theorem dX7_noBook_38 : decode cX7_noBook 38 = .ok (.ifCond .eq 5, 3) := by decide +kernel
theorem dX7_noBook_41 : decode cX7_noBook 41 = .ok (.iload_n 3, 1) := by decide +kernel
theorem dX7_noBook_42 : decode cX7_noBook 42 = .ok (.ireturn, 1) := by decide +kernel
theorem dX7_noBook_43 : decode cX7_noBook 43 = .ok (.aload_n 0, 1) := by decide +kernel
theorem dX7_noBook_44 : decode cX7_noBook 44 = .ok (.getfield 16, 3) := by decide +kernel
theorem dX7_noBook_47 : decode cX7_noBook 47 = .ok (.iload_n 1, 1) := by decide +kernel
theorem dX7_noBook_48 : decode cX7_noBook 48 = .ok (.iaload, 1) := by decide +kernel
theorem dX7_noBook_49 : decode cX7_noBook 49 = .ok (.iload_n 2, 1) := by decide +kernel
theorem dX7_noBook_50 : decode cX7_noBook 50 = .ok (.if_icmp .ge 12, 3) := by decide +kernel
theorem dX7_noBook_53 : decode cX7_noBook 53 = .ok (.aload_n 0, 1) := by decide +kernel
theorem dX7_noBook_54 : decode cX7_noBook 54 = .ok (.bipush (-2), 2) := by decide +kernel
theorem dX7_noBook_56 : decode cX7_noBook 56 = .ok (.invokevirtual 99, 3) := by decide +kernel
theorem dX7_noBook_59 : decode cX7_noBook 59 = .ok (.goto 4, 3) := by decide +kernel
theorem dX7_noBook_62 : decode cX7_noBook 62 = .ok (.iconst 0, 1) := by decide +kernel
theorem dX7_noBook_63 : decode cX7_noBook 63 = .ok (.ireturn, 1) := by decide +kernel
theorem dX7_goesTold_0 : decode cX7_goesTold 0 = .ok (.lload_n 1, 1) := by decide +kernel
theorem dX7_goesTold_1 : decode cX7_goesTold 1 = .ok (.ldc2_w 336, 3) := by decide +kernel
theorem dX7_goesTold_4 : decode cX7_goesTold 4 = .ok (.ldiv, 1) := by decide +kernel
theorem dX7_goesTold_5 : decode cX7_goesTold 5 = .ok (.l2i, 1) := by decide +kernel
theorem dX7_goesTold_6 : decode cX7_goesTold 6 = .ok (.istore_n 3, 1) := by decide +kernel
theorem dX7_goesTold_7 : decode cX7_goesTold 7 = .ok (.lload_n 1, 1) := by decide +kernel
theorem dX7_goesTold_8 : decode cX7_goesTold 8 = .ok (.ldc2_w 338, 3) := by decide +kernel
theorem dX7_goesTold_11 : decode cX7_goesTold 11 = .ok (.ldiv, 1) := by decide +kernel
theorem dX7_goesTold_12 : decode cX7_goesTold 12 = .ok (.ldc2_w 141, 3) := by decide +kernel
theorem dX7_goesTold_15 : decode cX7_goesTold 15 = .ok (.lrem, 1) := by decide +kernel
theorem dX7_goesTold_16 : decode cX7_goesTold 16 = .ok (.l2i, 1) := by decide +kernel
theorem dX7_goesTold_17 : decode cX7_goesTold 17 = .ok (.istore 4, 2) := by decide +kernel
theorem dX7_goesTold_19 : decode cX7_goesTold 19 = .ok (.lload_n 1, 1) := by decide +kernel
theorem dX7_goesTold_20 : decode cX7_goesTold 20 = .ok (.ldc2_w 338, 3) := by decide +kernel
theorem dX7_goesTold_23 : decode cX7_goesTold 23 = .ok (.lrem, 1) := by decide +kernel
theorem dX7_goesTold_24 : decode cX7_goesTold 24 = .ok (.l2i, 1) := by decide +kernel
theorem dX7_goesTold_25 : decode cX7_goesTold 25 = .ok (.istore 5, 2) := by decide +kernel
theorem dX7_goesTold_27 : decode cX7_goesTold 27 = .ok (.lload_n 1, 1) := by decide +kernel
theorem dX7_goesTold_28 : decode cX7_goesTold 28 = .ok (.lconst 0, 1) := by decide +kernel
theorem dX7_goesTold_29 : decode cX7_goesTold 29 = .ok (.ldc2_w 340, 3) := by decide +kernel
theorem dX7_goesTold_32 : decode cX7_goesTold 32 = .ok (.invokestatic 85, 3) := by decide +kernel
theorem dX7_goesTold_35 : decode cX7_goesTold 35 = .ok (.ifCond .eq 49, 3) := by decide +kernel
theorem dX7_goesTold_38 : decode cX7_goesTold 38 = .ok (.aload_n 0, 1) := by decide +kernel
theorem dX7_goesTold_39 : decode cX7_goesTold 39 = .ok (.iload_n 3, 1) := by decide +kernel
theorem dX7_goesTold_40 : decode cX7_goesTold 40 = .ok (.invokevirtual 109, 3) := by decide +kernel
theorem dX7_goesTold_43 : decode cX7_goesTold 43 = .ok (.ifCond .eq 41, 3) := by decide +kernel
theorem dX7_goesTold_46 : decode cX7_goesTold 46 = .ok (.aload_n 0, 1) := by decide +kernel
theorem dX7_goesTold_47 : decode cX7_goesTold 47 = .ok (.invokevirtual 208, 3) := by decide +kernel
theorem dX7_goesTold_50 : decode cX7_goesTold 50 = .ok (.ifCond .ne 34, 3) := by decide +kernel
theorem dX7_goesTold_53 : decode cX7_goesTold 53 = .ok (.aload_n 0, 1) := by decide +kernel
theorem dX7_goesTold_54 : decode cX7_goesTold 54 = .ok (.iload_n 3, 1) := by decide +kernel
theorem dX7_goesTold_55 : decode cX7_goesTold 55 = .ok (.invokevirtual 119, 3) := by decide +kernel
theorem dX7_goesTold_58 : decode cX7_goesTold 58 = .ok (.aload_n 0, 1) := by decide +kernel
theorem dX7_goesTold_59 : decode cX7_goesTold 59 = .ok (.getfield 148, 3) := by decide +kernel
theorem dX7_goesTold_62 : decode cX7_goesTold 62 = .ok (.if_icmp .eq 22, 3) := by decide +kernel
theorem dX7_goesTold_65 : decode cX7_goesTold 65 = .ok (.aload_n 0, 1) := by decide +kernel
theorem dX7_goesTold_66 : decode cX7_goesTold 66 = .ok (.aload_n 0, 1) := by decide +kernel
theorem dX7_goesTold_67 : decode cX7_goesTold 67 = .ok (.getfield 148, 3) := by decide +kernel
theorem dX7_goesTold_70 : decode cX7_goesTold 70 = .ok (.iload 4, 2) := by decide +kernel
theorem dX7_goesTold_72 : decode cX7_goesTold 72 = .ok (.invokevirtual 263, 3) := by decide +kernel
theorem dX7_goesTold_75 : decode cX7_goesTold 75 = .ok (.ifCond .eq 9, 3) := by decide +kernel
theorem dX7_goesTold_78 : decode cX7_goesTold 78 = .ok (.iload 5, 2) := by decide +kernel
theorem dX7_goesTold_80 : decode cX7_goesTold 80 = .ok (.iconst 2, 1) := by decide +kernel
theorem dX7_goesTold_81 : decode cX7_goesTold 81 = .ok (.if_icmp .le 5, 3) := by decide +kernel
theorem dX7_goesTold_84 : decode cX7_goesTold 84 = .ok (.iconst 0, 1) := by decide +kernel
theorem dX7_goesTold_85 : decode cX7_goesTold 85 = .ok (.ireturn, 1) := by decide +kernel
theorem dX7_goesTold_86 : decode cX7_goesTold 86 = .ok (.aload_n 0, 1) := by decide +kernel
theorem dX7_goesTold_87 : decode cX7_goesTold 87 = .ok (.iload_n 3, 1) := by decide +kernel
theorem dX7_goesTold_88 : decode cX7_goesTold 88 = .ok (.iload 4, 2) := by decide +kernel
theorem dX7_goesTold_90 : decode cX7_goesTold 90 = .ok (.invokevirtual 211, 3) := by decide +kernel
theorem dX7_goesTold_93 : decode cX7_goesTold 93 = .ok (.istore 6, 2) := by decide +kernel
theorem dX7_goesTold_95 : decode cX7_goesTold 95 = .ok (.iload 5, 2) := by decide +kernel
theorem dX7_goesTold_97 : decode cX7_goesTold 97 = .ok (.ifCond .ne 13, 3) := by decide +kernel
theorem dX7_goesTold_100 : decode cX7_goesTold 100 = .ok (.iload 6, 2) := by decide +kernel
theorem dX7_goesTold_102 : decode cX7_goesTold 102 = .ok (.ldc 218, 2) := by decide +kernel
theorem dX7_goesTold_104 : decode cX7_goesTold 104 = .ok (.if_icmp .ne 13, 3) := by decide +kernel
theorem dX7_goesTold_107 : decode cX7_goesTold 107 = .ok (.goto 8, 3) := by decide +kernel
theorem dX7_goesTold_110 : decode cX7_goesTold 110 = .ok (.iload 6, 2) := by decide +kernel
theorem dX7_goesTold_112 : decode cX7_goesTold 112 = .ok (.ifCond .ne 5, 3) := by decide +kernel
theorem dX7_goesTold_115 : decode cX7_goesTold 115 = .ok (.iconst 0, 1) := by decide +kernel
theorem dX7_goesTold_116 : decode cX7_goesTold 116 = .ok (.ireturn, 1) := by decide +kernel
theorem dX7_goesTold_117 : decode cX7_goesTold 117 = .ok (.iload 5, 2) := by decide +kernel
theorem dX7_goesTold_119 : decode cX7_goesTold 119 = .ok (.ifCond .ne 13, 3) := by decide +kernel
theorem dX7_goesTold_122 : decode cX7_goesTold 122 = .ok (.aload_n 0, 1) := by decide +kernel
theorem dX7_goesTold_123 : decode cX7_goesTold 123 = .ok (.iload_n 3, 1) := by decide +kernel
theorem dX7_goesTold_124 : decode cX7_goesTold 124 = .ok (.iload 4, 2) := by decide +kernel
theorem dX7_goesTold_126 : decode cX7_goesTold 126 = .ok (.invokevirtual 219, 3) := by decide +kernel
theorem dX7_goesTold_129 : decode cX7_goesTold 129 = .ok (.goto 14, 3) := by decide +kernel
theorem dX7_goesTold_132 : decode cX7_goesTold 132 = .ok (.aload_n 0, 1) := by decide +kernel
theorem dX7_goesTold_133 : decode cX7_goesTold 133 = .ok (.iload_n 3, 1) := by decide +kernel
theorem dX7_goesTold_134 : decode cX7_goesTold 134 = .ok (.iload 4, 2) := by decide +kernel
theorem dX7_goesTold_136 : decode cX7_goesTold 136 = .ok (.iload 5, 2) := by decide +kernel
theorem dX7_goesTold_138 : decode cX7_goesTold 138 = .ok (.iconst 1, 1) := by decide +kernel
theorem dX7_goesTold_139 : decode cX7_goesTold 139 = .ok (.isub, 1) := by decide +kernel
theorem dX7_goesTold_140 : decode cX7_goesTold 140 = .ok (.invokevirtual 214, 3) := by decide +kernel
theorem dX7_goesTold_143 : decode cX7_goesTold 143 = .ok (.iconst 1, 1) := by decide +kernel
theorem dX7_goesTold_144 : decode cX7_goesTold 144 = .ok (.ireturn, 1) := by decide +kernel
theorem dX7_wrongIn_0 : decode cX7_wrongIn 0 = .ok (.aload_n 0, 1) := by decide +kernel
theorem dX7_wrongIn_1 : decode cX7_wrongIn 1 = .ok (.invokevirtual 250, 3) := by decide +kernel
theorem dX7_wrongIn_4 : decode cX7_wrongIn 4 = .ok (.astore_n 3, 1) := by decide +kernel
theorem dX7_wrongIn_5 : decode cX7_wrongIn 5 = .ok (.iconst 0, 1) := by decide +kernel
theorem dX7_wrongIn_6 : decode cX7_wrongIn 6 = .ok (.istore 4, 2) := by decide +kernel
theorem dX7_wrongIn_8 : decode cX7_wrongIn 8 = .ok (.iload 4, 2) := by decide +kernel
theorem dX7_wrongIn_10 : decode cX7_wrongIn 10 = .ok (.iload_n 2, 1) := by decide +kernel
theorem dX7_wrongIn_11 : decode cX7_wrongIn 11 = .ok (.if_icmp .ge 23, 3) := by decide +kernel
theorem dX7_wrongIn_14 : decode cX7_wrongIn 14 = .ok (.aload_n 3, 1) := by decide +kernel
theorem dX7_wrongIn_15 : decode cX7_wrongIn 15 = .ok (.aload_n 1, 1) := by decide +kernel
theorem dX7_wrongIn_16 : decode cX7_wrongIn 16 = .ok (.iload 4, 2) := by decide +kernel
theorem dX7_wrongIn_18 : decode cX7_wrongIn 18 = .ok (.laload, 1) := by decide +kernel
theorem dX7_wrongIn_19 : decode cX7_wrongIn 19 = .ok (.invokevirtual 342, 3) := by decide +kernel
theorem dX7_wrongIn_22 : decode cX7_wrongIn 22 = .ok (.ifCond .ne 6, 3) := by decide +kernel
theorem dX7_wrongIn_25 : decode cX7_wrongIn 25 = .ok (.iload 4, 2) := by decide +kernel
theorem dX7_wrongIn_27 : decode cX7_wrongIn 27 = .ok (.ireturn, 1) := by decide +kernel
theorem dX7_wrongIn_28 : decode cX7_wrongIn 28 = .ok (.iinc 4 1, 3) := by decide +kernel
theorem dX7_wrongIn_31 : decode cX7_wrongIn 31 = .ok (.goto (-23), 3) := by decide +kernel
theorem dX7_wrongIn_34 : decode cX7_wrongIn 34 = .ok (.iconst (-1), 1) := by decide +kernel
theorem dX7_wrongIn_35 : decode cX7_wrongIn 35 = .ok (.ireturn, 1) := by decide +kernel
theorem dX7_judge_0 : decode cX7_judge 0 = .ok (.aload_n 0, 1) := by decide +kernel
theorem dX7_judge_1 : decode cX7_judge 1 = .ok (.iload_n 1, 1) := by decide +kernel
theorem dX7_judge_2 : decode cX7_judge 2 = .ok (.iload_n 2, 1) := by decide +kernel
theorem dX7_judge_3 : decode cX7_judge 3 = .ok (.invokevirtual 346, 3) := by decide +kernel
theorem dX7_judge_6 : decode cX7_judge 6 = .ok (.istore_n 3, 1) := by decide +kernel
theorem dX7_judge_7 : decode cX7_judge 7 = .ok (.iload_n 3, 1) := by decide +kernel
theorem dX7_judge_8 : decode cX7_judge 8 = .ok (.ifCond .eq 7, 3) := by decide +kernel
theorem dX7_judge_11 : decode cX7_judge 11 = .ok (.iload_n 3, 1) := by decide +kernel
theorem dX7_judge_12 : decode cX7_judge 12 = .ok (.goto 14, 3) := by decide +kernel
theorem dX7_judge_15 : decode cX7_judge 15 = .ok (.aload_n 0, 1) := by decide +kernel
theorem dX7_judge_16 : decode cX7_judge 16 = .ok (.aload_n 0, 1) := by decide +kernel
theorem dX7_judge_17 : decode cX7_judge 17 = .ok (.getfield 21, 3) := by decide +kernel
theorem dX7_judge_20 : decode cX7_judge 20 = .ok (.iload_n 1, 1) := by decide +kernel
theorem dX7_judge_21 : decode cX7_judge 21 = .ok (.aaload, 1) := by decide +kernel
theorem dX7_judge_22 : decode cX7_judge 22 = .ok (.iload_n 2, 1) := by decide +kernel
theorem dX7_judge_23 : decode cX7_judge 23 = .ok (.invokevirtual 349, 3) := by decide +kernel
theorem dX7_judge_26 : decode cX7_judge 26 = .ok (.ireturn, 1) := by decide +kernel
theorem dX7_behind_0 : decode cX7_behind 0 = .ok (.iload_n 1, 1) := by decide +kernel
theorem dX7_behind_1 : decode cX7_behind 1 = .ok (.i2l, 1) := by decide +kernel
theorem dX7_behind_2 : decode cX7_behind 2 = .ok (.lconst 0, 1) := by decide +kernel
theorem dX7_behind_3 : decode cX7_behind 3 = .ok (.ldc2_w 93, 3) := by decide +kernel
theorem dX7_behind_6 : decode cX7_behind 6 = .ok (.invokestatic 85, 3) := by decide +kernel
theorem dX7_behind_9 : decode cX7_behind 9 = .ok (.ifCond .eq 27, 3) := by decide +kernel
theorem dX7_behind_12 : decode cX7_behind 12 = .ok (.iload_n 2, 1) := by decide +kernel
theorem dX7_behind_13 : decode cX7_behind 13 = .ok (.i2l, 1) := by decide +kernel
theorem dX7_behind_14 : decode cX7_behind 14 = .ok (.lconst 0, 1) := by decide +kernel
theorem dX7_behind_15 : decode cX7_behind 15 = .ok (.ldc2_w 97, 3) := by decide +kernel
theorem dX7_behind_18 : decode cX7_behind 18 = .ok (.invokestatic 85, 3) := by decide +kernel
theorem dX7_behind_21 : decode cX7_behind 21 = .ok (.ifCond .eq 15, 3) := by decide +kernel
theorem dX7_behind_24 : decode cX7_behind 24 = .ok (.iload_n 3, 1) := by decide +kernel
theorem dX7_behind_25 : decode cX7_behind 25 = .ok (.i2l, 1) := by decide +kernel
theorem dX7_behind_26 : decode cX7_behind 26 = .ok (.lconst 0, 1) := by decide +kernel
theorem dX7_behind_27 : decode cX7_behind 27 = .ok (.ldc2_w 137, 3) := by decide +kernel
theorem dX7_behind_30 : decode cX7_behind 30 = .ok (.invokestatic 85, 3) := by decide +kernel
theorem dX7_behind_33 : decode cX7_behind 33 = .ok (.ifCond .ne 10, 3) := by decide +kernel
theorem dX7_behind_36 : decode cX7_behind 36 = .ok (.aload_n 0, 1) := by decide +kernel
theorem dX7_behind_37 : decode cX7_behind 37 = .ok (.bipush (-2), 2) := by decide +kernel
theorem dX7_behind_39 : decode cX7_behind 39 = .ok (.invokevirtual 99, 3) := by decide +kernel
theorem dX7_behind_42 : decode cX7_behind 42 = .ok (.ireturn, 1) := by decide +kernel
theorem dX7_behind_43 : decode cX7_behind 43 = .ok (.aload_n 0, 1) := by decide +kernel
theorem dX7_behind_44 : decode cX7_behind 44 = .ok (.iload_n 1, 1) := by decide +kernel
theorem dX7_behind_45 : decode cX7_behind 45 = .ok (.iload_n 2, 1) := by decide +kernel
theorem dX7_behind_46 : decode cX7_behind 46 = .ok (.invokevirtual 346, 3) := by decide +kernel
theorem dX7_behind_49 : decode cX7_behind 49 = .ok (.istore 4, 2) := by decide +kernel
theorem dX7_behind_51 : decode cX7_behind 51 = .ok (.iload 4, 2) := by decide +kernel
theorem dX7_behind_53 : decode cX7_behind 53 = .ok (.ifCond .eq 6, 3) := by decide +kernel
theorem dX7_behind_56 : decode cX7_behind 56 = .ok (.iload 4, 2) := by decide +kernel
theorem dX7_behind_58 : decode cX7_behind 58 = .ok (.ireturn, 1) := by decide +kernel
theorem dX7_behind_59 : decode cX7_behind 59 = .ok (.aload_n 0, 1) := by decide +kernel
theorem dX7_behind_60 : decode cX7_behind 60 = .ok (.aload_n 0, 1) := by decide +kernel
theorem dX7_behind_61 : decode cX7_behind 61 = .ok (.getfield 21, 3) := by decide +kernel
theorem dX7_behind_64 : decode cX7_behind 64 = .ok (.iload_n 1, 1) := by decide +kernel
theorem dX7_behind_65 : decode cX7_behind 65 = .ok (.aaload, 1) := by decide +kernel
theorem dX7_behind_66 : decode cX7_behind 66 = .ok (.iload_n 2, 1) := by decide +kernel
theorem dX7_behind_67 : decode cX7_behind 67 = .ok (.invokevirtual 349, 3) := by decide +kernel
theorem dX7_behind_70 : decode cX7_behind 70 = .ok (.iconst (-1), 1) := by decide +kernel
theorem dX7_behind_71 : decode cX7_behind 71 = .ok (.if_icmp .eq 10, 3) := by decide +kernel
theorem dX7_behind_74 : decode cX7_behind 74 = .ok (.aload_n 0, 1) := by decide +kernel
theorem dX7_behind_75 : decode cX7_behind 75 = .ok (.bipush (-5), 2) := by decide +kernel
theorem dX7_behind_77 : decode cX7_behind 77 = .ok (.invokevirtual 99, 3) := by decide +kernel
theorem dX7_behind_80 : decode cX7_behind 80 = .ok (.ireturn, 1) := by decide +kernel
theorem dX7_behind_81 : decode cX7_behind 81 = .ok (.iload_n 3, 1) := by decide +kernel
theorem dX7_behind_82 : decode cX7_behind 82 = .ok (.iconst 2, 1) := by decide +kernel
theorem dX7_behind_83 : decode cX7_behind 83 = .ok (.if_icmp .ne 13, 3) := by decide +kernel
theorem dX7_behind_86 : decode cX7_behind 86 = .ok (.aload_n 0, 1) := by decide +kernel
theorem dX7_behind_87 : decode cX7_behind 87 = .ok (.getfield 299, 3) := by decide +kernel
theorem dX7_behind_90 : decode cX7_behind 90 = .ok (.invokevirtual 277, 3) := by decide +kernel
theorem dX7_behind_93 : decode cX7_behind 93 = .ok (.goto 12, 3) := by decide +kernel
theorem dX7_behind_96 : decode cX7_behind 96 = .ok (.aload_n 0, 1) := by decide +kernel
theorem dX7_behind_97 : decode cX7_behind 97 = .ok (.getfield 299, 3) := by decide +kernel
theorem dX7_behind_100 : decode cX7_behind 100 = .ok (.getfield 57, 3) := by decide +kernel
theorem dX7_behind_103 : decode cX7_behind 103 = .ok (.iload_n 3, 1) := by decide +kernel
theorem dX7_behind_104 : decode cX7_behind 104 = .ok (.iaload, 1) := by decide +kernel
theorem dX7_behind_105 : decode cX7_behind 105 = .ok (.ireturn, 1) := by decide +kernel
theorem dX7_booked_0 : decode cX7_booked 0 = .ok (.aload_n 0, 1) := by decide +kernel
theorem dX7_booked_1 : decode cX7_booked 1 = .ok (.iload_n 1, 1) := by decide +kernel
theorem dX7_booked_2 : decode cX7_booked 2 = .ok (.iload_n 2, 1) := by decide +kernel
theorem dX7_booked_3 : decode cX7_booked 3 = .ok (.invokevirtual 346, 3) := by decide +kernel
theorem dX7_booked_6 : decode cX7_booked 6 = .ok (.istore_n 3, 1) := by decide +kernel
theorem dX7_booked_7 : decode cX7_booked 7 = .ok (.iload_n 3, 1) := by decide +kernel
theorem dX7_booked_8 : decode cX7_booked 8 = .ok (.ifCond .eq 5, 3) := by decide +kernel
theorem dX7_booked_11 : decode cX7_booked 11 = .ok (.iload_n 3, 1) := by decide +kernel
theorem dX7_booked_12 : decode cX7_booked 12 = .ok (.ireturn, 1) := by decide +kernel
theorem dX7_booked_13 : decode cX7_booked 13 = .ok (.aload_n 0, 1) := by decide +kernel
theorem dX7_booked_14 : decode cX7_booked 14 = .ok (.aload_n 0, 1) := by decide +kernel
theorem dX7_booked_15 : decode cX7_booked 15 = .ok (.getfield 21, 3) := by decide +kernel
theorem dX7_booked_18 : decode cX7_booked 18 = .ok (.iload_n 1, 1) := by decide +kernel
theorem dX7_booked_19 : decode cX7_booked 19 = .ok (.aaload, 1) := by decide +kernel
theorem dX7_booked_20 : decode cX7_booked 20 = .ok (.iload_n 2, 1) := by decide +kernel
theorem dX7_booked_21 : decode cX7_booked 21 = .ok (.invokevirtual 349, 3) := by decide +kernel
theorem dX7_booked_24 : decode cX7_booked 24 = .ok (.iconst (-1), 1) := by decide +kernel
theorem dX7_booked_25 : decode cX7_booked 25 = .ok (.if_icmp .eq 10, 3) := by decide +kernel
theorem dX7_booked_28 : decode cX7_booked 28 = .ok (.aload_n 0, 1) := by decide +kernel
theorem dX7_booked_29 : decode cX7_booked 29 = .ok (.bipush (-5), 2) := by decide +kernel
theorem dX7_booked_31 : decode cX7_booked 31 = .ok (.invokevirtual 99, 3) := by decide +kernel
theorem dX7_booked_34 : decode cX7_booked 34 = .ok (.ireturn, 1) := by decide +kernel
theorem dX7_booked_35 : decode cX7_booked 35 = .ok (.aload_n 0, 1) := by decide +kernel
theorem dX7_booked_36 : decode cX7_booked 36 = .ok (.aload_n 0, 1) := by decide +kernel
theorem dX7_booked_37 : decode cX7_booked 37 = .ok (.getfield 299, 3) := by decide +kernel
theorem dX7_booked_40 : decode cX7_booked 40 = .ok (.invokevirtual 257, 3) := by decide +kernel
theorem dX7_booked_43 : decode cX7_booked 43 = .ok (.aload_n 0, 1) := by decide +kernel
theorem dX7_booked_44 : decode cX7_booked 44 = .ok (.getfield 274, 3) := by decide +kernel
theorem dX7_booked_47 : decode cX7_booked 47 = .ok (.ireturn, 1) := by decide +kernel
theorem dX7_move_0 : decode cX7_move 0 = .ok (.aload_n 0, 1) := by decide +kernel
theorem dX7_move_1 : decode cX7_move 1 = .ok (.iload_n 1, 1) := by decide +kernel
theorem dX7_move_2 : decode cX7_move 2 = .ok (.invokevirtual 109, 3) := by decide +kernel
theorem dX7_move_5 : decode cX7_move 5 = .ok (.ifCond .eq 25, 3) := by decide +kernel
theorem dX7_move_8 : decode cX7_move 8 = .ok (.iload_n 2, 1) := by decide +kernel
theorem dX7_move_9 : decode cX7_move 9 = .ok (.i2l, 1) := by decide +kernel
theorem dX7_move_10 : decode cX7_move 10 = .ok (.lconst 0, 1) := by decide +kernel
theorem dX7_move_11 : decode cX7_move 11 = .ok (.aload_n 0, 1) := by decide +kernel
theorem dX7_move_12 : decode cX7_move 12 = .ok (.getfield 57, 3) := by decide +kernel
theorem dX7_move_15 : decode cX7_move 15 = .ok (.aload_n 0, 1) := by decide +kernel
theorem dX7_move_16 : decode cX7_move 16 = .ok (.iload_n 1, 1) := by decide +kernel
theorem dX7_move_17 : decode cX7_move 17 = .ok (.invokevirtual 119, 3) := by decide +kernel
theorem dX7_move_20 : decode cX7_move 20 = .ok (.iaload, 1) := by decide +kernel
theorem dX7_move_21 : decode cX7_move 21 = .ok (.iconst 1, 1) := by decide +kernel
theorem dX7_move_22 : decode cX7_move 22 = .ok (.isub, 1) := by decide +kernel
theorem dX7_move_23 : decode cX7_move 23 = .ok (.i2l, 1) := by decide +kernel
theorem dX7_move_24 : decode cX7_move 24 = .ok (.invokestatic 85, 3) := by decide +kernel
theorem dX7_move_27 : decode cX7_move 27 = .ok (.ifCond .ne 10, 3) := by decide +kernel
theorem dX7_move_30 : decode cX7_move 30 = .ok (.aload_n 0, 1) := by decide +kernel
theorem dX7_move_31 : decode cX7_move 31 = .ok (.bipush (-2), 2) := by decide +kernel
theorem dX7_move_33 : decode cX7_move 33 = .ok (.invokevirtual 99, 3) := by decide +kernel
theorem dX7_move_36 : decode cX7_move 36 = .ok (.ireturn, 1) := by decide +kernel
theorem dX7_move_37 : decode cX7_move 37 = .ok (.aload_n 0, 1) := by decide +kernel
theorem dX7_move_38 : decode cX7_move 38 = .ok (.iload_n 1, 1) := by decide +kernel
theorem dX7_move_39 : decode cX7_move 39 = .ok (.invokevirtual 119, 3) := by decide +kernel
theorem dX7_move_42 : decode cX7_move 42 = .ok (.istore_n 3, 1) := by decide +kernel
theorem dX7_move_43 : decode cX7_move 43 = .ok (.aload_n 0, 1) := by decide +kernel
theorem dX7_move_44 : decode cX7_move 44 = .ok (.iload_n 1, 1) := by decide +kernel
theorem dX7_move_45 : decode cX7_move 45 = .ok (.invokevirtual 89, 3) := by decide +kernel
theorem dX7_move_48 : decode cX7_move 48 = .ok (.bipush 10, 2) := by decide +kernel
theorem dX7_move_50 : decode cX7_move 50 = .ok (.irem, 1) := by decide +kernel
theorem dX7_move_51 : decode cX7_move 51 = .ok (.istore 4, 2) := by decide +kernel
theorem dX7_move_53 : decode cX7_move 53 = .ok (.iload 4, 2) := by decide +kernel
theorem dX7_move_55 : decode cX7_move 55 = .ok (.istore 5, 2) := by decide +kernel
theorem dX7_move_57 : decode cX7_move 57 = .ok (.iload 5, 2) := by decide +kernel
theorem dX7_move_59 : decode cX7_move 59 = .ok (.iload_n 2, 1) := by decide +kernel
theorem dX7_move_60 : decode cX7_move 60 = .ok (.if_icmp .ge 16, 3) := by decide +kernel
theorem dX7_move_63 : decode cX7_move 63 = .ok (.aload_n 0, 1) := by decide +kernel
theorem dX7_move_64 : decode cX7_move 64 = .ok (.iload_n 3, 1) := by decide +kernel
theorem dX7_move_65 : decode cX7_move 65 = .ok (.iload 5, 2) := by decide +kernel
theorem dX7_move_67 : decode cX7_move 67 = .ok (.invokevirtual 321, 3) := by decide +kernel
theorem dX7_move_70 : decode cX7_move 70 = .ok (.iinc 5 1, 3) := by decide +kernel
theorem dX7_move_73 : decode cX7_move 73 = .ok (.goto (-16), 3) := by decide +kernel
theorem dX7_move_76 : decode cX7_move 76 = .ok (.iload 4, 2) := by decide +kernel
theorem dX7_move_78 : decode cX7_move 78 = .ok (.istore 5, 2) := by decide +kernel
theorem dX7_move_80 : decode cX7_move 80 = .ok (.iload 5, 2) := by decide +kernel
theorem dX7_move_82 : decode cX7_move 82 = .ok (.iload_n 2, 1) := by decide +kernel
theorem dX7_move_83 : decode cX7_move 83 = .ok (.if_icmp .le 18, 3) := by decide +kernel
theorem dX7_move_86 : decode cX7_move 86 = .ok (.aload_n 0, 1) := by decide +kernel
theorem dX7_move_87 : decode cX7_move 87 = .ok (.iload_n 3, 1) := by decide +kernel
theorem dX7_move_88 : decode cX7_move 88 = .ok (.iload 5, 2) := by decide +kernel
theorem dX7_move_90 : decode cX7_move 90 = .ok (.iconst 1, 1) := by decide +kernel
theorem dX7_move_91 : decode cX7_move 91 = .ok (.isub, 1) := by decide +kernel
theorem dX7_move_92 : decode cX7_move 92 = .ok (.invokevirtual 321, 3) := by decide +kernel
theorem dX7_move_95 : decode cX7_move 95 = .ok (.iinc 5 (-1), 3) := by decide +kernel
theorem dX7_move_98 : decode cX7_move 98 = .ok (.goto (-18), 3) := by decide +kernel
theorem dX7_move_101 : decode cX7_move 101 = .ok (.iload 4, 2) := by decide +kernel
theorem dX7_move_103 : decode cX7_move 103 = .ok (.ireturn, 1) := by decide +kernel
theorem dX7_order_0 : decode cX7_order 0 = .ok (.iload_n 2, 1) := by decide +kernel
theorem dX7_order_1 : decode cX7_order 1 = .ok (.i2l, 1) := by decide +kernel
theorem dX7_order_2 : decode cX7_order 2 = .ok (.lconst 0, 1) := by decide +kernel
theorem dX7_order_3 : decode cX7_order 3 = .ok (.ldc2_w 93, 3) := by decide +kernel
theorem dX7_order_6 : decode cX7_order 6 = .ok (.invokestatic 85, 3) := by decide +kernel
theorem dX7_order_9 : decode cX7_order 9 = .ok (.ifCond .eq 13, 3) := by decide +kernel
theorem dX7_order_12 : decode cX7_order 12 = .ok (.iload_n 1, 1) := by decide +kernel
theorem dX7_order_13 : decode cX7_order 13 = .ok (.i2l, 1) := by decide +kernel
theorem dX7_order_14 : decode cX7_order 14 = .ok (.lconst 0, 1) := by decide +kernel
theorem dX7_order_15 : decode cX7_order 15 = .ok (.lconst 1, 1) := by decide +kernel
theorem dX7_order_16 : decode cX7_order 16 = .ok (.invokestatic 85, 3) := by decide +kernel
theorem dX7_order_19 : decode cX7_order 19 = .ok (.ifCond .ne 10, 3) := by decide +kernel
theorem dX7_order_22 : decode cX7_order 22 = .ok (.aload_n 0, 1) := by decide +kernel
theorem dX7_order_23 : decode cX7_order 23 = .ok (.bipush (-2), 2) := by decide +kernel
theorem dX7_order_25 : decode cX7_order 25 = .ok (.invokevirtual 99, 3) := by decide +kernel
theorem dX7_order_28 : decode cX7_order 28 = .ok (.ireturn, 1) := by decide +kernel
theorem dX7_order_29 : decode cX7_order 29 = .ok (.aload_n 0, 1) := by decide +kernel
theorem dX7_order_30 : decode cX7_order 30 = .ok (.iload_n 2, 1) := by decide +kernel
theorem dX7_order_31 : decode cX7_order 31 = .ok (.invokevirtual 102, 3) := by decide +kernel
theorem dX7_order_34 : decode cX7_order 34 = .ok (.istore_n 3, 1) := by decide +kernel
theorem dX7_order_35 : decode cX7_order 35 = .ok (.iload_n 3, 1) := by decide +kernel
theorem dX7_order_36 : decode cX7_order 36 = .ok (.ifCond .eq 5, 3) := by decide +kernel
theorem dX7_order_39 : decode cX7_order 39 = .ok (.iload_n 3, 1) := by decide +kernel
theorem dX7_order_40 : decode cX7_order 40 = .ok (.ireturn, 1) := by decide +kernel
theorem dX7_order_41 : decode cX7_order 41 = .ok (.aload_n 0, 1) := by decide +kernel
theorem dX7_order_42 : decode cX7_order 42 = .ok (.getfield 16, 3) := by decide +kernel
theorem dX7_order_45 : decode cX7_order 45 = .ok (.iload_n 2, 1) := by decide +kernel
theorem dX7_order_46 : decode cX7_order 46 = .ok (.iaload, 1) := by decide +kernel
theorem dX7_order_47 : decode cX7_order 47 = .ok (.aload_n 0, 1) := by decide +kernel
theorem dX7_order_48 : decode cX7_order 48 = .ok (.getfield 57, 3) := by decide +kernel
theorem dX7_order_51 : decode cX7_order 51 = .ok (.iload_n 1, 1) := by decide +kernel
theorem dX7_order_52 : decode cX7_order 52 = .ok (.iaload, 1) := by decide +kernel
theorem dX7_order_53 : decode cX7_order 53 = .ok (.if_icmp .ge 10, 3) := by decide +kernel
theorem dX7_order_56 : decode cX7_order 56 = .ok (.aload_n 0, 1) := by decide +kernel
theorem dX7_order_57 : decode cX7_order 57 = .ok (.bipush (-2), 2) := by decide +kernel
theorem dX7_order_59 : decode cX7_order 59 = .ok (.invokevirtual 99, 3) := by decide +kernel
theorem dX7_order_62 : decode cX7_order 62 = .ok (.ireturn, 1) := by decide +kernel
theorem dX7_order_63 : decode cX7_order 63 = .ok (.iconst 0, 1) := by decide +kernel
theorem dX7_order_64 : decode cX7_order 64 = .ok (.istore 4, 2) := by decide +kernel
theorem dX7_order_66 : decode cX7_order 66 = .ok (.iconst 0, 1) := by decide +kernel
theorem dX7_order_67 : decode cX7_order 67 = .ok (.istore 5, 2) := by decide +kernel
theorem dX7_order_69 : decode cX7_order 69 = .ok (.iload 5, 2) := by decide +kernel
theorem dX7_order_71 : decode cX7_order 71 = .ok (.aload_n 0, 1) := by decide +kernel
theorem dX7_order_72 : decode cX7_order 72 = .ok (.getfield 57, 3) := by decide +kernel
theorem dX7_order_75 : decode cX7_order 75 = .ok (.iload_n 1, 1) := by decide +kernel
theorem dX7_order_76 : decode cX7_order 76 = .ok (.iaload, 1) := by decide +kernel
theorem dX7_order_77 : decode cX7_order 77 = .ok (.if_icmp .ge 75, 3) := by decide +kernel
theorem dX7_order_80 : decode cX7_order 80 = .ok (.aload_n 0, 1) := by decide +kernel
theorem dX7_order_81 : decode cX7_order 81 = .ok (.getfield 21, 3) := by decide +kernel
theorem dX7_order_84 : decode cX7_order 84 = .ok (.iload_n 2, 1) := by decide +kernel
theorem dX7_order_85 : decode cX7_order 85 = .ok (.aaload, 1) := by decide +kernel
theorem dX7_order_86 : decode cX7_order 86 = .ok (.iload 5, 2) := by decide +kernel
theorem dX7_order_88 : decode cX7_order 88 = .ok (.laload, 1) := by decide +kernel
theorem dX7_order_89 : decode cX7_order 89 = .ok (.lstore 6, 2) := by decide +kernel
theorem dX7_order_91 : decode cX7_order 91 = .ok (.lload 6, 2) := by decide +kernel
theorem dX7_order_93 : decode cX7_order 93 = .ok (.lconst 0, 1) := by decide +kernel
theorem dX7_order_94 : decode cX7_order 94 = .ok (.aload_n 0, 1) := by decide +kernel
theorem dX7_order_95 : decode cX7_order 95 = .ok (.getfield 82, 3) := by decide +kernel
theorem dX7_order_98 : decode cX7_order 98 = .ok (.iconst 1, 1) := by decide +kernel
theorem dX7_order_99 : decode cX7_order 99 = .ok (.isub, 1) := by decide +kernel
theorem dX7_order_100 : decode cX7_order 100 = .ok (.i2l, 1) := by decide +kernel
theorem dX7_order_101 : decode cX7_order 101 = .ok (.invokestatic 85, 3) := by decide +kernel
theorem dX7_order_104 : decode cX7_order 104 = .ok (.ifCond .eq 25, 3) := by decide +kernel
theorem dX7_order_107 : decode cX7_order 107 = .ok (.aload_n 0, 1) := by decide +kernel
theorem dX7_order_108 : decode cX7_order 108 = .ok (.lload 6, 2) := by decide +kernel
theorem dX7_order_110 : decode cX7_order 110 = .ok (.l2i, 1) := by decide +kernel
theorem dX7_order_111 : decode cX7_order 111 = .ok (.invokevirtual 119, 3) := by decide +kernel
theorem dX7_order_114 : decode cX7_order 114 = .ok (.iload_n 1, 1) := by decide +kernel
theorem dX7_order_115 : decode cX7_order 115 = .ok (.if_icmp .ne 14, 3) := by decide +kernel
theorem dX7_order_118 : decode cX7_order 118 = .ok (.iload 4, 2) := by decide +kernel
theorem dX7_order_120 : decode cX7_order 120 = .ok (.lload 6, 2) := by decide +kernel
theorem dX7_order_122 : decode cX7_order 122 = .ok (.l2i, 1) := by decide +kernel
theorem dX7_order_123 : decode cX7_order 123 = .ok (.ishr, 1) := by decide +kernel
theorem dX7_order_124 : decode cX7_order 124 = .ok (.iconst 1, 1) := by decide +kernel
theorem dX7_order_125 : decode cX7_order 125 = .ok (.iand, 1) := by decide +kernel
theorem dX7_order_126 : decode cX7_order 126 = .ok (.ifCond .eq 10, 3) := by decide +kernel
theorem dX7_order_129 : decode cX7_order 129 = .ok (.aload_n 0, 1) := by decide +kernel
theorem dX7_order_130 : decode cX7_order 130 = .ok (.bipush (-2), 2) := by decide +kernel
theorem dX7_order_132 : decode cX7_order 132 = .ok (.invokevirtual 99, 3) := by decide +kernel
theorem dX7_order_135 : decode cX7_order 135 = .ok (.ireturn, 1) := by decide +kernel
theorem dX7_order_136 : decode cX7_order 136 = .ok (.iload 4, 2) := by decide +kernel
theorem dX7_order_138 : decode cX7_order 138 = .ok (.iconst 1, 1) := by decide +kernel
theorem dX7_order_139 : decode cX7_order 139 = .ok (.lload 6, 2) := by decide +kernel
theorem dX7_order_141 : decode cX7_order 141 = .ok (.l2i, 1) := by decide +kernel
theorem dX7_order_142 : decode cX7_order 142 = .ok (.ishl, 1) := by decide +kernel
theorem dX7_order_143 : decode cX7_order 143 = .ok (.ior, 1) := by decide +kernel
theorem dX7_order_144 : decode cX7_order 144 = .ok (.istore 4, 2) := by decide +kernel
theorem dX7_order_146 : decode cX7_order 146 = .ok (.iinc 5 1, 3) := by decide +kernel
theorem dX7_order_149 : decode cX7_order 149 = .ok (.goto (-80), 3) := by decide +kernel
theorem dX7_order_152 : decode cX7_order 152 = .ok (.iconst 0, 1) := by decide +kernel
theorem dX7_order_153 : decode cX7_order 153 = .ok (.istore 5, 2) := by decide +kernel
theorem dX7_order_155 : decode cX7_order 155 = .ok (.iload 5, 2) := by decide +kernel
theorem dX7_order_157 : decode cX7_order 157 = .ok (.aload_n 0, 1) := by decide +kernel
theorem dX7_order_158 : decode cX7_order 158 = .ok (.getfield 57, 3) := by decide +kernel
theorem dX7_order_161 : decode cX7_order 161 = .ok (.iload_n 1, 1) := by decide +kernel
theorem dX7_order_162 : decode cX7_order 162 = .ok (.iaload, 1) := by decide +kernel
theorem dX7_order_163 : decode cX7_order 163 = .ok (.if_icmp .ge 28, 3) := by decide +kernel
theorem dX7_order_166 : decode cX7_order 166 = .ok (.aload_n 0, 1) := by decide +kernel
theorem dX7_order_167 : decode cX7_order 167 = .ok (.getfield 54, 3) := by decide +kernel
theorem dX7_order_170 : decode cX7_order 170 = .ok (.iload_n 1, 1) := by decide +kernel
theorem dX7_order_171 : decode cX7_order 171 = .ok (.aaload, 1) := by decide +kernel
theorem dX7_order_172 : decode cX7_order 172 = .ok (.iload 5, 2) := by decide +kernel
theorem dX7_order_174 : decode cX7_order 174 = .ok (.aload_n 0, 1) := by decide +kernel
theorem dX7_order_175 : decode cX7_order 175 = .ok (.getfield 21, 3) := by decide +kernel
theorem dX7_order_178 : decode cX7_order 178 = .ok (.iload_n 2, 1) := by decide +kernel
theorem dX7_order_179 : decode cX7_order 179 = .ok (.aaload, 1) := by decide +kernel
theorem dX7_order_180 : decode cX7_order 180 = .ok (.iload 5, 2) := by decide +kernel
theorem dX7_order_182 : decode cX7_order 182 = .ok (.laload, 1) := by decide +kernel
theorem dX7_order_183 : decode cX7_order 183 = .ok (.l2i, 1) := by decide +kernel
theorem dX7_order_184 : decode cX7_order 184 = .ok (.iastore, 1) := by decide +kernel
theorem dX7_order_185 : decode cX7_order 185 = .ok (.iinc 5 1, 3) := by decide +kernel
theorem dX7_order_188 : decode cX7_order 188 = .ok (.goto (-33), 3) := by decide +kernel
theorem dX7_order_191 : decode cX7_order 191 = .ok (.aload_n 0, 1) := by decide +kernel
theorem dX7_order_192 : decode cX7_order 192 = .ok (.getfield 57, 3) := by decide +kernel
theorem dX7_order_195 : decode cX7_order 195 = .ok (.iload_n 1, 1) := by decide +kernel
theorem dX7_order_196 : decode cX7_order 196 = .ok (.iaload, 1) := by decide +kernel
theorem dX7_order_197 : decode cX7_order 197 = .ok (.ireturn, 1) := by decide +kernel
theorem dX7_best_0 : decode cX7_best 0 = .ok (.iload_n 1, 1) := by decide +kernel
theorem dX7_best_1 : decode cX7_best 1 = .ok (.i2l, 1) := by decide +kernel
theorem dX7_best_2 : decode cX7_best 2 = .ok (.lconst 0, 1) := by decide +kernel
theorem dX7_best_3 : decode cX7_best 3 = .ok (.lconst 1, 1) := by decide +kernel
theorem dX7_best_4 : decode cX7_best 4 = .ok (.invokestatic 85, 3) := by decide +kernel
theorem dX7_best_7 : decode cX7_best 7 = .ok (.ifCond .ne 10, 3) := by decide +kernel
theorem dX7_best_10 : decode cX7_best 10 = .ok (.aload_n 0, 1) := by decide +kernel
theorem dX7_best_11 : decode cX7_best 11 = .ok (.bipush (-2), 2) := by decide +kernel
theorem dX7_best_13 : decode cX7_best 13 = .ok (.invokevirtual 99, 3) := by decide +kernel
theorem dX7_best_16 : decode cX7_best 16 = .ok (.ireturn, 1) := by decide +kernel
theorem dX7_best_17 : decode cX7_best 17 = .ok (.aload_n 0, 1) := by decide +kernel
theorem dX7_best_18 : decode cX7_best 18 = .ok (.getfield 57, 3) := by decide +kernel
theorem dX7_best_21 : decode cX7_best 21 = .ok (.iload_n 1, 1) := by decide +kernel
theorem dX7_best_22 : decode cX7_best 22 = .ok (.iaload, 1) := by decide +kernel
theorem dX7_best_23 : decode cX7_best 23 = .ok (.bipush 7, 2) := by decide +kernel
theorem dX7_best_25 : decode cX7_best 25 = .ok (.if_icmp .le 10, 3) := by decide +kernel
theorem dX7_best_28 : decode cX7_best 28 = .ok (.aload_n 0, 1) := by decide +kernel
theorem dX7_best_29 : decode cX7_best 29 = .ok (.bipush (-6), 2) := by decide +kernel
theorem dX7_best_31 : decode cX7_best 31 = .ok (.invokevirtual 99, 3) := by decide +kernel
theorem dX7_best_34 : decode cX7_best 34 = .ok (.ireturn, 1) := by decide +kernel
theorem dX7_best_35 : decode cX7_best 35 = .ok (.aload_n 0, 1) := by decide +kernel
theorem dX7_best_36 : decode cX7_best 36 = .ok (.iload_n 1, 1) := by decide +kernel
theorem dX7_best_37 : decode cX7_best 37 = .ok (.invokevirtual 314, 3) := by decide +kernel
theorem dX7_best_40 : decode cX7_best 40 = .ok (.iconst 0, 1) := by decide +kernel
theorem dX7_best_41 : decode cX7_best 41 = .ok (.istore_n 2, 1) := by decide +kernel
theorem dX7_best_42 : decode cX7_best 42 = .ok (.iload_n 2, 1) := by decide +kernel
theorem dX7_best_43 : decode cX7_best 43 = .ok (.aload_n 0, 1) := by decide +kernel
theorem dX7_best_44 : decode cX7_best 44 = .ok (.getfield 57, 3) := by decide +kernel
theorem dX7_best_47 : decode cX7_best 47 = .ok (.iload_n 1, 1) := by decide +kernel
theorem dX7_best_48 : decode cX7_best 48 = .ok (.iaload, 1) := by decide +kernel
theorem dX7_best_49 : decode cX7_best 49 = .ok (.if_icmp .ge 23, 3) := by decide +kernel
theorem dX7_best_52 : decode cX7_best 52 = .ok (.aload_n 0, 1) := by decide +kernel
theorem dX7_best_53 : decode cX7_best 53 = .ok (.getfield 54, 3) := by decide +kernel
theorem dX7_best_56 : decode cX7_best 56 = .ok (.iload_n 1, 1) := by decide +kernel
theorem dX7_best_57 : decode cX7_best 57 = .ok (.aaload, 1) := by decide +kernel
theorem dX7_best_58 : decode cX7_best 58 = .ok (.iload_n 2, 1) := by decide +kernel
theorem dX7_best_59 : decode cX7_best 59 = .ok (.aload_n 0, 1) := by decide +kernel
theorem dX7_best_60 : decode cX7_best 60 = .ok (.getfield 79, 3) := by decide +kernel
theorem dX7_best_63 : decode cX7_best 63 = .ok (.iload_n 2, 1) := by decide +kernel
theorem dX7_best_64 : decode cX7_best 64 = .ok (.iaload, 1) := by decide +kernel
theorem dX7_best_65 : decode cX7_best 65 = .ok (.iastore, 1) := by decide +kernel
theorem dX7_best_66 : decode cX7_best 66 = .ok (.iinc 2 1, 3) := by decide +kernel
theorem dX7_best_69 : decode cX7_best 69 = .ok (.goto (-27), 3) := by decide +kernel
theorem dX7_best_72 : decode cX7_best 72 = .ok (.aload_n 0, 1) := by decide +kernel
theorem dX7_best_73 : decode cX7_best 73 = .ok (.getfield 308, 3) := by decide +kernel
theorem dX7_best_76 : decode cX7_best 76 = .ok (.ireturn, 1) := by decide +kernel
theorem dX7_below_0 : decode cX7_below 0 = .ok (.aload_n 0, 1) := by decide +kernel
theorem dX7_below_1 : decode cX7_below 1 = .ok (.aload_n 0, 1) := by decide +kernel
theorem dX7_below_2 : decode cX7_below 2 = .ok (.getfield 70, 3) := by decide +kernel
theorem dX7_below_5 : decode cX7_below 5 = .ok (.ldc_w 353, 3) := by decide +kernel
theorem dX7_below_8 : decode cX7_below 8 = .ok (.imul, 1) := by decide +kernel
theorem dX7_below_9 : decode cX7_below 9 = .ok (.sipush 12345, 3) := by decide +kernel
theorem dX7_below_12 : decode cX7_below 12 = .ok (.iadd, 1) := by decide +kernel
theorem dX7_below_13 : decode cX7_below 13 = .ok (.putfield 70, 3) := by decide +kernel
theorem dX7_below_16 : decode cX7_below 16 = .ok (.aload_n 0, 1) := by decide +kernel
theorem dX7_below_17 : decode cX7_below 17 = .ok (.getfield 70, 3) := by decide +kernel
theorem dX7_below_20 : decode cX7_below 20 = .ok (.bipush 16, 2) := by decide +kernel
theorem dX7_below_22 : decode cX7_below 22 = .ok (.iushr, 1) := by decide +kernel
theorem dX7_below_23 : decode cX7_below 23 = .ok (.iload_n 1, 1) := by decide +kernel
theorem dX7_below_24 : decode cX7_below 24 = .ok (.irem, 1) := by decide +kernel
theorem dX7_below_25 : decode cX7_below 25 = .ok (.ireturn, 1) := by decide +kernel
theorem dX7_goesRun_0 : decode cX7_goesRun 0 = .ok (.aload_n 0, 1) := by decide +kernel
theorem dX7_goesRun_1 : decode cX7_goesRun 1 = .ok (.iload_n 1, 1) := by decide +kernel
theorem dX7_goesRun_2 : decode cX7_goesRun 2 = .ok (.invokevirtual 126, 3) := by decide +kernel
theorem dX7_goesRun_5 : decode cX7_goesRun 5 = .ok (.aload_n 0, 1) := by decide +kernel
theorem dX7_goesRun_6 : decode cX7_goesRun 6 = .ok (.aload_n 0, 1) := by decide +kernel
theorem dX7_goesRun_7 : decode cX7_goesRun 7 = .ok (.getfield 64, 3) := by decide +kernel
theorem dX7_goesRun_10 : decode cX7_goesRun 10 = .ok (.invokevirtual 354, 3) := by decide +kernel
theorem dX7_goesRun_13 : decode cX7_goesRun 13 = .ok (.iadd, 1) := by decide +kernel
theorem dX7_goesRun_14 : decode cX7_goesRun 14 = .ok (.aload_n 0, 1) := by decide +kernel
theorem dX7_goesRun_15 : decode cX7_goesRun 15 = .ok (.aload_n 0, 1) := by decide +kernel
theorem dX7_goesRun_16 : decode cX7_goesRun 16 = .ok (.getfield 54, 3) := by decide +kernel
theorem dX7_goesRun_19 : decode cX7_goesRun 19 = .ok (.aload_n 0, 1) := by decide +kernel
theorem dX7_goesRun_20 : decode cX7_goesRun 20 = .ok (.getfield 148, 3) := by decide +kernel
theorem dX7_goesRun_23 : decode cX7_goesRun 23 = .ok (.aaload, 1) := by decide +kernel
theorem dX7_goesRun_24 : decode cX7_goesRun 24 = .ok (.aload_n 0, 1) := by decide +kernel
theorem dX7_goesRun_25 : decode cX7_goesRun 25 = .ok (.getfield 57, 3) := by decide +kernel
theorem dX7_goesRun_28 : decode cX7_goesRun 28 = .ok (.aload_n 0, 1) := by decide +kernel
theorem dX7_goesRun_29 : decode cX7_goesRun 29 = .ok (.getfield 148, 3) := by decide +kernel
theorem dX7_goesRun_32 : decode cX7_goesRun 32 = .ok (.iaload, 1) := by decide +kernel
theorem dX7_goesRun_33 : decode cX7_goesRun 33 = .ok (.iload_n 2, 1) := by decide +kernel
theorem dX7_goesRun_34 : decode cX7_goesRun 34 = .ok (.invokevirtual 266, 3) := by decide +kernel
theorem dX7_goesRun_37 : decode cX7_goesRun 37 = .ok (.if_icmp .le 7, 3) := by decide +kernel
theorem dX7_goesRun_40 : decode cX7_goesRun 40 = .ok (.iconst 1, 1) := by decide +kernel
theorem dX7_goesRun_41 : decode cX7_goesRun 41 = .ok (.goto 4, 3) := by decide +kernel
theorem dX7_goesRun_44 : decode cX7_goesRun 44 = .ok (.iconst 0, 1) := by decide +kernel
theorem dX7_goesRun_45 : decode cX7_goesRun 45 = .ok (.istore 4, 2) := by decide +kernel
theorem dX7_goesRun_47 : decode cX7_goesRun 47 = .ok (.iload 4, 2) := by decide +kernel
theorem dX7_goesRun_49 : decode cX7_goesRun 49 = .ok (.ifCond .eq 13, 3) := by decide +kernel
theorem dX7_goesRun_52 : decode cX7_goesRun 52 = .ok (.aload_n 0, 1) := by decide +kernel
theorem dX7_goesRun_53 : decode cX7_goesRun 53 = .ok (.iload_n 1, 1) := by decide +kernel
theorem dX7_goesRun_54 : decode cX7_goesRun 54 = .ok (.iload_n 2, 1) := by decide +kernel
theorem dX7_goesRun_55 : decode cX7_goesRun 55 = .ok (.iload_n 3, 1) := by decide +kernel
theorem dX7_goesRun_56 : decode cX7_goesRun 56 = .ok (.invokevirtual 214, 3) := by decide +kernel
theorem dX7_goesRun_59 : decode cX7_goesRun 59 = .ok (.goto 9, 3) := by decide +kernel
theorem dX7_goesRun_62 : decode cX7_goesRun 62 = .ok (.aload_n 0, 1) := by decide +kernel
theorem dX7_goesRun_63 : decode cX7_goesRun 63 = .ok (.iload_n 1, 1) := by decide +kernel
theorem dX7_goesRun_64 : decode cX7_goesRun 64 = .ok (.iload_n 2, 1) := by decide +kernel
theorem dX7_goesRun_65 : decode cX7_goesRun 65 = .ok (.invokevirtual 219, 3) := by decide +kernel
theorem dX7_goesRun_68 : decode cX7_goesRun 68 = .ok (.iload 4, 2) := by decide +kernel
theorem dX7_goesRun_70 : decode cX7_goesRun 70 = .ok (.ireturn, 1) := by decide +kernel
theorem dX7_run_0 : decode cX7_run 0 = .ok (.aload_n 0, 1) := by decide +kernel
theorem dX7_run_1 : decode cX7_run 1 = .ok (.iload_n 1, 1) := by decide +kernel
theorem dX7_run_2 : decode cX7_run 2 = .ok (.invokevirtual 109, 3) := by decide +kernel
theorem dX7_run_5 : decode cX7_run 5 = .ok (.ifCond .eq 25, 3) := by decide +kernel
theorem dX7_run_8 : decode cX7_run 8 = .ok (.aload_n 0, 1) := by decide +kernel
theorem dX7_run_9 : decode cX7_run 9 = .ok (.aload_n 0, 1) := by decide +kernel
theorem dX7_run_10 : decode cX7_run 10 = .ok (.getfield 148, 3) := by decide +kernel
theorem dX7_run_13 : decode cX7_run 13 = .ok (.iload_n 2, 1) := by decide +kernel
theorem dX7_run_14 : decode cX7_run 14 = .ok (.invokevirtual 263, 3) := by decide +kernel
theorem dX7_run_17 : decode cX7_run 17 = .ok (.ifCond .eq 13, 3) := by decide +kernel
theorem dX7_run_20 : decode cX7_run 20 = .ok (.iload_n 3, 1) := by decide +kernel
theorem dX7_run_21 : decode cX7_run 21 = .ok (.i2l, 1) := by decide +kernel
theorem dX7_run_22 : decode cX7_run 22 = .ok (.lconst 0, 1) := by decide +kernel
theorem dX7_run_23 : decode cX7_run 23 = .ok (.lconst 1, 1) := by decide +kernel
theorem dX7_run_24 : decode cX7_run 24 = .ok (.invokestatic 85, 3) := by decide +kernel
theorem dX7_run_27 : decode cX7_run 27 = .ok (.ifCond .ne 10, 3) := by decide +kernel
theorem dX7_run_30 : decode cX7_run 30 = .ok (.aload_n 0, 1) := by decide +kernel
theorem dX7_run_31 : decode cX7_run 31 = .ok (.bipush (-2), 2) := by decide +kernel
theorem dX7_run_33 : decode cX7_run 33 = .ok (.invokevirtual 99, 3) := by decide +kernel
theorem dX7_run_36 : decode cX7_run 36 = .ok (.ireturn, 1) := by decide +kernel
theorem dX7_run_37 : decode cX7_run 37 = .ok (.aload_n 0, 1) := by decide +kernel
theorem dX7_run_38 : decode cX7_run 38 = .ok (.iload_n 1, 1) := by decide +kernel
theorem dX7_run_39 : decode cX7_run 39 = .ok (.invokevirtual 119, 3) := by decide +kernel
theorem dX7_run_42 : decode cX7_run 42 = .ok (.aload_n 0, 1) := by decide +kernel
theorem dX7_run_43 : decode cX7_run 43 = .ok (.getfield 148, 3) := by decide +kernel
theorem dX7_run_46 : decode cX7_run 46 = .ok (.if_icmp .eq 10, 3) := by decide +kernel
theorem dX7_run_49 : decode cX7_run 49 = .ok (.aload_n 0, 1) := by decide +kernel
theorem dX7_run_50 : decode cX7_run 50 = .ok (.invokevirtual 208, 3) := by decide +kernel
theorem dX7_run_53 : decode cX7_run 53 = .ok (.ifCond .eq 10, 3) := by decide +kernel
theorem dX7_run_56 : decode cX7_run 56 = .ok (.aload_n 0, 1) := by decide +kernel
theorem dX7_run_57 : decode cX7_run 57 = .ok (.bipush (-5), 2) := by decide +kernel
theorem dX7_run_59 : decode cX7_run 59 = .ok (.invokevirtual 99, 3) := by decide +kernel
theorem dX7_run_62 : decode cX7_run 62 = .ok (.ireturn, 1) := by decide +kernel
theorem dX7_run_63 : decode cX7_run 63 = .ok (.aload_n 0, 1) := by decide +kernel
theorem dX7_run_64 : decode cX7_run 64 = .ok (.iload_n 1, 1) := by decide +kernel
theorem dX7_run_65 : decode cX7_run 65 = .ok (.iload_n 2, 1) := by decide +kernel
theorem dX7_run_66 : decode cX7_run 66 = .ok (.iload_n 3, 1) := by decide +kernel
theorem dX7_run_67 : decode cX7_run 67 = .ok (.invokevirtual 357, 3) := by decide +kernel
theorem dX7_run_70 : decode cX7_run 70 = .ok (.ifCond .eq 7, 3) := by decide +kernel
theorem dX7_run_73 : decode cX7_run 73 = .ok (.iconst 1, 1) := by decide +kernel
theorem dX7_run_74 : decode cX7_run 74 = .ok (.goto 4, 3) := by decide +kernel
theorem dX7_run_77 : decode cX7_run 77 = .ok (.iconst 0, 1) := by decide +kernel
theorem dX7_run_78 : decode cX7_run 78 = .ok (.ireturn, 1) := by decide +kernel
theorem dX7_runs_0 : decode cX7_runs 0 = .ok (.iload_n 1, 1) := by decide +kernel
theorem dX7_runs_1 : decode cX7_runs 1 = .ok (.i2l, 1) := by decide +kernel
theorem dX7_runs_2 : decode cX7_runs 2 = .ok (.lconst 1, 1) := by decide +kernel
theorem dX7_runs_3 : decode cX7_runs 3 = .ok (.ldc2_w 97, 3) := by decide +kernel
theorem dX7_runs_6 : decode cX7_runs 6 = .ok (.invokestatic 85, 3) := by decide +kernel
theorem dX7_runs_9 : decode cX7_runs 9 = .ok (.ifCond .ne 10, 3) := by decide +kernel
theorem dX7_runs_12 : decode cX7_runs 12 = .ok (.aload_n 0, 1) := by decide +kernel
theorem dX7_runs_13 : decode cX7_runs 13 = .ok (.bipush (-2), 2) := by decide +kernel
theorem dX7_runs_15 : decode cX7_runs 15 = .ok (.invokevirtual 99, 3) := by decide +kernel
theorem dX7_runs_18 : decode cX7_runs 18 = .ok (.ireturn, 1) := by decide +kernel
theorem dX7_runs_19 : decode cX7_runs 19 = .ok (.iconst 0, 1) := by decide +kernel
theorem dX7_runs_20 : decode cX7_runs 20 = .ok (.istore_n 2, 1) := by decide +kernel
theorem dX7_runs_21 : decode cX7_runs 21 = .ok (.iconst 0, 1) := by decide +kernel
theorem dX7_runs_22 : decode cX7_runs 22 = .ok (.istore_n 3, 1) := by decide +kernel
theorem dX7_runs_23 : decode cX7_runs 23 = .ok (.iload_n 3, 1) := by decide +kernel
theorem dX7_runs_24 : decode cX7_runs 24 = .ok (.iload_n 1, 1) := by decide +kernel
theorem dX7_runs_25 : decode cX7_runs 25 = .ok (.if_icmp .ge 56, 3) := by decide +kernel
theorem dX7_runs_28 : decode cX7_runs 28 = .ok (.aload_n 0, 1) := by decide +kernel
theorem dX7_runs_29 : decode cX7_runs 29 = .ok (.invokevirtual 208, 3) := by decide +kernel
theorem dX7_runs_32 : decode cX7_runs 32 = .ok (.ifCond .ne 49, 3) := by decide +kernel
theorem dX7_runs_35 : decode cX7_runs 35 = .ok (.aload_n 0, 1) := by decide +kernel
theorem dX7_runs_36 : decode cX7_runs 36 = .ok (.iconst 0, 1) := by decide +kernel
theorem dX7_runs_37 : decode cX7_runs 37 = .ok (.invokevirtual 286, 3) := by decide +kernel
theorem dX7_runs_40 : decode cX7_runs 40 = .ok (.istore 4, 2) := by decide +kernel
theorem dX7_runs_42 : decode cX7_runs 42 = .ok (.aload_n 0, 1) := by decide +kernel
theorem dX7_runs_43 : decode cX7_runs 43 = .ok (.iload 4, 2) := by decide +kernel
theorem dX7_runs_45 : decode cX7_runs 45 = .ok (.invokevirtual 280, 3) := by decide +kernel
theorem dX7_runs_48 : decode cX7_runs 48 = .ok (.istore 5, 2) := by decide +kernel
theorem dX7_runs_50 : decode cX7_runs 50 = .ok (.iload_n 2, 1) := by decide +kernel
theorem dX7_runs_51 : decode cX7_runs 51 = .ok (.aload_n 0, 1) := by decide +kernel
theorem dX7_runs_52 : decode cX7_runs 52 = .ok (.iload 4, 2) := by decide +kernel
theorem dX7_runs_54 : decode cX7_runs 54 = .ok (.iload 5, 2) := by decide +kernel
theorem dX7_runs_56 : decode cX7_runs 56 = .ok (.aload_n 0, 1) := by decide +kernel
theorem dX7_runs_57 : decode cX7_runs 57 = .ok (.iload 5, 2) := by decide +kernel
theorem dX7_runs_59 : decode cX7_runs 59 = .ok (.invokevirtual 283, 3) := by decide +kernel
theorem dX7_runs_62 : decode cX7_runs 62 = .ok (.invokevirtual 357, 3) := by decide +kernel
theorem dX7_runs_65 : decode cX7_runs 65 = .ok (.ifCond .eq 7, 3) := by decide +kernel
theorem dX7_runs_68 : decode cX7_runs 68 = .ok (.iconst 1, 1) := by decide +kernel
theorem dX7_runs_69 : decode cX7_runs 69 = .ok (.goto 4, 3) := by decide +kernel
theorem dX7_runs_72 : decode cX7_runs 72 = .ok (.iconst 0, 1) := by decide +kernel
theorem dX7_runs_73 : decode cX7_runs 73 = .ok (.iadd, 1) := by decide +kernel
theorem dX7_runs_74 : decode cX7_runs 74 = .ok (.istore_n 2, 1) := by decide +kernel
theorem dX7_runs_75 : decode cX7_runs 75 = .ok (.iinc 3 1, 3) := by decide +kernel
theorem dX7_runs_78 : decode cX7_runs 78 = .ok (.goto (-55), 3) := by decide +kernel
theorem dX7_runs_81 : decode cX7_runs 81 = .ok (.iload_n 2, 1) := by decide +kernel
theorem dX7_runs_82 : decode cX7_runs 82 = .ok (.ireturn, 1) := by decide +kernel
theorem dX7_rest_0 : decode cX7_rest 0 = .ok (.iload_n 1, 1) := by decide +kernel
theorem dX7_rest_1 : decode cX7_rest 1 = .ok (.i2l, 1) := by decide +kernel
theorem dX7_rest_2 : decode cX7_rest 2 = .ok (.lconst 0, 1) := by decide +kernel
theorem dX7_rest_3 : decode cX7_rest 3 = .ok (.ldc2_w 129, 3) := by decide +kernel
theorem dX7_rest_6 : decode cX7_rest 6 = .ok (.invokestatic 85, 3) := by decide +kernel
theorem dX7_rest_9 : decode cX7_rest 9 = .ok (.ifCond .ne 10, 3) := by decide +kernel
theorem dX7_rest_12 : decode cX7_rest 12 = .ok (.aload_n 0, 1) := by decide +kernel
theorem dX7_rest_13 : decode cX7_rest 13 = .ok (.bipush (-2), 2) := by decide +kernel
theorem dX7_rest_15 : decode cX7_rest 15 = .ok (.invokevirtual 99, 3) := by decide +kernel
theorem dX7_rest_18 : decode cX7_rest 18 = .ok (.ireturn, 1) := by decide +kernel
theorem dX7_rest_19 : decode cX7_rest 19 = .ok (.iconst 0, 1) := by decide +kernel
theorem dX7_rest_20 : decode cX7_rest 20 = .ok (.istore_n 2, 1) := by decide +kernel
theorem dX7_rest_21 : decode cX7_rest 21 = .ok (.iconst 0, 1) := by decide +kernel
theorem dX7_rest_22 : decode cX7_rest 22 = .ok (.istore_n 3, 1) := by decide +kernel
theorem dX7_rest_23 : decode cX7_rest 23 = .ok (.iload_n 3, 1) := by decide +kernel
theorem dX7_rest_24 : decode cX7_rest 24 = .ok (.aload_n 0, 1) := by decide +kernel
theorem dX7_rest_25 : decode cX7_rest 25 = .ok (.getfield 82, 3) := by decide +kernel
theorem dX7_rest_28 : decode cX7_rest 28 = .ok (.if_icmp .ge 54, 3) := by decide +kernel
theorem dX7_rest_31 : decode cX7_rest 31 = .ok (.aload_n 0, 1) := by decide +kernel
theorem dX7_rest_32 : decode cX7_rest 32 = .ok (.getfield 46, 3) := by decide +kernel
theorem dX7_rest_35 : decode cX7_rest 35 = .ok (.iload_n 3, 1) := by decide +kernel
theorem dX7_rest_36 : decode cX7_rest 36 = .ok (.aload_n 0, 1) := by decide +kernel
theorem dX7_rest_37 : decode cX7_rest 37 = .ok (.getfield 46, 3) := by decide +kernel
theorem dX7_rest_40 : decode cX7_rest 40 = .ok (.iload_n 3, 1) := by decide +kernel
theorem dX7_rest_41 : decode cX7_rest 41 = .ok (.iaload, 1) := by decide +kernel
theorem dX7_rest_42 : decode cX7_rest 42 = .ok (.iload_n 1, 1) := by decide +kernel
theorem dX7_rest_43 : decode cX7_rest 43 = .ok (.if_icmp .le 14, 3) := by decide +kernel
theorem dX7_rest_46 : decode cX7_rest 46 = .ok (.aload_n 0, 1) := by decide +kernel
theorem dX7_rest_47 : decode cX7_rest 47 = .ok (.getfield 46, 3) := by decide +kernel
theorem dX7_rest_50 : decode cX7_rest 50 = .ok (.iload_n 3, 1) := by decide +kernel
theorem dX7_rest_51 : decode cX7_rest 51 = .ok (.iaload, 1) := by decide +kernel
theorem dX7_rest_52 : decode cX7_rest 52 = .ok (.iload_n 1, 1) := by decide +kernel
theorem dX7_rest_53 : decode cX7_rest 53 = .ok (.isub, 1) := by decide +kernel
theorem dX7_rest_54 : decode cX7_rest 54 = .ok (.goto 4, 3) := by decide +kernel
theorem dX7_rest_57 : decode cX7_rest 57 = .ok (.iconst 0, 1) := by decide +kernel
theorem dX7_rest_58 : decode cX7_rest 58 = .ok (.iastore, 1) := by decide +kernel
theorem dX7_rest_59 : decode cX7_rest 59 = .ok (.iload_n 2, 1) := by decide +kernel
theorem dX7_rest_60 : decode cX7_rest 60 = .ok (.aload_n 0, 1) := by decide +kernel
theorem dX7_rest_61 : decode cX7_rest 61 = .ok (.getfield 46, 3) := by decide +kernel
theorem dX7_rest_64 : decode cX7_rest 64 = .ok (.iload_n 3, 1) := by decide +kernel
theorem dX7_rest_65 : decode cX7_rest 65 = .ok (.iaload, 1) := by decide +kernel
theorem dX7_rest_66 : decode cX7_rest 66 = .ok (.ifCond .ne 7, 3) := by decide +kernel
theorem dX7_rest_69 : decode cX7_rest 69 = .ok (.iconst 1, 1) := by decide +kernel
theorem dX7_rest_70 : decode cX7_rest 70 = .ok (.goto 4, 3) := by decide +kernel
theorem dX7_rest_73 : decode cX7_rest 73 = .ok (.iconst 0, 1) := by decide +kernel
theorem dX7_rest_74 : decode cX7_rest 74 = .ok (.iadd, 1) := by decide +kernel
theorem dX7_rest_75 : decode cX7_rest 75 = .ok (.istore_n 2, 1) := by decide +kernel
theorem dX7_rest_76 : decode cX7_rest 76 = .ok (.iinc 3 1, 3) := by decide +kernel
theorem dX7_rest_79 : decode cX7_rest 79 = .ok (.goto (-56), 3) := by decide +kernel
theorem dX7_rest_82 : decode cX7_rest 82 = .ok (.iload_n 2, 1) := by decide +kernel
theorem dX7_rest_83 : decode cX7_rest 83 = .ok (.ireturn, 1) := by decide +kernel
theorem dX7_again_0 : decode cX7_again 0 = .ok (.aload_n 0, 1) := by decide +kernel
theorem dX7_again_1 : decode cX7_again 1 = .ok (.getfield 274, 3) := by decide +kernel
theorem dX7_again_4 : decode cX7_again 4 = .ok (.istore_n 1, 1) := by decide +kernel
theorem dX7_again_5 : decode cX7_again 5 = .ok (.aload_n 0, 1) := by decide +kernel
theorem dX7_again_6 : decode cX7_again 6 = .ok (.iconst 0, 1) := by decide +kernel
theorem dX7_again_7 : decode cX7_again 7 = .ok (.putfield 274, 3) := by decide +kernel
theorem dX7_again_10 : decode cX7_again 10 = .ok (.aload_n 0, 1) := by decide +kernel
theorem dX7_again_11 : decode cX7_again 11 = .ok (.iconst 0, 1) := by decide +kernel
theorem dX7_again_12 : decode cX7_again 12 = .ok (.putfield 148, 3) := by decide +kernel
theorem dX7_again_15 : decode cX7_again 15 = .ok (.iconst 0, 1) := by decide +kernel
theorem dX7_again_16 : decode cX7_again 16 = .ok (.istore_n 2, 1) := by decide +kernel
theorem dX7_again_17 : decode cX7_again 17 = .ok (.iload_n 2, 1) := by decide +kernel
theorem dX7_again_18 : decode cX7_again 18 = .ok (.aload_n 0, 1) := by decide +kernel
theorem dX7_again_19 : decode cX7_again 19 = .ok (.getfield 82, 3) := by decide +kernel
theorem dX7_again_22 : decode cX7_again 22 = .ok (.if_icmp .ge 16, 3) := by decide +kernel
theorem dX7_again_25 : decode cX7_again 25 = .ok (.aload_n 0, 1) := by decide +kernel
theorem dX7_again_26 : decode cX7_again 26 = .ok (.getfield 46, 3) := by decide +kernel
theorem dX7_again_29 : decode cX7_again 29 = .ok (.iload_n 2, 1) := by decide +kernel
theorem dX7_again_30 : decode cX7_again 30 = .ok (.iconst 0, 1) := by decide +kernel
theorem dX7_again_31 : decode cX7_again 31 = .ok (.iastore, 1) := by decide +kernel
theorem dX7_again_32 : decode cX7_again 32 = .ok (.iinc 2 1, 3) := by decide +kernel
theorem dX7_again_35 : decode cX7_again 35 = .ok (.goto (-18), 3) := by decide +kernel
theorem dX7_again_38 : decode cX7_again 38 = .ok (.iload_n 1, 1) := by decide +kernel
theorem dX7_again_39 : decode cX7_again 39 = .ok (.ireturn, 1) := by decide +kernel
theorem dX7_seed_0 : decode cX7_seed 0 = .ok (.aload_n 0, 1) := by decide +kernel
theorem dX7_seed_1 : decode cX7_seed 1 = .ok (.getfield 70, 3) := by decide +kernel
theorem dX7_seed_4 : decode cX7_seed 4 = .ok (.istore_n 2, 1) := by decide +kernel
theorem dX7_seed_5 : decode cX7_seed 5 = .ok (.aload_n 0, 1) := by decide +kernel
theorem dX7_seed_6 : decode cX7_seed 6 = .ok (.iload_n 1, 1) := by decide +kernel
theorem dX7_seed_7 : decode cX7_seed 7 = .ok (.putfield 70, 3) := by decide +kernel
theorem dX7_seed_10 : decode cX7_seed 10 = .ok (.iload_n 2, 1) := by decide +kernel
theorem dX7_seed_11 : decode cX7_seed 11 = .ok (.ireturn, 1) := by decide +kernel
theorem dX7_copied_0 : decode cX7_copied 0 = .ok (.iconst 0, 1) := by decide +kernel
theorem dX7_copied_1 : decode cX7_copied 1 = .ok (.istore_n 2, 1) := by decide +kernel
theorem dX7_copied_2 : decode cX7_copied 2 = .ok (.iload_n 2, 1) := by decide +kernel
theorem dX7_copied_3 : decode cX7_copied 3 = .ok (.aload_n 0, 1) := by decide +kernel
theorem dX7_copied_4 : decode cX7_copied 4 = .ok (.arraylength, 1) := by decide +kernel
theorem dX7_copied_5 : decode cX7_copied 5 = .ok (.if_icmp .ge 15, 3) := by decide +kernel
theorem dX7_copied_8 : decode cX7_copied 8 = .ok (.aload_n 1, 1) := by decide +kernel
theorem dX7_copied_9 : decode cX7_copied 9 = .ok (.iload_n 2, 1) := by decide +kernel
theorem dX7_copied_10 : decode cX7_copied 10 = .ok (.aload_n 0, 1) := by decide +kernel
theorem dX7_copied_11 : decode cX7_copied 11 = .ok (.iload_n 2, 1) := by decide +kernel
theorem dX7_copied_12 : decode cX7_copied 12 = .ok (.iaload, 1) := by decide +kernel
theorem dX7_copied_13 : decode cX7_copied 13 = .ok (.iastore, 1) := by decide +kernel
theorem dX7_copied_14 : decode cX7_copied 14 = .ok (.iinc 2 1, 3) := by decide +kernel
theorem dX7_copied_17 : decode cX7_copied 17 = .ok (.goto (-15), 3) := by decide +kernel
theorem dX7_copied_20 : decode cX7_copied 20 = .ok (.return_, 1) := by decide +kernel
theorem dX7_takeFrom_0 : decode cX7_takeFrom 0 = .ok (.aload_n 0, 1) := by decide +kernel
theorem dX7_takeFrom_1 : decode cX7_takeFrom 1 = .ok (.aload_n 1, 1) := by decide +kernel
theorem dX7_takeFrom_2 : decode cX7_takeFrom 2 = .ok (.getfield 82, 3) := by decide +kernel
theorem dX7_takeFrom_5 : decode cX7_takeFrom 5 = .ok (.putfield 82, 3) := by decide +kernel
theorem dX7_takeFrom_8 : decode cX7_takeFrom 8 = .ok (.aload_n 1, 1) := by decide +kernel
theorem dX7_takeFrom_9 : decode cX7_takeFrom 9 = .ok (.getfield 37, 3) := by decide +kernel
theorem dX7_takeFrom_12 : decode cX7_takeFrom 12 = .ok (.aload_n 0, 1) := by decide +kernel
theorem dX7_takeFrom_13 : decode cX7_takeFrom 13 = .ok (.getfield 37, 3) := by decide +kernel
theorem dX7_takeFrom_16 : decode cX7_takeFrom 16 = .ok (.invokestatic 360, 3) := by decide +kernel
theorem dX7_takeFrom_19 : decode cX7_takeFrom 19 = .ok (.aload_n 1, 1) := by decide +kernel
theorem dX7_takeFrom_20 : decode cX7_takeFrom 20 = .ok (.getfield 40, 3) := by decide +kernel
theorem dX7_takeFrom_23 : decode cX7_takeFrom 23 = .ok (.aload_n 0, 1) := by decide +kernel
theorem dX7_takeFrom_24 : decode cX7_takeFrom 24 = .ok (.getfield 40, 3) := by decide +kernel
theorem dX7_takeFrom_27 : decode cX7_takeFrom 27 = .ok (.invokestatic 360, 3) := by decide +kernel
theorem dX7_takeFrom_30 : decode cX7_takeFrom 30 = .ok (.aload_n 1, 1) := by decide +kernel
theorem dX7_takeFrom_31 : decode cX7_takeFrom 31 = .ok (.getfield 43, 3) := by decide +kernel
theorem dX7_takeFrom_34 : decode cX7_takeFrom 34 = .ok (.aload_n 0, 1) := by decide +kernel
theorem dX7_takeFrom_35 : decode cX7_takeFrom 35 = .ok (.getfield 43, 3) := by decide +kernel
theorem dX7_takeFrom_38 : decode cX7_takeFrom 38 = .ok (.invokestatic 360, 3) := by decide +kernel
theorem dX7_takeFrom_41 : decode cX7_takeFrom 41 = .ok (.aload_n 1, 1) := by decide +kernel
theorem dX7_takeFrom_42 : decode cX7_takeFrom 42 = .ok (.getfield 46, 3) := by decide +kernel
theorem dX7_takeFrom_45 : decode cX7_takeFrom 45 = .ok (.aload_n 0, 1) := by decide +kernel
theorem dX7_takeFrom_46 : decode cX7_takeFrom 46 = .ok (.getfield 46, 3) := by decide +kernel
theorem dX7_takeFrom_49 : decode cX7_takeFrom 49 = .ok (.invokestatic 360, 3) := by decide +kernel
theorem dX7_takeFrom_52 : decode cX7_takeFrom 52 = .ok (.aload_n 1, 1) := by decide +kernel
theorem dX7_takeFrom_53 : decode cX7_takeFrom 53 = .ok (.getfield 49, 3) := by decide +kernel
theorem dX7_takeFrom_56 : decode cX7_takeFrom 56 = .ok (.aload_n 0, 1) := by decide +kernel
theorem dX7_takeFrom_57 : decode cX7_takeFrom 57 = .ok (.getfield 49, 3) := by decide +kernel
theorem dX7_takeFrom_60 : decode cX7_takeFrom 60 = .ok (.invokestatic 360, 3) := by decide +kernel
theorem dX7_takeFrom_63 : decode cX7_takeFrom 63 = .ok (.aload_n 1, 1) := by decide +kernel
theorem dX7_takeFrom_64 : decode cX7_takeFrom 64 = .ok (.getfield 54, 3) := by decide +kernel
theorem dX7_takeFrom_67 : decode cX7_takeFrom 67 = .ok (.iconst 0, 1) := by decide +kernel
theorem dX7_takeFrom_68 : decode cX7_takeFrom 68 = .ok (.aaload, 1) := by decide +kernel
theorem dX7_takeFrom_69 : decode cX7_takeFrom 69 = .ok (.aload_n 0, 1) := by decide +kernel
theorem dX7_takeFrom_70 : decode cX7_takeFrom 70 = .ok (.getfield 54, 3) := by decide +kernel
theorem dX7_takeFrom_73 : decode cX7_takeFrom 73 = .ok (.iconst 0, 1) := by decide +kernel
theorem dX7_takeFrom_74 : decode cX7_takeFrom 74 = .ok (.aaload, 1) := by decide +kernel
theorem dX7_takeFrom_75 : decode cX7_takeFrom 75 = .ok (.invokestatic 360, 3) := by decide +kernel
theorem dX7_takeFrom_78 : decode cX7_takeFrom 78 = .ok (.aload_n 1, 1) := by decide +kernel
theorem dX7_takeFrom_79 : decode cX7_takeFrom 79 = .ok (.getfield 54, 3) := by decide +kernel
theorem dX7_takeFrom_82 : decode cX7_takeFrom 82 = .ok (.iconst 1, 1) := by decide +kernel
theorem dX7_takeFrom_83 : decode cX7_takeFrom 83 = .ok (.aaload, 1) := by decide +kernel
theorem dX7_takeFrom_84 : decode cX7_takeFrom 84 = .ok (.aload_n 0, 1) := by decide +kernel
theorem dX7_takeFrom_85 : decode cX7_takeFrom 85 = .ok (.getfield 54, 3) := by decide +kernel
theorem dX7_takeFrom_88 : decode cX7_takeFrom 88 = .ok (.iconst 1, 1) := by decide +kernel
theorem dX7_takeFrom_89 : decode cX7_takeFrom 89 = .ok (.aaload, 1) := by decide +kernel
theorem dX7_takeFrom_90 : decode cX7_takeFrom 90 = .ok (.invokestatic 360, 3) := by decide +kernel
theorem dX7_takeFrom_93 : decode cX7_takeFrom 93 = .ok (.aload_n 1, 1) := by decide +kernel
theorem dX7_takeFrom_94 : decode cX7_takeFrom 94 = .ok (.getfield 57, 3) := by decide +kernel
theorem dX7_takeFrom_97 : decode cX7_takeFrom 97 = .ok (.aload_n 0, 1) := by decide +kernel
theorem dX7_takeFrom_98 : decode cX7_takeFrom 98 = .ok (.getfield 57, 3) := by decide +kernel
theorem dX7_takeFrom_101 : decode cX7_takeFrom 101 = .ok (.invokestatic 360, 3) := by decide +kernel
theorem dX7_takeFrom_104 : decode cX7_takeFrom 104 = .ok (.aload_n 0, 1) := by decide +kernel
theorem dX7_takeFrom_105 : decode cX7_takeFrom 105 = .ok (.aload_n 1, 1) := by decide +kernel
theorem dX7_takeFrom_106 : decode cX7_takeFrom 106 = .ok (.getfield 60, 3) := by decide +kernel
theorem dX7_takeFrom_109 : decode cX7_takeFrom 109 = .ok (.putfield 60, 3) := by decide +kernel
theorem dX7_takeFrom_112 : decode cX7_takeFrom 112 = .ok (.aload_n 0, 1) := by decide +kernel
theorem dX7_takeFrom_113 : decode cX7_takeFrom 113 = .ok (.aload_n 1, 1) := by decide +kernel
theorem dX7_takeFrom_114 : decode cX7_takeFrom 114 = .ok (.getfield 64, 3) := by decide +kernel
theorem dX7_takeFrom_117 : decode cX7_takeFrom 117 = .ok (.putfield 64, 3) := by decide +kernel
theorem dX7_takeFrom_120 : decode cX7_takeFrom 120 = .ok (.aload_n 0, 1) := by decide +kernel
theorem dX7_takeFrom_121 : decode cX7_takeFrom 121 = .ok (.aload_n 1, 1) := by decide +kernel
theorem dX7_takeFrom_122 : decode cX7_takeFrom 122 = .ok (.getfield 145, 3) := by decide +kernel
theorem dX7_takeFrom_125 : decode cX7_takeFrom 125 = .ok (.putfield 145, 3) := by decide +kernel
theorem dX7_takeFrom_128 : decode cX7_takeFrom 128 = .ok (.aload_n 0, 1) := by decide +kernel
theorem dX7_takeFrom_129 : decode cX7_takeFrom 129 = .ok (.aload_n 1, 1) := by decide +kernel
theorem dX7_takeFrom_130 : decode cX7_takeFrom 130 = .ok (.getfield 67, 3) := by decide +kernel
theorem dX7_takeFrom_133 : decode cX7_takeFrom 133 = .ok (.putfield 67, 3) := by decide +kernel
theorem dX7_takeFrom_136 : decode cX7_takeFrom 136 = .ok (.aload_n 0, 1) := by decide +kernel
theorem dX7_takeFrom_137 : decode cX7_takeFrom 137 = .ok (.aload_n 1, 1) := by decide +kernel
theorem dX7_takeFrom_138 : decode cX7_takeFrom 138 = .ok (.getfield 148, 3) := by decide +kernel
theorem dX7_takeFrom_141 : decode cX7_takeFrom 141 = .ok (.putfield 148, 3) := by decide +kernel
theorem dX7_takeFrom_144 : decode cX7_takeFrom 144 = .ok (.aload_n 0, 1) := by decide +kernel
theorem dX7_takeFrom_145 : decode cX7_takeFrom 145 = .ok (.aload_n 1, 1) := by decide +kernel
theorem dX7_takeFrom_146 : decode cX7_takeFrom 146 = .ok (.getfield 274, 3) := by decide +kernel
theorem dX7_takeFrom_149 : decode cX7_takeFrom 149 = .ok (.putfield 274, 3) := by decide +kernel
theorem dX7_takeFrom_152 : decode cX7_takeFrom 152 = .ok (.aload_n 0, 1) := by decide +kernel
theorem dX7_takeFrom_153 : decode cX7_takeFrom 153 = .ok (.aload_n 1, 1) := by decide +kernel
theorem dX7_takeFrom_154 : decode cX7_takeFrom 154 = .ok (.getfield 70, 3) := by decide +kernel
theorem dX7_takeFrom_157 : decode cX7_takeFrom 157 = .ok (.putfield 70, 3) := by decide +kernel
theorem dX7_takeFrom_160 : decode cX7_takeFrom 160 = .ok (.return_, 1) := by decide +kernel
theorem dX7_image_0 : decode cX7_image 0 = .ok (.aload_n 0, 1) := by decide +kernel
theorem dX7_image_1 : decode cX7_image 1 = .ok (.getfield 364, 3) := by decide +kernel
theorem dX7_image_4 : decode cX7_image 4 = .ok (.ifnonnull 14, 3) := by decide +kernel
theorem dX7_image_7 : decode cX7_image 7 = .ok (.aload_n 0, 1) := by decide +kernel
theorem dX7_image_8 : decode cX7_image 8 = .ok (.new 8, 3) := by decide +kernel
theorem dX7_image_11 : decode cX7_image 11 = .ok (.dup, 1) := by decide +kernel
theorem dX7_image_12 : decode cX7_image 12 = .ok (.invokespecial 303, 3) := by decide +kernel
theorem dX7_image_15 : decode cX7_image 15 = .ok (.putfield 364, 3) := by decide +kernel
theorem dX7_image_18 : decode cX7_image 18 = .ok (.aload_n 0, 1) := by decide +kernel
theorem dX7_image_19 : decode cX7_image 19 = .ok (.getfield 364, 3) := by decide +kernel
theorem dX7_image_22 : decode cX7_image 22 = .ok (.aload_n 0, 1) := by decide +kernel
theorem dX7_image_23 : decode cX7_image 23 = .ok (.invokevirtual 257, 3) := by decide +kernel
theorem dX7_image_26 : decode cX7_image 26 = .ok (.iconst 1, 1) := by decide +kernel
theorem dX7_image_27 : decode cX7_image 27 = .ok (.ireturn, 1) := by decide +kernel
theorem dX7_back_0 : decode cX7_back 0 = .ok (.aload_n 0, 1) := by decide +kernel
theorem dX7_back_1 : decode cX7_back 1 = .ok (.getfield 364, 3) := by decide +kernel
theorem dX7_back_4 : decode cX7_back 4 = .ok (.ifnonnull 10, 3) := by decide +kernel
theorem dX7_back_7 : decode cX7_back 7 = .ok (.aload_n 0, 1) := by decide +kernel
theorem dX7_back_8 : decode cX7_back 8 = .ok (.bipush (-5), 2) := by decide +kernel
theorem dX7_back_10 : decode cX7_back 10 = .ok (.invokevirtual 99, 3) := by decide +kernel
theorem dX7_back_13 : decode cX7_back 13 = .ok (.ireturn, 1) := by decide +kernel
theorem dX7_back_14 : decode cX7_back 14 = .ok (.aload_n 0, 1) := by decide +kernel
theorem dX7_back_15 : decode cX7_back 15 = .ok (.aload_n 0, 1) := by decide +kernel
theorem dX7_back_16 : decode cX7_back 16 = .ok (.getfield 364, 3) := by decide +kernel
theorem dX7_back_19 : decode cX7_back 19 = .ok (.invokevirtual 257, 3) := by decide +kernel
theorem dX7_back_22 : decode cX7_back 22 = .ok (.iconst 0, 1) := by decide +kernel
theorem dX7_back_23 : decode cX7_back 23 = .ok (.istore_n 1, 1) := by decide +kernel
theorem dX7_back_24 : decode cX7_back 24 = .ok (.iload_n 1, 1) := by decide +kernel
theorem dX7_back_25 : decode cX7_back 25 = .ok (.bipush 8, 2) := by decide +kernel
theorem dX7_back_27 : decode cX7_back 27 = .ok (.if_icmp .ge 39, 3) := by decide +kernel
theorem dX7_back_30 : decode cX7_back 30 = .ok (.aload_n 0, 1) := by decide +kernel
theorem dX7_back_31 : decode cX7_back 31 = .ok (.getfield 7, 3) := by decide +kernel
theorem dX7_back_34 : decode cX7_back 34 = .ok (.iload_n 1, 1) := by decide +kernel
theorem dX7_back_35 : decode cX7_back 35 = .ok (.iaload, 1) := by decide +kernel
theorem dX7_back_36 : decode cX7_back 36 = .ok (.iconst 2, 1) := by decide +kernel
theorem dX7_back_37 : decode cX7_back 37 = .ok (.if_icmp .ne 23, 3) := by decide +kernel
theorem dX7_back_40 : decode cX7_back 40 = .ok (.aload_n 0, 1) := by decide +kernel
theorem dX7_back_41 : decode cX7_back 41 = .ok (.getfield 28, 3) := by decide +kernel
theorem dX7_back_44 : decode cX7_back 44 = .ok (.iload_n 1, 1) := by decide +kernel
theorem dX7_back_45 : decode cX7_back 45 = .ok (.iaload, 1) := by decide +kernel
theorem dX7_back_46 : decode cX7_back 46 = .ok (.aload_n 0, 1) := by decide +kernel
theorem dX7_back_47 : decode cX7_back 47 = .ok (.getfield 82, 3) := by decide +kernel
theorem dX7_back_50 : decode cX7_back 50 = .ok (.if_icmp .lt 10, 3) := by decide +kernel
theorem dX7_back_53 : decode cX7_back 53 = .ok (.aload_n 0, 1) := by decide +kernel
theorem dX7_back_54 : decode cX7_back 54 = .ok (.getfield 7, 3) := by decide +kernel
theorem dX7_back_57 : decode cX7_back 57 = .ok (.iload_n 1, 1) := by decide +kernel
theorem dX7_back_58 : decode cX7_back 58 = .ok (.iconst 0, 1) := by decide +kernel
theorem dX7_back_59 : decode cX7_back 59 = .ok (.iastore, 1) := by decide +kernel
theorem dX7_back_60 : decode cX7_back 60 = .ok (.iinc 1 1, 3) := by decide +kernel
theorem dX7_back_63 : decode cX7_back 63 = .ok (.goto (-39), 3) := by decide +kernel
theorem dX7_back_66 : decode cX7_back 66 = .ok (.iconst 1, 1) := by decide +kernel
theorem dX7_back_67 : decode cX7_back 67 = .ok (.ireturn, 1) := by decide +kernel
theorem dX7_status_0 : decode cX7_status 0 = .ok (.iconst 0, 1) := by decide +kernel
theorem dX7_status_1 : decode cX7_status 1 = .ok (.istore_n 2, 1) := by decide +kernel
theorem dX7_status_2 : decode cX7_status 2 = .ok (.iload_n 1, 1) := by decide +kernel
theorem dX7_status_3 : decode cX7_status 3 = .ok (.tableswitch 162 0 10 #[57, 62, 67, 72, 77, 82, 87, 92, 119, 124, 129], 57) := by decide +kernel
theorem dX7_status_60 : decode cX7_status 60 = .ok (.aload_n 0, 1) := by decide +kernel
theorem dX7_status_61 : decode cX7_status 61 = .ok (.getfield 82, 3) := by decide +kernel
theorem dX7_status_64 : decode cX7_status 64 = .ok (.ireturn, 1) := by decide +kernel
theorem dX7_status_65 : decode cX7_status 65 = .ok (.aload_n 0, 1) := by decide +kernel
theorem dX7_status_66 : decode cX7_status 66 = .ok (.getfield 274, 3) := by decide +kernel
theorem dX7_status_69 : decode cX7_status 69 = .ok (.ireturn, 1) := by decide +kernel
theorem dX7_status_70 : decode cX7_status 70 = .ok (.aload_n 0, 1) := by decide +kernel
theorem dX7_status_71 : decode cX7_status 71 = .ok (.getfield 148, 3) := by decide +kernel
theorem dX7_status_74 : decode cX7_status 74 = .ok (.ireturn, 1) := by decide +kernel
theorem dX7_status_75 : decode cX7_status 75 = .ok (.aload_n 0, 1) := by decide +kernel
theorem dX7_status_76 : decode cX7_status 76 = .ok (.getfield 60, 3) := by decide +kernel
theorem dX7_status_79 : decode cX7_status 79 = .ok (.ireturn, 1) := by decide +kernel
theorem dX7_status_80 : decode cX7_status 80 = .ok (.aload_n 0, 1) := by decide +kernel
theorem dX7_status_81 : decode cX7_status 81 = .ok (.getfield 64, 3) := by decide +kernel
theorem dX7_status_84 : decode cX7_status 84 = .ok (.ireturn, 1) := by decide +kernel
theorem dX7_status_85 : decode cX7_status 85 = .ok (.aload_n 0, 1) := by decide +kernel
theorem dX7_status_86 : decode cX7_status 86 = .ok (.getfield 145, 3) := by decide +kernel
theorem dX7_status_89 : decode cX7_status 89 = .ok (.ireturn, 1) := by decide +kernel
theorem dX7_status_90 : decode cX7_status 90 = .ok (.aload_n 0, 1) := by decide +kernel
theorem dX7_status_91 : decode cX7_status 91 = .ok (.getfield 67, 3) := by decide +kernel
theorem dX7_status_94 : decode cX7_status 94 = .ok (.ireturn, 1) := by decide +kernel
theorem dX7_status_95 : decode cX7_status 95 = .ok (.iconst 0, 1) := by decide +kernel
theorem dX7_status_96 : decode cX7_status 96 = .ok (.istore_n 3, 1) := by decide +kernel
theorem dX7_status_97 : decode cX7_status 97 = .ok (.iload_n 3, 1) := by decide +kernel
theorem dX7_status_98 : decode cX7_status 98 = .ok (.aload_n 0, 1) := by decide +kernel
theorem dX7_status_99 : decode cX7_status 99 = .ok (.getfield 82, 3) := by decide +kernel
theorem dX7_status_102 : decode cX7_status 102 = .ok (.if_icmp .ge 18, 3) := by decide +kernel
theorem dX7_status_105 : decode cX7_status 105 = .ok (.iload_n 2, 1) := by decide +kernel
theorem dX7_status_106 : decode cX7_status 106 = .ok (.aload_n 0, 1) := by decide +kernel
theorem dX7_status_107 : decode cX7_status 107 = .ok (.getfield 46, 3) := by decide +kernel
theorem dX7_status_110 : decode cX7_status 110 = .ok (.iload_n 3, 1) := by decide +kernel
theorem dX7_status_111 : decode cX7_status 111 = .ok (.iaload, 1) := by decide +kernel
theorem dX7_status_112 : decode cX7_status 112 = .ok (.iadd, 1) := by decide +kernel
theorem dX7_status_113 : decode cX7_status 113 = .ok (.istore_n 2, 1) := by decide +kernel
theorem dX7_status_114 : decode cX7_status 114 = .ok (.iinc 3 1, 3) := by decide +kernel
theorem dX7_status_117 : decode cX7_status 117 = .ok (.goto (-20), 3) := by decide +kernel
theorem dX7_status_120 : decode cX7_status 120 = .ok (.iload_n 2, 1) := by decide +kernel
theorem dX7_status_121 : decode cX7_status 121 = .ok (.ireturn, 1) := by decide +kernel
theorem dX7_status_122 : decode cX7_status 122 = .ok (.aload_n 0, 1) := by decide +kernel
theorem dX7_status_123 : decode cX7_status 123 = .ok (.getfield 163, 3) := by decide +kernel
theorem dX7_status_126 : decode cX7_status 126 = .ok (.ireturn, 1) := by decide +kernel
theorem dX7_status_127 : decode cX7_status 127 = .ok (.aload_n 0, 1) := by decide +kernel
theorem dX7_status_128 : decode cX7_status 128 = .ok (.getfield 70, 3) := by decide +kernel
theorem dX7_status_131 : decode cX7_status 131 = .ok (.ireturn, 1) := by decide +kernel
theorem dX7_status_132 : decode cX7_status 132 = .ok (.iconst 0, 1) := by decide +kernel
theorem dX7_status_133 : decode cX7_status 133 = .ok (.istore_n 3, 1) := by decide +kernel
theorem dX7_status_134 : decode cX7_status 134 = .ok (.iload_n 3, 1) := by decide +kernel
theorem dX7_status_135 : decode cX7_status 135 = .ok (.bipush 8, 2) := by decide +kernel
theorem dX7_status_137 : decode cX7_status 137 = .ok (.if_icmp .ge 26, 3) := by decide +kernel
theorem dX7_status_140 : decode cX7_status 140 = .ok (.iload_n 2, 1) := by decide +kernel
theorem dX7_status_141 : decode cX7_status 141 = .ok (.aload_n 0, 1) := by decide +kernel
theorem dX7_status_142 : decode cX7_status 142 = .ok (.getfield 7, 3) := by decide +kernel
theorem dX7_status_145 : decode cX7_status 145 = .ok (.iload_n 3, 1) := by decide +kernel
theorem dX7_status_146 : decode cX7_status 146 = .ok (.iaload, 1) := by decide +kernel
theorem dX7_status_147 : decode cX7_status 147 = .ok (.ifCond .eq 7, 3) := by decide +kernel
theorem dX7_status_150 : decode cX7_status 150 = .ok (.iconst 1, 1) := by decide +kernel
theorem dX7_status_151 : decode cX7_status 151 = .ok (.goto 4, 3) := by decide +kernel
theorem dX7_status_154 : decode cX7_status 154 = .ok (.iconst 0, 1) := by decide +kernel
theorem dX7_status_155 : decode cX7_status 155 = .ok (.iadd, 1) := by decide +kernel
theorem dX7_status_156 : decode cX7_status 156 = .ok (.istore_n 2, 1) := by decide +kernel
theorem dX7_status_157 : decode cX7_status 157 = .ok (.iinc 3 1, 3) := by decide +kernel
theorem dX7_status_160 : decode cX7_status 160 = .ok (.goto (-26), 3) := by decide +kernel
theorem dX7_status_163 : decode cX7_status 163 = .ok (.iload_n 2, 1) := by decide +kernel
theorem dX7_status_164 : decode cX7_status 164 = .ok (.ireturn, 1) := by decide +kernel
theorem dX7_status_165 : decode cX7_status 165 = .ok (.iload_n 1, 1) := by decide +kernel
theorem dX7_status_166 : decode cX7_status 166 = .ok (.i2l, 1) := by decide +kernel
theorem dX7_status_167 : decode cX7_status 167 = .ok (.ldc2_w 367, 3) := by decide +kernel
theorem dX7_status_170 : decode cX7_status 170 = .ok (.ldc2_w 369, 3) := by decide +kernel
theorem dX7_status_173 : decode cX7_status 173 = .ok (.invokestatic 85, 3) := by decide +kernel
theorem dX7_status_176 : decode cX7_status 176 = .ok (.ifCond .eq 15, 3) := by decide +kernel
theorem dX7_status_179 : decode cX7_status 179 = .ok (.aload_n 0, 1) := by decide +kernel
theorem dX7_status_180 : decode cX7_status 180 = .ok (.getfield 34, 3) := by decide +kernel
theorem dX7_status_183 : decode cX7_status 183 = .ok (.iload_n 1, 1) := by decide +kernel
theorem dX7_status_184 : decode cX7_status 184 = .ok (.bipush 10, 2) := by decide +kernel
theorem dX7_status_186 : decode cX7_status 186 = .ok (.isub, 1) := by decide +kernel
theorem dX7_status_187 : decode cX7_status 187 = .ok (.iaload, 1) := by decide +kernel
theorem dX7_status_188 : decode cX7_status 188 = .ok (.goto 4, 3) := by decide +kernel
theorem dX7_status_191 : decode cX7_status 191 = .ok (.iconst (-1), 1) := by decide +kernel
theorem dX7_status_192 : decode cX7_status 192 = .ok (.ireturn, 1) := by decide +kernel
theorem dL_law_0 : decode cL_law 0 = .ok (.new 7, 3) := by decide +kernel
theorem dL_law_3 : decode cL_law 3 = .ok (.dup, 1) := by decide +kernel
theorem dL_law_4 : decode cL_law 4 = .ok (.invokespecial 9, 3) := by decide +kernel
theorem dL_law_7 : decode cL_law 7 = .ok (.astore_n 1, 1) := by decide +kernel
theorem dL_law_8 : decode cL_law 8 = .ok (.new 10, 3) := by decide +kernel
theorem dL_law_11 : decode cL_law 11 = .ok (.dup, 1) := by decide +kernel
theorem dL_law_12 : decode cL_law 12 = .ok (.invokespecial 12, 3) := by decide +kernel
theorem dL_law_15 : decode cL_law 15 = .ok (.astore_n 2, 1) := by decide +kernel
theorem dL_law_16 : decode cL_law 16 = .ok (.iconst 0, 1) := by decide +kernel
theorem dL_law_17 : decode cL_law 17 = .ok (.istore_n 3, 1) := by decide +kernel
theorem dL_law_18 : decode cL_law 18 = .ok (.iload_n 3, 1) := by decide +kernel
theorem dL_law_19 : decode cL_law 19 = .ok (.aload_n 0, 1) := by decide +kernel
theorem dL_law_20 : decode cL_law 20 = .ok (.arraylength, 1) := by decide +kernel
theorem dL_law_21 : decode cL_law 21 = .ok (.bipush 6, 2) := by decide +kernel
theorem dL_law_23 : decode cL_law 23 = .ok (.isub, 1) := by decide +kernel
theorem dL_law_24 : decode cL_law 24 = .ok (.if_icmp .gt 1725, 3) := by decide +kernel
theorem dL_law_27 : decode cL_law 27 = .ok (.aload_n 0, 1) := by decide +kernel
theorem dL_law_28 : decode cL_law 28 = .ok (.iload_n 3, 1) := by decide +kernel
theorem dL_law_29 : decode cL_law 29 = .ok (.iaload, 1) := by decide +kernel
theorem dL_law_30 : decode cL_law 30 = .ok (.bipush 63, 2) := by decide +kernel
theorem dL_law_32 : decode cL_law 32 = .ok (.iand, 1) := by decide +kernel
theorem dL_law_33 : decode cL_law 33 = .ok (.tableswitch 1710 0 51 #[223, 266, 339, 402, 436, 459, 492, 525, 588, 631, 664, 687, 700, 713, 746, 779, 812, 835, 858, 881, 914, 937, 960, 973, 986, 999, 1032, 1065, 1088, 1121, 1134, 1147, 1180, 1213, 1236, 1259, 1282, 1305, 1338, 1371, 1404, 1447, 1480, 1513, 1536, 1579, 1602, 1625, 1638, 1661, 1674, 1687], 223) := by decide +kernel
theorem dL_law_256 : decode cL_law 256 = .ok (.aload_n 1, 1) := by decide +kernel
theorem dL_law_257 : decode cL_law 257 = .ok (.aload_n 0, 1) := by decide +kernel
theorem dL_law_258 : decode cL_law 258 = .ok (.iload_n 3, 1) := by decide +kernel
theorem dL_law_259 : decode cL_law 259 = .ok (.iconst 1, 1) := by decide +kernel
theorem dL_law_260 : decode cL_law 260 = .ok (.iadd, 1) := by decide +kernel
theorem dL_law_261 : decode cL_law 261 = .ok (.iaload, 1) := by decide +kernel
theorem dL_law_262 : decode cL_law 262 = .ok (.aload_n 0, 1) := by decide +kernel
theorem dL_law_263 : decode cL_law 263 = .ok (.iload_n 3, 1) := by decide +kernel
theorem dL_law_264 : decode cL_law 264 = .ok (.iconst 2, 1) := by decide +kernel
theorem dL_law_265 : decode cL_law 265 = .ok (.iadd, 1) := by decide +kernel
theorem dL_law_266 : decode cL_law 266 = .ok (.iaload, 1) := by decide +kernel
theorem dL_law_267 : decode cL_law 267 = .ok (.aload_n 0, 1) := by decide +kernel
theorem dL_law_268 : decode cL_law 268 = .ok (.iload_n 3, 1) := by decide +kernel
theorem dL_law_269 : decode cL_law 269 = .ok (.iconst 3, 1) := by decide +kernel
theorem dL_law_270 : decode cL_law 270 = .ok (.iadd, 1) := by decide +kernel
theorem dL_law_271 : decode cL_law 271 = .ok (.iaload, 1) := by decide +kernel
theorem dL_law_272 : decode cL_law 272 = .ok (.invokevirtual 13, 3) := by decide +kernel
theorem dL_law_275 : decode cL_law 275 = .ok (.aload_n 2, 1) := by decide +kernel
theorem dL_law_276 : decode cL_law 276 = .ok (.aload_n 0, 1) := by decide +kernel
theorem dL_law_277 : decode cL_law 277 = .ok (.iload_n 3, 1) := by decide +kernel
theorem dL_law_278 : decode cL_law 278 = .ok (.iconst 1, 1) := by decide +kernel
theorem dL_law_279 : decode cL_law 279 = .ok (.iadd, 1) := by decide +kernel
theorem dL_law_280 : decode cL_law 280 = .ok (.iaload, 1) := by decide +kernel
theorem dL_law_281 : decode cL_law 281 = .ok (.aload_n 0, 1) := by decide +kernel
theorem dL_law_282 : decode cL_law 282 = .ok (.iload_n 3, 1) := by decide +kernel
theorem dL_law_283 : decode cL_law 283 = .ok (.iconst 2, 1) := by decide +kernel
theorem dL_law_284 : decode cL_law 284 = .ok (.iadd, 1) := by decide +kernel
theorem dL_law_285 : decode cL_law 285 = .ok (.iaload, 1) := by decide +kernel
theorem dL_law_286 : decode cL_law 286 = .ok (.aload_n 0, 1) := by decide +kernel
theorem dL_law_287 : decode cL_law 287 = .ok (.iload_n 3, 1) := by decide +kernel
theorem dL_law_288 : decode cL_law 288 = .ok (.iconst 3, 1) := by decide +kernel
theorem dL_law_289 : decode cL_law 289 = .ok (.iadd, 1) := by decide +kernel
theorem dL_law_290 : decode cL_law 290 = .ok (.iaload, 1) := by decide +kernel
theorem dL_law_291 : decode cL_law 291 = .ok (.invokevirtual 17, 3) := by decide +kernel
theorem dL_law_294 : decode cL_law 294 = .ok (.if_icmp .eq 1449, 3) := by decide +kernel
theorem dL_law_297 : decode cL_law 297 = .ok (.iconst 0, 1) := by decide +kernel
theorem dL_law_298 : decode cL_law 298 = .ok (.ireturn, 1) := by decide +kernel
theorem dL_law_299 : decode cL_law 299 = .ok (.aload_n 1, 1) := by decide +kernel
theorem dL_law_300 : decode cL_law 300 = .ok (.aload_n 0, 1) := by decide +kernel
theorem dL_law_301 : decode cL_law 301 = .ok (.iload_n 3, 1) := by decide +kernel
theorem dL_law_302 : decode cL_law 302 = .ok (.iconst 1, 1) := by decide +kernel
theorem dL_law_303 : decode cL_law 303 = .ok (.iadd, 1) := by decide +kernel
theorem dL_law_304 : decode cL_law 304 = .ok (.iaload, 1) := by decide +kernel
theorem dL_law_305 : decode cL_law 305 = .ok (.aload_n 0, 1) := by decide +kernel
theorem dL_law_306 : decode cL_law 306 = .ok (.iload_n 3, 1) := by decide +kernel
theorem dL_law_307 : decode cL_law 307 = .ok (.iconst 2, 1) := by decide +kernel
theorem dL_law_308 : decode cL_law 308 = .ok (.iadd, 1) := by decide +kernel
theorem dL_law_309 : decode cL_law 309 = .ok (.iaload, 1) := by decide +kernel
theorem dL_law_310 : decode cL_law 310 = .ok (.aload_n 0, 1) := by decide +kernel
theorem dL_law_311 : decode cL_law 311 = .ok (.iload_n 3, 1) := by decide +kernel
theorem dL_law_312 : decode cL_law 312 = .ok (.iconst 3, 1) := by decide +kernel
theorem dL_law_313 : decode cL_law 313 = .ok (.iadd, 1) := by decide +kernel
theorem dL_law_314 : decode cL_law 314 = .ok (.iaload, 1) := by decide +kernel
theorem dL_law_315 : decode cL_law 315 = .ok (.i2l, 1) := by decide +kernel
theorem dL_law_316 : decode cL_law 316 = .ok (.bipush 32, 2) := by decide +kernel
theorem dL_law_318 : decode cL_law 318 = .ok (.lshl, 1) := by decide +kernel
theorem dL_law_319 : decode cL_law 319 = .ok (.aload_n 0, 1) := by decide +kernel
theorem dL_law_320 : decode cL_law 320 = .ok (.iload_n 3, 1) := by decide +kernel
theorem dL_law_321 : decode cL_law 321 = .ok (.iconst 4, 1) := by decide +kernel
theorem dL_law_322 : decode cL_law 322 = .ok (.iadd, 1) := by decide +kernel
theorem dL_law_323 : decode cL_law 323 = .ok (.iaload, 1) := by decide +kernel
theorem dL_law_324 : decode cL_law 324 = .ok (.i2l, 1) := by decide +kernel
theorem dL_law_325 : decode cL_law 325 = .ok (.ldc2_w 18, 3) := by decide +kernel
theorem dL_law_328 : decode cL_law 328 = .ok (.land, 1) := by decide +kernel
theorem dL_law_329 : decode cL_law 329 = .ok (.lor, 1) := by decide +kernel
theorem dL_law_330 : decode cL_law 330 = .ok (.invokevirtual 20, 3) := by decide +kernel
theorem dL_law_333 : decode cL_law 333 = .ok (.aload_n 2, 1) := by decide +kernel
theorem dL_law_334 : decode cL_law 334 = .ok (.aload_n 0, 1) := by decide +kernel
theorem dL_law_335 : decode cL_law 335 = .ok (.iload_n 3, 1) := by decide +kernel
theorem dL_law_336 : decode cL_law 336 = .ok (.iconst 1, 1) := by decide +kernel
theorem dL_law_337 : decode cL_law 337 = .ok (.iadd, 1) := by decide +kernel
theorem dL_law_338 : decode cL_law 338 = .ok (.iaload, 1) := by decide +kernel
theorem dL_law_339 : decode cL_law 339 = .ok (.aload_n 0, 1) := by decide +kernel
theorem dL_law_340 : decode cL_law 340 = .ok (.iload_n 3, 1) := by decide +kernel
theorem dL_law_341 : decode cL_law 341 = .ok (.iconst 2, 1) := by decide +kernel
theorem dL_law_342 : decode cL_law 342 = .ok (.iadd, 1) := by decide +kernel
theorem dL_law_343 : decode cL_law 343 = .ok (.iaload, 1) := by decide +kernel
theorem dL_law_344 : decode cL_law 344 = .ok (.aload_n 0, 1) := by decide +kernel
theorem dL_law_345 : decode cL_law 345 = .ok (.iload_n 3, 1) := by decide +kernel
theorem dL_law_346 : decode cL_law 346 = .ok (.iconst 3, 1) := by decide +kernel
theorem dL_law_347 : decode cL_law 347 = .ok (.iadd, 1) := by decide +kernel
theorem dL_law_348 : decode cL_law 348 = .ok (.iaload, 1) := by decide +kernel
theorem dL_law_349 : decode cL_law 349 = .ok (.i2l, 1) := by decide +kernel
theorem dL_law_350 : decode cL_law 350 = .ok (.bipush 32, 2) := by decide +kernel
