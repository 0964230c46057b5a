theorem dX6_runs_19 : decode cX6_runs 19 = .ok (.istore_n 2, 1) := by decide +kernel
theorem dX6_runs_20 : decode cX6_runs 20 = .ok (.iconst 0, 1) := by decide +kernel
theorem dX6_runs_21 : decode cX6_runs 21 = .ok (.istore_n 3, 1) := by decide +kernel
theorem dX6_runs_22 : decode cX6_runs 22 = .ok (.iload_n 3, 1) := by decide +kernel
theorem dX6_runs_23 : decode cX6_runs 23 = .ok (.iload_n 1, 1) := by decide +kernel
theorem dX6_runs_24 : decode cX6_runs 24 = .ok (.if_icmp .ge 66, 3) := by decide +kernel
theorem dX6_runs_27 : decode cX6_runs 27 = .ok (.aload_n 0, 1) := by decide +kernel
theorem dX6_runs_28 : decode cX6_runs 28 = .ok (.getfield 10, 3) := by decide +kernel
theorem dX6_runs_31 : decode cX6_runs 31 = .ok (.invokevirtual 229, 3) := by decide +kernel
theorem dX6_runs_34 : decode cX6_runs 34 = .ok (.ifCond .ne 56, 3) := by decide +kernel
theorem dX6_runs_37 : decode cX6_runs 37 = .ok (.aload_n 0, 1) := by decide +kernel
theorem dX6_runs_38 : decode cX6_runs 38 = .ok (.getfield 10, 3) := by decide +kernel
theorem dX6_runs_41 : decode cX6_runs 41 = .ok (.iconst 0, 1) := by decide +kernel
theorem dX6_runs_42 : decode cX6_runs 42 = .ok (.invokevirtual 238, 3) := by decide +kernel
theorem dX6_runs_45 : decode cX6_runs 45 = .ok (.istore 4, 2) := by decide +kernel
theorem dX6_runs_47 : decode cX6_runs 47 = .ok (.aload_n 0, 1) := by decide +kernel
theorem dX6_runs_48 : decode cX6_runs 48 = .ok (.getfield 10, 3) := by decide +kernel
theorem dX6_runs_51 : decode cX6_runs 51 = .ok (.iload 4, 2) := by decide +kernel
theorem dX6_runs_53 : decode cX6_runs 53 = .ok (.invokevirtual 232, 3) := by decide +kernel
theorem dX6_runs_56 : decode cX6_runs 56 = .ok (.istore 5, 2) := by decide +kernel
theorem dX6_runs_58 : decode cX6_runs 58 = .ok (.aload_n 0, 1) := by decide +kernel
theorem dX6_runs_59 : decode cX6_runs 59 = .ok (.getfield 10, 3) := by decide +kernel
theorem dX6_runs_62 : decode cX6_runs 62 = .ok (.iload 4, 2) := by decide +kernel
theorem dX6_runs_64 : decode cX6_runs 64 = .ok (.iload 5, 2) := by decide +kernel
theorem dX6_runs_66 : decode cX6_runs 66 = .ok (.aload_n 0, 1) := by decide +kernel
theorem dX6_runs_67 : decode cX6_runs 67 = .ok (.getfield 10, 3) := by decide +kernel
theorem dX6_runs_70 : decode cX6_runs 70 = .ok (.iload 5, 2) := by decide +kernel
theorem dX6_runs_72 : decode cX6_runs 72 = .ok (.invokevirtual 235, 3) := by decide +kernel
theorem dX6_runs_75 : decode cX6_runs 75 = .ok (.invokevirtual 310, 3) := by decide +kernel
theorem dX6_runs_78 : decode cX6_runs 78 = .ok (.ifCond .eq 6, 3) := by decide +kernel
theorem dX6_runs_81 : decode cX6_runs 81 = .ok (.iinc 2 1, 3) := by decide +kernel
theorem dX6_runs_84 : decode cX6_runs 84 = .ok (.iinc 3 1, 3) := by decide +kernel
theorem dX6_runs_87 : decode cX6_runs 87 = .ok (.goto (-65), 3) := by decide +kernel
theorem dX6_runs_90 : decode cX6_runs 90 = .ok (.iload_n 2, 1) := by decide +kernel
theorem dX6_runs_91 : decode cX6_runs 91 = .ok (.ireturn, 1) := by decide +kernel
theorem dX6_rest_0 : decode cX6_rest 0 = .ok (.iload_n 1, 1) := by decide +kernel
theorem dX6_rest_1 : decode cX6_rest 1 = .ok (.invokestatic 135, 3) := by decide +kernel
theorem dX6_rest_4 : decode cX6_rest 4 = .ok (.ifCond .ne 10, 3) := by decide +kernel
theorem dX6_rest_7 : decode cX6_rest 7 = .ok (.aload_n 0, 1) := by decide +kernel
theorem dX6_rest_8 : decode cX6_rest 8 = .ok (.bipush (-2), 2) := by decide +kernel
theorem dX6_rest_10 : decode cX6_rest 10 = .ok (.invokevirtual 67, 3) := by decide +kernel
theorem dX6_rest_13 : decode cX6_rest 13 = .ok (.ireturn, 1) := by decide +kernel
theorem dX6_rest_14 : decode cX6_rest 14 = .ok (.aload_n 0, 1) := by decide +kernel
theorem dX6_rest_15 : decode cX6_rest 15 = .ok (.getfield 10, 3) := by decide +kernel
theorem dX6_rest_18 : decode cX6_rest 18 = .ok (.iload_n 1, 1) := by decide +kernel
theorem dX6_rest_19 : decode cX6_rest 19 = .ok (.invokevirtual 314, 3) := by decide +kernel
theorem dX6_rest_22 : decode cX6_rest 22 = .ok (.ireturn, 1) := by decide +kernel
theorem dX6_again_0 : decode cX6_again 0 = .ok (.aload_n 0, 1) := by decide +kernel
theorem dX6_again_1 : decode cX6_again 1 = .ok (.getfield 10, 3) := by decide +kernel
theorem dX6_again_4 : decode cX6_again 4 = .ok (.getfield 303, 3) := by decide +kernel
theorem dX6_again_7 : decode cX6_again 7 = .ok (.istore_n 1, 1) := by decide +kernel
theorem dX6_again_8 : decode cX6_again 8 = .ok (.aload_n 0, 1) := by decide +kernel
theorem dX6_again_9 : decode cX6_again 9 = .ok (.getfield 10, 3) := by decide +kernel
theorem dX6_again_12 : decode cX6_again 12 = .ok (.iconst 0, 1) := by decide +kernel
theorem dX6_again_13 : decode cX6_again 13 = .ok (.putfield 303, 3) := by decide +kernel
theorem dX6_again_16 : decode cX6_again 16 = .ok (.aload_n 0, 1) := by decide +kernel
theorem dX6_again_17 : decode cX6_again 17 = .ok (.getfield 10, 3) := by decide +kernel
theorem dX6_again_20 : decode cX6_again 20 = .ok (.iconst 0, 1) := by decide +kernel
theorem dX6_again_21 : decode cX6_again 21 = .ok (.putfield 169, 3) := by decide +kernel
theorem dX6_again_24 : decode cX6_again 24 = .ok (.aload_n 0, 1) := by decide +kernel
theorem dX6_again_25 : decode cX6_again 25 = .ok (.getfield 10, 3) := by decide +kernel
theorem dX6_again_28 : decode cX6_again 28 = .ok (.bipush 20, 2) := by decide +kernel
theorem dX6_again_30 : decode cX6_again 30 = .ok (.invokevirtual 314, 3) := by decide +kernel
theorem dX6_again_33 : decode cX6_again 33 = .ok (.pop, 1) := by decide +kernel
theorem dX6_again_34 : decode cX6_again 34 = .ok (.iload_n 1, 1) := by decide +kernel
theorem dX6_again_35 : decode cX6_again 35 = .ok (.ireturn, 1) := by decide +kernel
theorem dX6_seed_0 : decode cX6_seed 0 = .ok (.aload_n 0, 1) := by decide +kernel
theorem dX6_seed_1 : decode cX6_seed 1 = .ok (.getfield 10, 3) := by decide +kernel
theorem dX6_seed_4 : decode cX6_seed 4 = .ok (.getfield 317, 3) := by decide +kernel
theorem dX6_seed_7 : decode cX6_seed 7 = .ok (.istore_n 2, 1) := by decide +kernel
theorem dX6_seed_8 : decode cX6_seed 8 = .ok (.aload_n 0, 1) := by decide +kernel
theorem dX6_seed_9 : decode cX6_seed 9 = .ok (.getfield 10, 3) := by decide +kernel
theorem dX6_seed_12 : decode cX6_seed 12 = .ok (.iload_n 1, 1) := by decide +kernel
theorem dX6_seed_13 : decode cX6_seed 13 = .ok (.putfield 317, 3) := by decide +kernel
theorem dX6_seed_16 : decode cX6_seed 16 = .ok (.iload_n 2, 1) := by decide +kernel
theorem dX6_seed_17 : decode cX6_seed 17 = .ok (.ireturn, 1) := by decide +kernel
theorem dX6_image_0 : decode cX6_image 0 = .ok (.aload_n 0, 1) := by decide +kernel
theorem dX6_image_1 : decode cX6_image 1 = .ok (.getfield 16, 3) := by decide +kernel
theorem dX6_image_4 : decode cX6_image 4 = .ok (.aload_n 0, 1) := by decide +kernel
theorem dX6_image_5 : decode cX6_image 5 = .ok (.getfield 10, 3) := by decide +kernel
theorem dX6_image_8 : decode cX6_image 8 = .ok (.invokevirtual 180, 3) := by decide +kernel
theorem dX6_image_11 : decode cX6_image 11 = .ok (.aload_n 0, 1) := by decide +kernel
theorem dX6_image_12 : decode cX6_image 12 = .ok (.iconst 1, 1) := by decide +kernel
theorem dX6_image_13 : decode cX6_image 13 = .ok (.putfield 320, 3) := by decide +kernel
theorem dX6_image_16 : decode cX6_image 16 = .ok (.iconst 1, 1) := by decide +kernel
theorem dX6_image_17 : decode cX6_image 17 = .ok (.ireturn, 1) := by decide +kernel
theorem dX6_back_0 : decode cX6_back 0 = .ok (.aload_n 0, 1) := by decide +kernel
theorem dX6_back_1 : decode cX6_back 1 = .ok (.getfield 320, 3) := by decide +kernel
theorem dX6_back_4 : decode cX6_back 4 = .ok (.ifCond .ne 10, 3) := by decide +kernel
theorem dX6_back_7 : decode cX6_back 7 = .ok (.aload_n 0, 1) := by decide +kernel
theorem dX6_back_8 : decode cX6_back 8 = .ok (.bipush (-5), 2) := by decide +kernel
theorem dX6_back_10 : decode cX6_back 10 = .ok (.invokevirtual 67, 3) := by decide +kernel
theorem dX6_back_13 : decode cX6_back 13 = .ok (.ireturn, 1) := by decide +kernel
theorem dX6_back_14 : decode cX6_back 14 = .ok (.aload_n 0, 1) := by decide +kernel
theorem dX6_back_15 : decode cX6_back 15 = .ok (.getfield 10, 3) := by decide +kernel
theorem dX6_back_18 : decode cX6_back 18 = .ok (.aload_n 0, 1) := by decide +kernel
theorem dX6_back_19 : decode cX6_back 19 = .ok (.getfield 16, 3) := by decide +kernel
theorem dX6_back_22 : decode cX6_back 22 = .ok (.invokevirtual 180, 3) := by decide +kernel
theorem dX6_back_25 : decode cX6_back 25 = .ok (.iconst 0, 1) := by decide +kernel
theorem dX6_back_26 : decode cX6_back 26 = .ok (.istore_n 1, 1) := by decide +kernel
theorem dX6_back_27 : decode cX6_back 27 = .ok (.iload_n 1, 1) := by decide +kernel
theorem dX6_back_28 : decode cX6_back 28 = .ok (.bipush 8, 2) := by decide +kernel
theorem dX6_back_30 : decode cX6_back 30 = .ok (.if_icmp .ge 53, 3) := by decide +kernel
theorem dX6_back_33 : decode cX6_back 33 = .ok (.aload_n 0, 1) := by decide +kernel
theorem dX6_back_34 : decode cX6_back 34 = .ok (.getfield 54, 3) := by decide +kernel
theorem dX6_back_37 : decode cX6_back 37 = .ok (.iload_n 1, 1) := by decide +kernel
theorem dX6_back_38 : decode cX6_back 38 = .ok (.aaload, 1) := by decide +kernel
theorem dX6_back_39 : decode cX6_back 39 = .ok (.invokevirtual 90, 3) := by decide +kernel
theorem dX6_back_42 : decode cX6_back 42 = .ok (.ifCond .eq 35, 3) := by decide +kernel
theorem dX6_back_45 : decode cX6_back 45 = .ok (.aload_n 0, 1) := by decide +kernel
theorem dX6_back_46 : decode cX6_back 46 = .ok (.getfield 10, 3) := by decide +kernel
theorem dX6_back_49 : decode cX6_back 49 = .ok (.aload_n 0, 1) := by decide +kernel
theorem dX6_back_50 : decode cX6_back 50 = .ok (.getfield 54, 3) := by decide +kernel
theorem dX6_back_53 : decode cX6_back 53 = .ok (.iload_n 1, 1) := by decide +kernel
theorem dX6_back_54 : decode cX6_back 54 = .ok (.aaload, 1) := by decide +kernel
theorem dX6_back_55 : decode cX6_back 55 = .ok (.getfield 87, 3) := by decide +kernel
theorem dX6_back_58 : decode cX6_back 58 = .ok (.bipush 10, 2) := by decide +kernel
theorem dX6_back_60 : decode cX6_back 60 = .ok (.isub, 1) := by decide +kernel
theorem dX6_back_61 : decode cX6_back 61 = .ok (.invokevirtual 111, 3) := by decide +kernel
theorem dX6_back_64 : decode cX6_back 64 = .ok (.ifCond .ne 13, 3) := by decide +kernel
theorem dX6_back_67 : decode cX6_back 67 = .ok (.aload_n 0, 1) := by decide +kernel
theorem dX6_back_68 : decode cX6_back 68 = .ok (.getfield 54, 3) := by decide +kernel
theorem dX6_back_71 : decode cX6_back 71 = .ok (.iload_n 1, 1) := by decide +kernel
theorem dX6_back_72 : decode cX6_back 72 = .ok (.aaload, 1) := by decide +kernel
theorem dX6_back_73 : decode cX6_back 73 = .ok (.iconst (-1), 1) := by decide +kernel
theorem dX6_back_74 : decode cX6_back 74 = .ok (.putfield 87, 3) := by decide +kernel
theorem dX6_back_77 : decode cX6_back 77 = .ok (.iinc 1 1, 3) := by decide +kernel
theorem dX6_back_80 : decode cX6_back 80 = .ok (.goto (-53), 3) := by decide +kernel
theorem dX6_back_83 : decode cX6_back 83 = .ok (.iconst 1, 1) := by decide +kernel
theorem dX6_back_84 : decode cX6_back 84 = .ok (.ireturn, 1) := by decide +kernel
theorem dX6_status_0 : decode cX6_status 0 = .ok (.iload_n 1, 1) := by decide +kernel
theorem dX6_status_1 : decode cX6_status 1 = .ok (.tableswitch 144 0 10 #[59, 67, 75, 83, 91, 99, 107, 115, 123, 131, 139], 59) := by decide +kernel
theorem dX6_status_60 : decode cX6_status 60 = .ok (.aload_n 0, 1) := by decide +kernel
theorem dX6_status_61 : decode cX6_status 61 = .ok (.getfield 10, 3) := by decide +kernel
theorem dX6_status_64 : decode cX6_status 64 = .ok (.getfield 138, 3) := by decide +kernel
theorem dX6_status_67 : decode cX6_status 67 = .ok (.ireturn, 1) := by decide +kernel
theorem dX6_status_68 : decode cX6_status 68 = .ok (.aload_n 0, 1) := by decide +kernel
theorem dX6_status_69 : decode cX6_status 69 = .ok (.getfield 10, 3) := by decide +kernel
theorem dX6_status_72 : decode cX6_status 72 = .ok (.getfield 303, 3) := by decide +kernel
theorem dX6_status_75 : decode cX6_status 75 = .ok (.ireturn, 1) := by decide +kernel
theorem dX6_status_76 : decode cX6_status 76 = .ok (.aload_n 0, 1) := by decide +kernel
theorem dX6_status_77 : decode cX6_status 77 = .ok (.getfield 10, 3) := by decide +kernel
theorem dX6_status_80 : decode cX6_status 80 = .ok (.getfield 169, 3) := by decide +kernel
theorem dX6_status_83 : decode cX6_status 83 = .ok (.ireturn, 1) := by decide +kernel
theorem dX6_status_84 : decode cX6_status 84 = .ok (.aload_n 0, 1) := by decide +kernel
theorem dX6_status_85 : decode cX6_status 85 = .ok (.getfield 10, 3) := by decide +kernel
theorem dX6_status_88 : decode cX6_status 88 = .ok (.getfield 157, 3) := by decide +kernel
theorem dX6_status_91 : decode cX6_status 91 = .ok (.ireturn, 1) := by decide +kernel
theorem dX6_status_92 : decode cX6_status 92 = .ok (.aload_n 0, 1) := by decide +kernel
theorem dX6_status_93 : decode cX6_status 93 = .ok (.getfield 10, 3) := by decide +kernel
theorem dX6_status_96 : decode cX6_status 96 = .ok (.getfield 160, 3) := by decide +kernel
theorem dX6_status_99 : decode cX6_status 99 = .ok (.ireturn, 1) := by decide +kernel
theorem dX6_status_100 : decode cX6_status 100 = .ok (.aload_n 0, 1) := by decide +kernel
theorem dX6_status_101 : decode cX6_status 101 = .ok (.getfield 10, 3) := by decide +kernel
theorem dX6_status_104 : decode cX6_status 104 = .ok (.getfield 163, 3) := by decide +kernel
theorem dX6_status_107 : decode cX6_status 107 = .ok (.ireturn, 1) := by decide +kernel
theorem dX6_status_108 : decode cX6_status 108 = .ok (.aload_n 0, 1) := by decide +kernel
theorem dX6_status_109 : decode cX6_status 109 = .ok (.getfield 10, 3) := by decide +kernel
theorem dX6_status_112 : decode cX6_status 112 = .ok (.getfield 166, 3) := by decide +kernel
theorem dX6_status_115 : decode cX6_status 115 = .ok (.ireturn, 1) := by decide +kernel
theorem dX6_status_116 : decode cX6_status 116 = .ok (.aload_n 0, 1) := by decide +kernel
theorem dX6_status_117 : decode cX6_status 117 = .ok (.getfield 10, 3) := by decide +kernel
theorem dX6_status_120 : decode cX6_status 120 = .ok (.invokevirtual 324, 3) := by decide +kernel
theorem dX6_status_123 : decode cX6_status 123 = .ok (.ireturn, 1) := by decide +kernel
theorem dX6_status_124 : decode cX6_status 124 = .ok (.aload_n 0, 1) := by decide +kernel
theorem dX6_status_125 : decode cX6_status 125 = .ok (.getfield 48, 3) := by decide +kernel
theorem dX6_status_128 : decode cX6_status 128 = .ok (.getfield 172, 3) := by decide +kernel
theorem dX6_status_131 : decode cX6_status 131 = .ok (.ireturn, 1) := by decide +kernel
theorem dX6_status_132 : decode cX6_status 132 = .ok (.aload_n 0, 1) := by decide +kernel
theorem dX6_status_133 : decode cX6_status 133 = .ok (.getfield 10, 3) := by decide +kernel
theorem dX6_status_136 : decode cX6_status 136 = .ok (.getfield 317, 3) := by decide +kernel
theorem dX6_status_139 : decode cX6_status 139 = .ok (.ireturn, 1) := by decide +kernel
theorem dX6_status_140 : decode cX6_status 140 = .ok (.aload_n 0, 1) := by decide +kernel
theorem dX6_status_141 : decode cX6_status 141 = .ok (.invokevirtual 327, 3) := by decide +kernel
theorem dX6_status_144 : decode cX6_status 144 = .ok (.ireturn, 1) := by decide +kernel
theorem dX6_status_145 : decode cX6_status 145 = .ok (.iload_n 1, 1) := by decide +kernel
theorem dX6_status_146 : decode cX6_status 146 = .ok (.bipush 12, 2) := by decide +kernel
theorem dX6_status_148 : decode cX6_status 148 = .ok (.if_icmp .lt 9, 3) := by decide +kernel
theorem dX6_status_151 : decode cX6_status 151 = .ok (.iload_n 1, 1) := by decide +kernel
theorem dX6_status_152 : decode cX6_status 152 = .ok (.bipush 16, 2) := by decide +kernel
theorem dX6_status_154 : decode cX6_status 154 = .ok (.if_icmp .le 7, 3) := by decide +kernel
theorem dX6_status_157 : decode cX6_status 157 = .ok (.iconst (-1), 1) := by decide +kernel
theorem dX6_status_158 : decode cX6_status 158 = .ok (.goto 12, 3) := by decide +kernel
theorem dX6_status_161 : decode cX6_status 161 = .ok (.aload_n 0, 1) := by decide +kernel
theorem dX6_status_162 : decode cX6_status 162 = .ok (.getfield 58, 3) := by decide +kernel
theorem dX6_status_165 : decode cX6_status 165 = .ok (.iload_n 1, 1) := by decide +kernel
theorem dX6_status_166 : decode cX6_status 166 = .ok (.bipush 12, 2) := by decide +kernel
theorem dX6_status_168 : decode cX6_status 168 = .ok (.isub, 1) := by decide +kernel
theorem dX6_status_169 : decode cX6_status 169 = .ok (.iaload, 1) := by decide +kernel
theorem dX6_status_170 : decode cX6_status 170 = .ok (.ireturn, 1) := by decide +kernel
theorem dX6_refuse_0 : decode cX6_refuse 0 = .ok (.bipush (-2), 2) := by decide +kernel
theorem dX6_refuse_2 : decode cX6_refuse 2 = .ok (.iload_n 1, 1) := by decide +kernel
theorem dX6_refuse_3 : decode cX6_refuse 3 = .ok (.isub, 1) := by decide +kernel
theorem dX6_refuse_4 : decode cX6_refuse 4 = .ok (.istore_n 2, 1) := by decide +kernel
theorem dX6_refuse_5 : decode cX6_refuse 5 = .ok (.iload_n 2, 1) := by decide +kernel
theorem dX6_refuse_6 : decode cX6_refuse 6 = .ok (.ifCond .lt 22, 3) := by decide +kernel
theorem dX6_refuse_9 : decode cX6_refuse 9 = .ok (.iload_n 2, 1) := by decide +kernel
theorem dX6_refuse_10 : decode cX6_refuse 10 = .ok (.aload_n 0, 1) := by decide +kernel
theorem dX6_refuse_11 : decode cX6_refuse 11 = .ok (.getfield 58, 3) := by decide +kernel
theorem dX6_refuse_14 : decode cX6_refuse 14 = .ok (.arraylength, 1) := by decide +kernel
theorem dX6_refuse_15 : decode cX6_refuse 15 = .ok (.if_icmp .ge 13, 3) := by decide +kernel
theorem dX6_refuse_18 : decode cX6_refuse 18 = .ok (.aload_n 0, 1) := by decide +kernel
theorem dX6_refuse_19 : decode cX6_refuse 19 = .ok (.getfield 58, 3) := by decide +kernel
theorem dX6_refuse_22 : decode cX6_refuse 22 = .ok (.iload_n 2, 1) := by decide +kernel
theorem dX6_refuse_23 : decode cX6_refuse 23 = .ok (.dup2, 1) := by decide +kernel
theorem dX6_refuse_24 : decode cX6_refuse 24 = .ok (.iaload, 1) := by decide +kernel
theorem dX6_refuse_25 : decode cX6_refuse 25 = .ok (.iconst 1, 1) := by decide +kernel
theorem dX6_refuse_26 : decode cX6_refuse 26 = .ok (.iadd, 1) := by decide +kernel
theorem dX6_refuse_27 : decode cX6_refuse 27 = .ok (.iastore, 1) := by decide +kernel
theorem dX6_refuse_28 : decode cX6_refuse 28 = .ok (.iload_n 1, 1) := by decide +kernel
theorem dX6_refuse_29 : decode cX6_refuse 29 = .ok (.ireturn, 1) := by decide +kernel
theorem dX6_isShelf_0 : decode cX6_isShelf 0 = .ok (.iload_n 0, 1) := by decide +kernel
theorem dX6_isShelf_1 : decode cX6_isShelf 1 = .ok (.ifCond .lt 13, 3) := by decide +kernel
theorem dX6_isShelf_4 : decode cX6_isShelf 4 = .ok (.iload_n 0, 1) := by decide +kernel
theorem dX6_isShelf_5 : decode cX6_isShelf 5 = .ok (.bipush 8, 2) := by decide +kernel
theorem dX6_isShelf_7 : decode cX6_isShelf 7 = .ok (.if_icmp .ge 7, 3) := by decide +kernel
theorem dX6_isShelf_10 : decode cX6_isShelf 10 = .ok (.iconst 1, 1) := by decide +kernel
theorem dX6_isShelf_11 : decode cX6_isShelf 11 = .ok (.goto 4, 3) := by decide +kernel
theorem dX6_isShelf_14 : decode cX6_isShelf 14 = .ok (.iconst 0, 1) := by decide +kernel
theorem dX6_isShelf_15 : decode cX6_isShelf 15 = .ok (.ireturn, 1) := by decide +kernel
theorem dX6_isChain_0 : decode cX6_isChain 0 = .ok (.iload_n 0, 1) := by decide +kernel
theorem dX6_isChain_1 : decode cX6_isChain 1 = .ok (.ifCond .eq 8, 3) := by decide +kernel
theorem dX6_isChain_4 : decode cX6_isChain 4 = .ok (.iload_n 0, 1) := by decide +kernel
theorem dX6_isChain_5 : decode cX6_isChain 5 = .ok (.iconst 1, 1) := by decide +kernel
theorem dX6_isChain_6 : decode cX6_isChain 6 = .ok (.if_icmp .ne 7, 3) := by decide +kernel
theorem dX6_isChain_9 : decode cX6_isChain 9 = .ok (.iconst 1, 1) := by decide +kernel
theorem dX6_isChain_10 : decode cX6_isChain 10 = .ok (.goto 4, 3) := by decide +kernel
theorem dX6_isChain_13 : decode cX6_isChain 13 = .ok (.iconst 0, 1) := by decide +kernel
theorem dX6_isChain_14 : decode cX6_isChain 14 = .ok (.ireturn, 1) := by decide +kernel
theorem dX6_isRule_0 : decode cX6_isRule 0 = .ok (.iload_n 0, 1) := by decide +kernel
theorem dX6_isRule_1 : decode cX6_isRule 1 = .ok (.ifCond .eq 8, 3) := by decide +kernel
theorem dX6_isRule_4 : decode cX6_isRule 4 = .ok (.iload_n 0, 1) := by decide +kernel
theorem dX6_isRule_5 : decode cX6_isRule 5 = .ok (.iconst 1, 1) := by decide +kernel
theorem dX6_isRule_6 : decode cX6_isRule 6 = .ok (.if_icmp .ne 7, 3) := by decide +kernel
theorem dX6_isRule_9 : decode cX6_isRule 9 = .ok (.iconst 1, 1) := by decide +kernel
theorem dX6_isRule_10 : decode cX6_isRule 10 = .ok (.goto 4, 3) := by decide +kernel
theorem dX6_isRule_13 : decode cX6_isRule 13 = .ok (.iconst 0, 1) := by decide +kernel
theorem dX6_isRule_14 : decode cX6_isRule 14 = .ok (.ireturn, 1) := by decide +kernel
theorem dX6_isLevel_0 : decode cX6_isLevel 0 = .ok (.iload_n 0, 1) := by decide +kernel
theorem dX6_isLevel_1 : decode cX6_isLevel 1 = .ok (.ifCond .lt 13, 3) := by decide +kernel
theorem dX6_isLevel_4 : decode cX6_isLevel 4 = .ok (.iload_n 0, 1) := by decide +kernel
theorem dX6_isLevel_5 : decode cX6_isLevel 5 = .ok (.bipush 20, 2) := by decide +kernel
theorem dX6_isLevel_7 : decode cX6_isLevel 7 = .ok (.if_icmp .gt 7, 3) := by decide +kernel
theorem dX6_isLevel_10 : decode cX6_isLevel 10 = .ok (.iconst 1, 1) := by decide +kernel
theorem dX6_isLevel_11 : decode cX6_isLevel 11 = .ok (.goto 4, 3) := by decide +kernel
theorem dX6_isLevel_14 : decode cX6_isLevel 14 = .ok (.iconst 0, 1) := by decide +kernel
theorem dX6_isLevel_15 : decode cX6_isLevel 15 = .ok (.ireturn, 1) := by decide +kernel
theorem dX6_isUnder_0 : decode cX6_isUnder 0 = .ok (.iload_n 0, 1) := by decide +kernel
theorem dX6_isUnder_1 : decode cX6_isUnder 1 = .ok (.istore_n 2, 1) := by decide +kernel
theorem dX6_isUnder_2 : decode cX6_isUnder 2 = .ok (.iconst 0, 1) := by decide +kernel
theorem dX6_isUnder_3 : decode cX6_isUnder 3 = .ok (.istore_n 3, 1) := by decide +kernel
theorem dX6_isUnder_4 : decode cX6_isUnder 4 = .ok (.iload_n 3, 1) := by decide +kernel
theorem dX6_isUnder_5 : decode cX6_isUnder 5 = .ok (.bipush 6, 2) := by decide +kernel
theorem dX6_isUnder_7 : decode cX6_isUnder 7 = .ok (.if_icmp .ge 32, 3) := by decide +kernel
theorem dX6_isUnder_10 : decode cX6_isUnder 10 = .ok (.iload_n 2, 1) := by decide +kernel
theorem dX6_isUnder_11 : decode cX6_isUnder 11 = .ok (.ifCond .lt 28, 3) := by decide +kernel
theorem dX6_isUnder_14 : decode cX6_isUnder 14 = .ok (.iload_n 2, 1) := by decide +kernel
theorem dX6_isUnder_15 : decode cX6_isUnder 15 = .ok (.bipush 6, 2) := by decide +kernel
theorem dX6_isUnder_17 : decode cX6_isUnder 17 = .ok (.if_icmp .ge 22, 3) := by decide +kernel
theorem dX6_isUnder_20 : decode cX6_isUnder 20 = .ok (.iload_n 2, 1) := by decide +kernel
theorem dX6_isUnder_21 : decode cX6_isUnder 21 = .ok (.iload_n 1, 1) := by decide +kernel
theorem dX6_isUnder_22 : decode cX6_isUnder 22 = .ok (.if_icmp .ne 5, 3) := by decide +kernel
theorem dX6_isUnder_25 : decode cX6_isUnder 25 = .ok (.iconst 1, 1) := by decide +kernel
theorem dX6_isUnder_26 : decode cX6_isUnder 26 = .ok (.ireturn, 1) := by decide +kernel
theorem dX6_isUnder_27 : decode cX6_isUnder 27 = .ok (.getstatic 330, 3) := by decide +kernel
theorem dX6_isUnder_30 : decode cX6_isUnder 30 = .ok (.iload_n 2, 1) := by decide +kernel
theorem dX6_isUnder_31 : decode cX6_isUnder 31 = .ok (.iaload, 1) := by decide +kernel
theorem dX6_isUnder_32 : decode cX6_isUnder 32 = .ok (.istore_n 2, 1) := by decide +kernel
theorem dX6_isUnder_33 : decode cX6_isUnder 33 = .ok (.iinc 3 1, 3) := by decide +kernel
theorem dX6_isUnder_36 : decode cX6_isUnder 36 = .ok (.goto (-32), 3) := by decide +kernel
theorem dX6_isUnder_39 : decode cX6_isUnder 39 = .ok (.iconst 0, 1) := by decide +kernel
theorem dX6_isUnder_40 : decode cX6_isUnder 40 = .ok (.ireturn, 1) := by decide +kernel
theorem dX6_mayBeAsked_0 : decode cX6_mayBeAsked 0 = .ok (.iload_n 0, 1) := by decide +kernel
theorem dX6_mayBeAsked_1 : decode cX6_mayBeAsked 1 = .ok (.tableswitch 100 0 4 #[35, 51, 85, 68, 85], 35) := by decide +kernel
theorem dX6_mayBeAsked_36 : decode cX6_mayBeAsked 36 = .ok (.iload_n 1, 1) := by decide +kernel
theorem dX6_mayBeAsked_37 : decode cX6_mayBeAsked 37 = .ok (.ifCond .lt 13, 3) := by decide +kernel
theorem dX6_mayBeAsked_40 : decode cX6_mayBeAsked 40 = .ok (.iload_n 1, 1) := by decide +kernel
theorem dX6_mayBeAsked_41 : decode cX6_mayBeAsked 41 = .ok (.bipush 30, 2) := by decide +kernel
theorem dX6_mayBeAsked_43 : decode cX6_mayBeAsked 43 = .ok (.if_icmp .gt 7, 3) := by decide +kernel
theorem dX6_mayBeAsked_46 : decode cX6_mayBeAsked 46 = .ok (.iconst 1, 1) := by decide +kernel
theorem dX6_mayBeAsked_47 : decode cX6_mayBeAsked 47 = .ok (.goto 4, 3) := by decide +kernel
theorem dX6_mayBeAsked_50 : decode cX6_mayBeAsked 50 = .ok (.iconst 0, 1) := by decide +kernel
theorem dX6_mayBeAsked_51 : decode cX6_mayBeAsked 51 = .ok (.ireturn, 1) := by decide +kernel
theorem dX6_mayBeAsked_52 : decode cX6_mayBeAsked 52 = .ok (.iload_n 1, 1) := by decide +kernel
theorem dX6_mayBeAsked_53 : decode cX6_mayBeAsked 53 = .ok (.iconst 1, 1) := by decide +kernel
theorem dX6_mayBeAsked_54 : decode cX6_mayBeAsked 54 = .ok (.if_icmp .lt 13, 3) := by decide +kernel
theorem dX6_mayBeAsked_57 : decode cX6_mayBeAsked 57 = .ok (.iload_n 1, 1) := by decide +kernel
theorem dX6_mayBeAsked_58 : decode cX6_mayBeAsked 58 = .ok (.bipush 10, 2) := by decide +kernel
theorem dX6_mayBeAsked_60 : decode cX6_mayBeAsked 60 = .ok (.if_icmp .gt 7, 3) := by decide +kernel
theorem dX6_mayBeAsked_63 : decode cX6_mayBeAsked 63 = .ok (.iconst 1, 1) := by decide +kernel
theorem dX6_mayBeAsked_64 : decode cX6_mayBeAsked 64 = .ok (.goto 4, 3) := by decide +kernel
theorem dX6_mayBeAsked_67 : decode cX6_mayBeAsked 67 = .ok (.iconst 0, 1) := by decide +kernel
theorem dX6_mayBeAsked_68 : decode cX6_mayBeAsked 68 = .ok (.ireturn, 1) := by decide +kernel
theorem dX6_mayBeAsked_69 : decode cX6_mayBeAsked 69 = .ok (.iload_n 1, 1) := by decide +kernel
theorem dX6_mayBeAsked_70 : decode cX6_mayBeAsked 70 = .ok (.iconst 1, 1) := by decide +kernel
theorem dX6_mayBeAsked_71 : decode cX6_mayBeAsked 71 = .ok (.if_icmp .lt 13, 3) := by decide +kernel
theorem dX6_mayBeAsked_74 : decode cX6_mayBeAsked 74 = .ok (.iload_n 1, 1) := by decide +kernel
theorem dX6_mayBeAsked_75 : decode cX6_mayBeAsked 75 = .ok (.bipush 99, 2) := by decide +kernel
theorem dX6_mayBeAsked_77 : decode cX6_mayBeAsked 77 = .ok (.if_icmp .gt 7, 3) := by decide +kernel
theorem dX6_mayBeAsked_80 : decode cX6_mayBeAsked 80 = .ok (.iconst 1, 1) := by decide +kernel
theorem dX6_mayBeAsked_81 : decode cX6_mayBeAsked 81 = .ok (.goto 4, 3) := by decide +kernel
theorem dX6_mayBeAsked_84 : decode cX6_mayBeAsked 84 = .ok (.iconst 0, 1) := by decide +kernel
theorem dX6_mayBeAsked_85 : decode cX6_mayBeAsked 85 = .ok (.ireturn, 1) := by decide +kernel
theorem dX6_mayBeAsked_86 : decode cX6_mayBeAsked 86 = .ok (.iload_n 1, 1) := by decide +kernel
theorem dX6_mayBeAsked_87 : decode cX6_mayBeAsked 87 = .ok (.ifCond .eq 8, 3) := by decide +kernel
theorem dX6_mayBeAsked_90 : decode cX6_mayBeAsked 90 = .ok (.iload_n 1, 1) := by decide +kernel
theorem dX6_mayBeAsked_91 : decode cX6_mayBeAsked 91 = .ok (.iconst 1, 1) := by decide +kernel
theorem dX6_mayBeAsked_92 : decode cX6_mayBeAsked 92 = .ok (.if_icmp .ne 7, 3) := by decide +kernel
theorem dX6_mayBeAsked_95 : decode cX6_mayBeAsked 95 = .ok (.iconst 1, 1) := by decide +kernel
theorem dX6_mayBeAsked_96 : decode cX6_mayBeAsked 96 = .ok (.goto 4, 3) := by decide +kernel
theorem dX6_mayBeAsked_99 : decode cX6_mayBeAsked 99 = .ok (.iconst 0, 1) := by decide +kernel
theorem dX6_mayBeAsked_100 : decode cX6_mayBeAsked 100 = .ok (.ireturn, 1) := by decide +kernel
theorem dX6_mayBeAsked_101 : decode cX6_mayBeAsked 101 = .ok (.iconst 0, 1) := by decide +kernel
theorem dX6_mayBeAsked_102 : decode cX6_mayBeAsked 102 = .ok (.ireturn, 1) := by decide +kernel
theorem dX6_faultOfRow_0 : decode cX6_faultOfRow 0 = .ok (.iload_n 1, 1) := by decide +kernel
theorem dX6_faultOfRow_1 : decode cX6_faultOfRow 1 = .ok (.invokestatic 63, 3) := by decide +kernel
theorem dX6_faultOfRow_4 : decode cX6_faultOfRow 4 = .ok (.ifCond .eq 13, 3) := by decide +kernel
theorem dX6_faultOfRow_7 : decode cX6_faultOfRow 7 = .ok (.iload_n 2, 1) := by decide +kernel
theorem dX6_faultOfRow_8 : decode cX6_faultOfRow 8 = .ok (.ifCond .lt 9, 3) := by decide +kernel
theorem dX6_faultOfRow_11 : decode cX6_faultOfRow 11 = .ok (.iload_n 2, 1) := by decide +kernel
theorem dX6_faultOfRow_12 : decode cX6_faultOfRow 12 = .ok (.bipush 40, 2) := by decide +kernel
theorem dX6_faultOfRow_14 : decode cX6_faultOfRow 14 = .ok (.if_icmp .le 6, 3) := by decide +kernel
theorem dX6_faultOfRow_17 : decode cX6_faultOfRow 17 = .ok (.bipush (-2), 2) := by decide +kernel
theorem dX6_faultOfRow_19 : decode cX6_faultOfRow 19 = .ok (.ireturn, 1) := by decide +kernel
theorem dX6_faultOfRow_20 : decode cX6_faultOfRow 20 = .ok (.aload_n 0, 1) := by decide +kernel
theorem dX6_faultOfRow_21 : decode cX6_faultOfRow 21 = .ok (.getfield 54, 3) := by decide +kernel
theorem dX6_faultOfRow_24 : decode cX6_faultOfRow 24 = .ok (.iload_n 1, 1) := by decide +kernel
theorem dX6_faultOfRow_25 : decode cX6_faultOfRow 25 = .ok (.aaload, 1) := by decide +kernel
theorem dX6_faultOfRow_26 : decode cX6_faultOfRow 26 = .ok (.invokevirtual 90, 3) := by decide +kernel
theorem dX6_faultOfRow_29 : decode cX6_faultOfRow 29 = .ok (.ifCond .eq 6, 3) := by decide +kernel
theorem dX6_faultOfRow_32 : decode cX6_faultOfRow 32 = .ok (.bipush (-3), 2) := by decide +kernel
theorem dX6_faultOfRow_34 : decode cX6_faultOfRow 34 = .ok (.ireturn, 1) := by decide +kernel
theorem dX6_faultOfRow_35 : decode cX6_faultOfRow 35 = .ok (.aload_n 0, 1) := by decide +kernel
theorem dX6_faultOfRow_36 : decode cX6_faultOfRow 36 = .ok (.getfield 54, 3) := by decide +kernel
theorem dX6_faultOfRow_39 : decode cX6_faultOfRow 39 = .ok (.iload_n 1, 1) := by decide +kernel
theorem dX6_faultOfRow_40 : decode cX6_faultOfRow 40 = .ok (.aaload, 1) := by decide +kernel
theorem dX6_faultOfRow_41 : decode cX6_faultOfRow 41 = .ok (.invokevirtual 108, 3) := by decide +kernel
theorem dX6_faultOfRow_44 : decode cX6_faultOfRow 44 = .ok (.ifCond .ne 6, 3) := by decide +kernel
theorem dX6_faultOfRow_47 : decode cX6_faultOfRow 47 = .ok (.bipush (-4), 2) := by decide +kernel
theorem dX6_faultOfRow_49 : decode cX6_faultOfRow 49 = .ok (.ireturn, 1) := by decide +kernel
theorem dX6_faultOfRow_50 : decode cX6_faultOfRow 50 = .ok (.aload_n 0, 1) := by decide +kernel
theorem dX6_faultOfRow_51 : decode cX6_faultOfRow 51 = .ok (.getfield 54, 3) := by decide +kernel
theorem dX6_faultOfRow_54 : decode cX6_faultOfRow 54 = .ok (.iload_n 1, 1) := by decide +kernel
theorem dX6_faultOfRow_55 : decode cX6_faultOfRow 55 = .ok (.aaload, 1) := by decide +kernel
theorem dX6_faultOfRow_56 : decode cX6_faultOfRow 56 = .ok (.getfield 79, 3) := by decide +kernel
theorem dX6_faultOfRow_59 : decode cX6_faultOfRow 59 = .ok (.iload_n 2, 1) := by decide +kernel
theorem dX6_faultOfRow_60 : decode cX6_faultOfRow 60 = .ok (.if_icmp .ge 8, 3) := by decide +kernel
theorem dX6_faultOfRow_63 : decode cX6_faultOfRow 63 = .ok (.bipush (-2), 2) := by decide +kernel
theorem dX6_faultOfRow_65 : decode cX6_faultOfRow 65 = .ok (.goto 4, 3) := by decide +kernel
theorem dX6_faultOfRow_68 : decode cX6_faultOfRow 68 = .ok (.iconst 0, 1) := by decide +kernel
theorem dX6_faultOfRow_69 : decode cX6_faultOfRow 69 = .ok (.ireturn, 1) := by decide +kernel
theorem dX6_faultOfRunner_0 : decode cX6_faultOfRunner 0 = .ok (.aload_n 0, 1) := by decide +kernel
theorem dX6_faultOfRunner_1 : decode cX6_faultOfRunner 1 = .ok (.getfield 10, 3) := by decide +kernel
theorem dX6_faultOfRunner_4 : decode cX6_faultOfRunner 4 = .ok (.iload_n 1, 1) := by decide +kernel
theorem dX6_faultOfRunner_5 : decode cX6_faultOfRunner 5 = .ok (.invokevirtual 111, 3) := by decide +kernel
theorem dX6_faultOfRunner_8 : decode cX6_faultOfRunner 8 = .ok (.ifCond .eq 21, 3) := by decide +kernel
theorem dX6_faultOfRunner_11 : decode cX6_faultOfRunner 11 = .ok (.aload_n 0, 1) := by decide +kernel
theorem dX6_faultOfRunner_12 : decode cX6_faultOfRunner 12 = .ok (.getfield 10, 3) := by decide +kernel
theorem dX6_faultOfRunner_15 : decode cX6_faultOfRunner 15 = .ok (.aload_n 0, 1) := by decide +kernel
theorem dX6_faultOfRunner_16 : decode cX6_faultOfRunner 16 = .ok (.getfield 10, 3) := by decide +kernel
theorem dX6_faultOfRunner_19 : decode cX6_faultOfRunner 19 = .ok (.getfield 169, 3) := by decide +kernel
theorem dX6_faultOfRunner_22 : decode cX6_faultOfRunner 22 = .ok (.iload_n 2, 1) := by decide +kernel
theorem dX6_faultOfRunner_23 : decode cX6_faultOfRunner 23 = .ok (.invokevirtual 205, 3) := by decide +kernel
theorem dX6_faultOfRunner_26 : decode cX6_faultOfRunner 26 = .ok (.ifCond .ne 6, 3) := by decide +kernel
theorem dX6_faultOfRunner_29 : decode cX6_faultOfRunner 29 = .ok (.bipush (-2), 2) := by decide +kernel
theorem dX6_faultOfRunner_31 : decode cX6_faultOfRunner 31 = .ok (.ireturn, 1) := by decide +kernel
theorem dX6_faultOfRunner_32 : decode cX6_faultOfRunner 32 = .ok (.aload_n 0, 1) := by decide +kernel
theorem dX6_faultOfRunner_33 : decode cX6_faultOfRunner 33 = .ok (.getfield 10, 3) := by decide +kernel
theorem dX6_faultOfRunner_36 : decode cX6_faultOfRunner 36 = .ok (.iload_n 1, 1) := by decide +kernel
theorem dX6_faultOfRunner_37 : decode cX6_faultOfRunner 37 = .ok (.invokevirtual 226, 3) := by decide +kernel
theorem dX6_faultOfRunner_40 : decode cX6_faultOfRunner 40 = .ok (.ifCond .eq 7, 3) := by decide +kernel
theorem dX6_faultOfRunner_43 : decode cX6_faultOfRunner 43 = .ok (.iconst 0, 1) := by decide +kernel
theorem dX6_faultOfRunner_44 : decode cX6_faultOfRunner 44 = .ok (.goto 5, 3) := by decide +kernel
theorem dX6_faultOfRunner_47 : decode cX6_faultOfRunner 47 = .ok (.bipush (-5), 2) := by decide +kernel
theorem dX6_faultOfRunner_49 : decode cX6_faultOfRunner 49 = .ok (.ireturn, 1) := by decide +kernel
theorem dX6_followBook_0 : decode cX6_followBook 0 = .ok (.aload_n 0, 1) := by decide +kernel
theorem dX6_followBook_1 : decode cX6_followBook 1 = .ok (.getfield 19, 3) := by decide +kernel
theorem dX6_followBook_4 : decode cX6_followBook 4 = .ok (.aload_n 0, 1) := by decide +kernel
theorem dX6_followBook_5 : decode cX6_followBook 5 = .ok (.getfield 10, 3) := by decide +kernel
theorem dX6_followBook_8 : decode cX6_followBook 8 = .ok (.invokevirtual 180, 3) := by decide +kernel
theorem dX6_followBook_11 : decode cX6_followBook 11 = .ok (.iconst 0, 1) := by decide +kernel
theorem dX6_followBook_12 : decode cX6_followBook 12 = .ok (.istore_n 3, 1) := by decide +kernel
theorem dX6_followBook_13 : decode cX6_followBook 13 = .ok (.iload_n 3, 1) := by decide +kernel
theorem dX6_followBook_14 : decode cX6_followBook 14 = .ok (.iload_n 2, 1) := by decide +kernel
theorem dX6_followBook_15 : decode cX6_followBook 15 = .ok (.if_icmp .ge 122, 3) := by decide +kernel
theorem dX6_followBook_18 : decode cX6_followBook 18 = .ok (.iload_n 3, 1) := by decide +kernel
theorem dX6_followBook_19 : decode cX6_followBook 19 = .ok (.aload_n 1, 1) := by decide +kernel
theorem dX6_followBook_20 : decode cX6_followBook 20 = .ok (.getfield 79, 3) := by decide +kernel
theorem dX6_followBook_23 : decode cX6_followBook 23 = .ok (.if_icmp .ge 114, 3) := by decide +kernel
theorem dX6_followBook_26 : decode cX6_followBook 26 = .ok (.aload_n 1, 1) := by decide +kernel
theorem dX6_followBook_27 : decode cX6_followBook 27 = .ok (.getfield 98, 3) := by decide +kernel
theorem dX6_followBook_30 : decode cX6_followBook 30 = .ok (.iload_n 3, 1) := by decide +kernel
theorem dX6_followBook_31 : decode cX6_followBook 31 = .ok (.laload, 1) := by decide +kernel
theorem dX6_followBook_32 : decode cX6_followBook 32 = .ok (.lstore 4, 2) := by decide +kernel
theorem dX6_followBook_34 : decode cX6_followBook 34 = .ok (.lload 4, 2) := by decide +kernel
theorem dX6_followBook_36 : decode cX6_followBook 36 = .ok (.lconst 0, 1) := by decide +kernel
theorem dX6_followBook_37 : decode cX6_followBook 37 = .ok (.lcmp, 1) := by decide +kernel
theorem dX6_followBook_38 : decode cX6_followBook 38 = .ok (.ifCond .lt 12, 3) := by decide +kernel
theorem dX6_followBook_41 : decode cX6_followBook 41 = .ok (.lload 4, 2) := by decide +kernel
theorem dX6_followBook_43 : decode cX6_followBook 43 = .ok (.ldc2_w 333, 3) := by decide +kernel
theorem dX6_followBook_46 : decode cX6_followBook 46 = .ok (.lcmp, 1) := by decide +kernel
theorem dX6_followBook_47 : decode cX6_followBook 47 = .ok (.ifCond .lt 5, 3) := by decide +kernel
theorem dX6_followBook_50 : decode cX6_followBook 50 = .ok (.iload_n 3, 1) := by decide +kernel
theorem dX6_followBook_51 : decode cX6_followBook 51 = .ok (.ireturn, 1) := by decide +kernel
theorem dX6_followBook_52 : decode cX6_followBook 52 = .ok (.lload 4, 2) := by decide +kernel
theorem dX6_followBook_54 : decode cX6_followBook 54 = .ok (.l2i, 1) := by decide +kernel
theorem dX6_followBook_55 : decode cX6_followBook 55 = .ok (.sipush 1000, 3) := by decide +kernel
theorem dX6_followBook_58 : decode cX6_followBook 58 = .ok (.idiv, 1) := by decide +kernel
theorem dX6_followBook_59 : decode cX6_followBook 59 = .ok (.istore 6, 2) := by decide +kernel
theorem dX6_followBook_61 : decode cX6_followBook 61 = .ok (.lload 4, 2) := by decide +kernel
theorem dX6_followBook_63 : decode cX6_followBook 63 = .ok (.l2i, 1) := by decide +kernel
theorem dX6_followBook_64 : decode cX6_followBook 64 = .ok (.bipush 100, 2) := by decide +kernel
theorem dX6_followBook_66 : decode cX6_followBook 66 = .ok (.idiv, 1) := by decide +kernel
theorem dX6_followBook_67 : decode cX6_followBook 67 = .ok (.bipush 10, 2) := by decide +kernel
theorem dX6_followBook_69 : decode cX6_followBook 69 = .ok (.irem, 1) := by decide +kernel
theorem dX6_followBook_70 : decode cX6_followBook 70 = .ok (.istore 7, 2) := by decide +kernel
theorem dX6_followBook_72 : decode cX6_followBook 72 = .ok (.lload 4, 2) := by decide +kernel
theorem dX6_followBook_74 : decode cX6_followBook 74 = .ok (.l2i, 1) := by decide +kernel
theorem dX6_followBook_75 : decode cX6_followBook 75 = .ok (.bipush 100, 2) := by decide +kernel
theorem dX6_followBook_77 : decode cX6_followBook 77 = .ok (.irem, 1) := by decide +kernel
theorem dX6_followBook_78 : decode cX6_followBook 78 = .ok (.istore 8, 2) := by decide +kernel
theorem dX6_followBook_80 : decode cX6_followBook 80 = .ok (.iload 8, 2) := by decide +kernel
theorem dX6_followBook_82 : decode cX6_followBook 82 = .ok (.iconst 2, 1) := by decide +kernel
theorem dX6_followBook_83 : decode cX6_followBook 83 = .ok (.if_icmp .gt 33, 3) := by decide +kernel
theorem dX6_followBook_86 : decode cX6_followBook 86 = .ok (.aload_n 0, 1) := by decide +kernel
theorem dX6_followBook_87 : decode cX6_followBook 87 = .ok (.getfield 19, 3) := by decide +kernel
theorem dX6_followBook_90 : decode cX6_followBook 90 = .ok (.iload 6, 2) := by decide +kernel
theorem dX6_followBook_92 : decode cX6_followBook 92 = .ok (.iload 7, 2) := by decide +kernel
theorem dX6_followBook_94 : decode cX6_followBook 94 = .ok (.invokevirtual 335, 3) := by decide +kernel
theorem dX6_followBook_97 : decode cX6_followBook 97 = .ok (.ifCond .eq 19, 3) := by decide +kernel
theorem dX6_followBook_100 : decode cX6_followBook 100 = .ok (.aload_n 0, 1) := by decide +kernel
theorem dX6_followBook_101 : decode cX6_followBook 101 = .ok (.getfield 19, 3) := by decide +kernel
theorem dX6_followBook_104 : decode cX6_followBook 104 = .ok (.iload 6, 2) := by decide +kernel
theorem dX6_followBook_106 : decode cX6_followBook 106 = .ok (.iload 7, 2) := by decide +kernel
theorem dX6_followBook_108 : decode cX6_followBook 108 = .ok (.iload 8, 2) := by decide +kernel
theorem dX6_followBook_110 : decode cX6_followBook 110 = .ok (.invokevirtual 338, 3) := by decide +kernel
theorem dX6_followBook_113 : decode cX6_followBook 113 = .ok (.ifCond .ne 5, 3) := by decide +kernel
theorem dX6_followBook_116 : decode cX6_followBook 116 = .ok (.iload_n 3, 1) := by decide +kernel
theorem dX6_followBook_117 : decode cX6_followBook 117 = .ok (.ireturn, 1) := by decide +kernel
theorem dX6_followBook_118 : decode cX6_followBook 118 = .ok (.aload_n 0, 1) := by decide +kernel
theorem dX6_followBook_119 : decode cX6_followBook 119 = .ok (.getfield 19, 3) := by decide +kernel
theorem dX6_followBook_122 : decode cX6_followBook 122 = .ok (.iload 6, 2) := by decide +kernel
theorem dX6_followBook_124 : decode cX6_followBook 124 = .ok (.iload 7, 2) := by decide +kernel
theorem dX6_followBook_126 : decode cX6_followBook 126 = .ok (.iload 8, 2) := by decide +kernel
theorem dX6_followBook_128 : decode cX6_followBook 128 = .ok (.invokevirtual 341, 3) := by decide +kernel
theorem dX6_followBook_131 : decode cX6_followBook 131 = .ok (.iinc 3 1, 3) := by decide +kernel
theorem dX6_followBook_134 : decode cX6_followBook 134 = .ok (.goto (-121), 3) := by decide +kernel
theorem dX6_followBook_137 : decode cX6_followBook 137 = .ok (.iconst (-1), 1) := by decide +kernel
theorem dX6_followBook_138 : decode cX6_followBook 138 = .ok (.ireturn, 1) := by decide +kernel
theorem dX6_isOrderOf_0 : decode cX6_isOrderOf 0 = .ok (.iconst 0, 1) := by decide +kernel
theorem dX6_isOrderOf_1 : decode cX6_isOrderOf 1 = .ok (.istore_n 3, 1) := by decide +kernel
theorem dX6_isOrderOf_2 : decode cX6_isOrderOf 2 = .ok (.iconst 0, 1) := by decide +kernel
theorem dX6_isOrderOf_3 : decode cX6_isOrderOf 3 = .ok (.istore 4, 2) := by decide +kernel
theorem dX6_isOrderOf_5 : decode cX6_isOrderOf 5 = .ok (.iload 4, 2) := by decide +kernel
theorem dX6_isOrderOf_7 : decode cX6_isOrderOf 7 = .ok (.aload_n 0, 1) := by decide +kernel
theorem dX6_isOrderOf_8 : decode cX6_isOrderOf 8 = .ok (.getfield 10, 3) := by decide +kernel
theorem dX6_isOrderOf_11 : decode cX6_isOrderOf 11 = .ok (.getfield 199, 3) := by decide +kernel
theorem dX6_isOrderOf_14 : decode cX6_isOrderOf 14 = .ok (.iload_n 1, 1) := by decide +kernel
theorem dX6_isOrderOf_15 : decode cX6_isOrderOf 15 = .ok (.iaload, 1) := by decide +kernel
theorem dX6_isOrderOf_16 : decode cX6_isOrderOf 16 = .ok (.if_icmp .ge 74, 3) := by decide +kernel
theorem dX6_isOrderOf_19 : decode cX6_isOrderOf 19 = .ok (.aload_n 2, 1) := by decide +kernel
theorem dX6_isOrderOf_20 : decode cX6_isOrderOf 20 = .ok (.iload 4, 2) := by decide +kernel
theorem dX6_isOrderOf_22 : decode cX6_isOrderOf 22 = .ok (.laload, 1) := by decide +kernel
theorem dX6_isOrderOf_23 : decode cX6_isOrderOf 23 = .ok (.lstore 5, 2) := by decide +kernel
theorem dX6_isOrderOf_25 : decode cX6_isOrderOf 25 = .ok (.lload 5, 2) := by decide +kernel
theorem dX6_isOrderOf_27 : decode cX6_isOrderOf 27 = .ok (.lconst 0, 1) := by decide +kernel
theorem dX6_isOrderOf_28 : decode cX6_isOrderOf 28 = .ok (.lcmp, 1) := by decide +kernel
theorem dX6_isOrderOf_29 : decode cX6_isOrderOf 29 = .ok (.ifCond .lt 32, 3) := by decide +kernel
theorem dX6_isOrderOf_32 : decode cX6_isOrderOf 32 = .ok (.lload 5, 2) := by decide +kernel
theorem dX6_isOrderOf_34 : decode cX6_isOrderOf 34 = .ok (.aload_n 0, 1) := by decide +kernel
theorem dX6_isOrderOf_35 : decode cX6_isOrderOf 35 = .ok (.getfield 10, 3) := by decide +kernel
theorem dX6_isOrderOf_38 : decode cX6_isOrderOf 38 = .ok (.getfield 138, 3) := by decide +kernel
theorem dX6_isOrderOf_41 : decode cX6_isOrderOf 41 = .ok (.i2l, 1) := by decide +kernel
theorem dX6_isOrderOf_42 : decode cX6_isOrderOf 42 = .ok (.lcmp, 1) := by decide +kernel
theorem dX6_isOrderOf_43 : decode cX6_isOrderOf 43 = .ok (.ifCond .ge 18, 3) := by decide +kernel
theorem dX6_isOrderOf_46 : decode cX6_isOrderOf 46 = .ok (.aload_n 0, 1) := by decide +kernel
theorem dX6_isOrderOf_47 : decode cX6_isOrderOf 47 = .ok (.getfield 10, 3) := by decide +kernel
theorem dX6_isOrderOf_50 : decode cX6_isOrderOf 50 = .ok (.getfield 120, 3) := by decide +kernel
theorem dX6_isOrderOf_53 : decode cX6_isOrderOf 53 = .ok (.lload 5, 2) := by decide +kernel
theorem dX6_isOrderOf_55 : decode cX6_isOrderOf 55 = .ok (.l2i, 1) := by decide +kernel
theorem dX6_isOrderOf_56 : decode cX6_isOrderOf 56 = .ok (.iaload, 1) := by decide +kernel
theorem dX6_isOrderOf_57 : decode cX6_isOrderOf 57 = .ok (.iload_n 1, 1) := by decide +kernel
theorem dX6_isOrderOf_58 : decode cX6_isOrderOf 58 = .ok (.if_icmp .eq 5, 3) := by decide +kernel
theorem dX6_isOrderOf_61 : decode cX6_isOrderOf 61 = .ok (.iconst 0, 1) := by decide +kernel
theorem dX6_isOrderOf_62 : decode cX6_isOrderOf 62 = .ok (.ireturn, 1) := by decide +kernel
theorem dX6_isOrderOf_63 : decode cX6_isOrderOf 63 = .ok (.iconst 1, 1) := by decide +kernel
theorem dX6_isOrderOf_64 : decode cX6_isOrderOf 64 = .ok (.lload 5, 2) := by decide +kernel
theorem dX6_isOrderOf_66 : decode cX6_isOrderOf 66 = .ok (.l2i, 1) := by decide +kernel
theorem dX6_isOrderOf_67 : decode cX6_isOrderOf 67 = .ok (.ishl, 1) := by decide +kernel
theorem dX6_isOrderOf_68 : decode cX6_isOrderOf 68 = .ok (.istore 7, 2) := by decide +kernel
theorem dX6_isOrderOf_70 : decode cX6_isOrderOf 70 = .ok (.iload_n 3, 1) := by decide +kernel
theorem dX6_isOrderOf_71 : decode cX6_isOrderOf 71 = .ok (.iload 7, 2) := by decide +kernel
theorem dX6_isOrderOf_73 : decode cX6_isOrderOf 73 = .ok (.iand, 1) := by decide +kernel
theorem dX6_isOrderOf_74 : decode cX6_isOrderOf 74 = .ok (.ifCond .eq 5, 3) := by decide +kernel
theorem dX6_isOrderOf_77 : decode cX6_isOrderOf 77 = .ok (.iconst 0, 1) := by decide +kernel
theorem dX6_isOrderOf_78 : decode cX6_isOrderOf 78 = .ok (.ireturn, 1) := by decide +kernel
theorem dX6_isOrderOf_79 : decode cX6_isOrderOf 79 = .ok (.iload_n 3, 1) := by decide +kernel
theorem dX6_isOrderOf_80 : decode cX6_isOrderOf 80 = .ok (.iload 7, 2) := by decide +kernel
theorem dX6_isOrderOf_82 : decode cX6_isOrderOf 82 = .ok (.ior, 1) := by decide +kernel
theorem dX6_isOrderOf_83 : decode cX6_isOrderOf 83 = .ok (.istore_n 3, 1) := by decide +kernel
theorem dX6_isOrderOf_84 : decode cX6_isOrderOf 84 = .ok (.iinc 4 1, 3) := by decide +kernel
theorem dX6_isOrderOf_87 : decode cX6_isOrderOf 87 = .ok (.goto (-82), 3) := by decide +kernel
theorem dX6_isOrderOf_90 : decode cX6_isOrderOf 90 = .ok (.iconst 1, 1) := by decide +kernel
theorem dX6_isOrderOf_91 : decode cX6_isOrderOf 91 = .ok (.ireturn, 1) := by decide +kernel
theorem dX6_ordersTogether_0 : decode cX6_ordersTogether 0 = .ok (.iconst 1, 1) := by decide +kernel
theorem dX6_ordersTogether_1 : decode cX6_ordersTogether 1 = .ok (.istore_n 2, 1) := by decide +kernel
theorem dX6_ordersTogether_2 : decode cX6_ordersTogether 2 = .ok (.iconst 2, 1) := by decide +kernel
theorem dX6_ordersTogether_3 : decode cX6_ordersTogether 3 = .ok (.istore_n 3, 1) := by decide +kernel
theorem dX6_ordersTogether_4 : decode cX6_ordersTogether 4 = .ok (.iload_n 3, 1) := by decide +kernel
theorem dX6_ordersTogether_5 : decode cX6_ordersTogether 5 = .ok (.iload_n 0, 1) := by decide +kernel
theorem dX6_ordersTogether_6 : decode cX6_ordersTogether 6 = .ok (.if_icmp .gt 13, 3) := by decide +kernel
theorem dX6_ordersTogether_9 : decode cX6_ordersTogether 9 = .ok (.iload_n 2, 1) := by decide +kernel
theorem dX6_ordersTogether_10 : decode cX6_ordersTogether 10 = .ok (.iload_n 3, 1) := by decide +kernel
theorem dX6_ordersTogether_11 : decode cX6_ordersTogether 11 = .ok (.imul, 1) := by decide +kernel
theorem dX6_ordersTogether_12 : decode cX6_ordersTogether 12 = .ok (.istore_n 2, 1) := by decide +kernel
theorem dX6_ordersTogether_13 : decode cX6_ordersTogether 13 = .ok (.iinc 3 1, 3) := by decide +kernel
theorem dX6_ordersTogether_16 : decode cX6_ordersTogether 16 = .ok (.goto (-12), 3) := by decide +kernel
theorem dX6_ordersTogether_19 : decode cX6_ordersTogether 19 = .ok (.iload_n 0, 1) := by decide +kernel
theorem dX6_ordersTogether_20 : decode cX6_ordersTogether 20 = .ok (.iload_n 1, 1) := by decide +kernel
theorem dX6_ordersTogether_21 : decode cX6_ordersTogether 21 = .ok (.isub, 1) := by decide +kernel
theorem dX6_ordersTogether_22 : decode cX6_ordersTogether 22 = .ok (.istore_n 3, 1) := by decide +kernel
theorem dX6_ordersTogether_23 : decode cX6_ordersTogether 23 = .ok (.iconst 1, 1) := by decide +kernel
theorem dX6_ordersTogether_24 : decode cX6_ordersTogether 24 = .ok (.istore 4, 2) := by decide +kernel
theorem dX6_ordersTogether_26 : decode cX6_ordersTogether 26 = .ok (.iconst 2, 1) := by decide +kernel
theorem dX6_ordersTogether_27 : decode cX6_ordersTogether 27 = .ok (.istore 5, 2) := by decide +kernel
theorem dX6_ordersTogether_29 : decode cX6_ordersTogether 29 = .ok (.iload 5, 2) := by decide +kernel
theorem dX6_ordersTogether_31 : decode cX6_ordersTogether 31 = .ok (.iload_n 3, 1) := by decide +kernel
theorem dX6_ordersTogether_32 : decode cX6_ordersTogether 32 = .ok (.if_icmp .gt 16, 3) := by decide +kernel
theorem dX6_ordersTogether_35 : decode cX6_ordersTogether 35 = .ok (.iload 4, 2) := by decide +kernel
theorem dX6_ordersTogether_37 : decode cX6_ordersTogether 37 = .ok (.iload 5, 2) := by decide +kernel
theorem dX6_ordersTogether_39 : decode cX6_ordersTogether 39 = .ok (.imul, 1) := by decide +kernel
theorem dX6_ordersTogether_40 : decode cX6_ordersTogether 40 = .ok (.istore 4, 2) := by decide +kernel
theorem dX6_ordersTogether_42 : decode cX6_ordersTogether 42 = .ok (.iinc 5 1, 3) := by decide +kernel
theorem dX6_ordersTogether_45 : decode cX6_ordersTogether 45 = .ok (.goto (-16), 3) := by decide +kernel
theorem dX6_ordersTogether_48 : decode cX6_ordersTogether 48 = .ok (.iconst 0, 1) := by decide +kernel
theorem dX6_ordersTogether_49 : decode cX6_ordersTogether 49 = .ok (.istore 5, 2) := by decide +kernel
theorem dX6_ordersTogether_51 : decode cX6_ordersTogether 51 = .ok (.iload 5, 2) := by decide +kernel
theorem dX6_ordersTogether_53 : decode cX6_ordersTogether 53 = .ok (.iload_n 1, 1) := by decide +kernel
theorem dX6_ordersTogether_54 : decode cX6_ordersTogether 54 = .ok (.if_icmp .ge 20, 3) := by decide +kernel
theorem dX6_ordersTogether_57 : decode cX6_ordersTogether 57 = .ok (.iload 4, 2) := by decide +kernel
theorem dX6_ordersTogether_59 : decode cX6_ordersTogether 59 = .ok (.iload_n 3, 1) := by decide +kernel
theorem dX6_ordersTogether_60 : decode cX6_ordersTogether 60 = .ok (.iconst 1, 1) := by decide +kernel
theorem dX6_ordersTogether_61 : decode cX6_ordersTogether 61 = .ok (.iadd, 1) := by decide +kernel
theorem dX6_ordersTogether_62 : decode cX6_ordersTogether 62 = .ok (.iload 5, 2) := by decide +kernel
theorem dX6_ordersTogether_64 : decode cX6_ordersTogether 64 = .ok (.isub, 1) := by decide +kernel
theorem dX6_ordersTogether_65 : decode cX6_ordersTogether 65 = .ok (.imul, 1) := by decide +kernel
theorem dX6_ordersTogether_66 : decode cX6_ordersTogether 66 = .ok (.istore 4, 2) := by decide +kernel
theorem dX6_ordersTogether_68 : decode cX6_ordersTogether 68 = .ok (.iinc 5 1, 3) := by decide +kernel
theorem dX6_ordersTogether_71 : decode cX6_ordersTogether 71 = .ok (.goto (-20), 3) := by decide +kernel
theorem dX6_ordersTogether_74 : decode cX6_ordersTogether 74 = .ok (.iload_n 2, 1) := by decide +kernel
theorem dX6_ordersTogether_75 : decode cX6_ordersTogether 75 = .ok (.iload 4, 2) := by decide +kernel
theorem dX6_ordersTogether_77 : decode cX6_ordersTogether 77 = .ok (.isub, 1) := by decide +kernel
theorem dX6_ordersTogether_78 : decode cX6_ordersTogether 78 = .ok (.ireturn, 1) := by decide +kernel
theorem dX6_shelvesInUse_0 : decode cX6_shelvesInUse 0 = .ok (.iconst 0, 1) := by decide +kernel
theorem dX6_shelvesInUse_1 : decode cX6_shelvesInUse 1 = .ok (.istore_n 1, 1) := by decide +kernel
theorem dX6_shelvesInUse_2 : decode cX6_shelvesInUse 2 = .ok (.iconst 0, 1) := by decide +kernel
theorem dX6_shelvesInUse_3 : decode cX6_shelvesInUse 3 = .ok (.istore_n 2, 1) := by decide +kernel
theorem dX6_shelvesInUse_4 : decode cX6_shelvesInUse 4 = .ok (.iload_n 2, 1) := by decide +kernel
theorem dX6_shelvesInUse_5 : decode cX6_shelvesInUse 5 = .ok (.bipush 8, 2) := by decide +kernel
theorem dX6_shelvesInUse_7 : decode cX6_shelvesInUse 7 = .ok (.if_icmp .ge 25, 3) := by decide +kernel
theorem dX6_shelvesInUse_10 : decode cX6_shelvesInUse 10 = .ok (.aload_n 0, 1) := by decide +kernel
theorem dX6_shelvesInUse_11 : decode cX6_shelvesInUse 11 = .ok (.getfield 54, 3) := by decide +kernel
theorem dX6_shelvesInUse_14 : decode cX6_shelvesInUse 14 = .ok (.iload_n 2, 1) := by decide +kernel
theorem dX6_shelvesInUse_15 : decode cX6_shelvesInUse 15 = .ok (.aaload, 1) := by decide +kernel
theorem dX6_shelvesInUse_16 : decode cX6_shelvesInUse 16 = .ok (.getfield 87, 3) := by decide +kernel
theorem dX6_shelvesInUse_19 : decode cX6_shelvesInUse 19 = .ok (.iconst (-1), 1) := by decide +kernel
theorem dX6_shelvesInUse_20 : decode cX6_shelvesInUse 20 = .ok (.if_icmp .eq 6, 3) := by decide +kernel
theorem dX6_shelvesInUse_23 : decode cX6_shelvesInUse 23 = .ok (.iinc 1 1, 3) := by decide +kernel
theorem dX6_shelvesInUse_26 : decode cX6_shelvesInUse 26 = .ok (.iinc 2 1, 3) := by decide +kernel
theorem dX6_shelvesInUse_29 : decode cX6_shelvesInUse 29 = .ok (.goto (-25), 3) := by decide +kernel
theorem dX6_shelvesInUse_32 : decode cX6_shelvesInUse 32 = .ok (.iload_n 1, 1) := by decide +kernel
theorem dX6_shelvesInUse_33 : decode cX6_shelvesInUse 33 = .ok (.ireturn, 1) := by decide +kernel
theorem dX7_init_0 : decode cX7_init 0 = .ok (.aload_n 0, 1) := by decide +kernel
theorem dX7_init_1 : decode cX7_init 1 = .ok (.invokespecial 1, 3) := by decide +kernel
theorem dX7_init_4 : decode cX7_init 4 = .ok (.aload_n 0, 1) := by decide +kernel
theorem dX7_init_5 : decode cX7_init 5 = .ok (.bipush 8, 2) := by decide +kernel
theorem dX7_init_7 : decode cX7_init 7 = .ok (.newarray .int, 2) := by decide +kernel
theorem dX7_init_9 : decode cX7_init 9 = .ok (.putfield 7, 3) := by decide +kernel
theorem dX7_init_12 : decode cX7_init 12 = .ok (.aload_n 0, 1) := by decide +kernel
theorem dX7_init_13 : decode cX7_init 13 = .ok (.bipush 8, 2) := by decide +kernel
theorem dX7_init_15 : decode cX7_init 15 = .ok (.newarray .int, 2) := by decide +kernel
theorem dX7_init_17 : decode cX7_init 17 = .ok (.putfield 13, 3) := by decide +kernel
theorem dX7_init_20 : decode cX7_init 20 = .ok (.aload_n 0, 1) := by decide +kernel
theorem dX7_init_21 : decode cX7_init 21 = .ok (.bipush 8, 2) := by decide +kernel
theorem dX7_init_23 : decode cX7_init 23 = .ok (.newarray .int, 2) := by decide +kernel
theorem dX7_init_25 : decode cX7_init 25 = .ok (.putfield 16, 3) := by decide +kernel
theorem dX7_init_28 : decode cX7_init 28 = .ok (.aload_n 0, 1) := by decide +kernel
theorem dX7_init_29 : decode cX7_init 29 = .ok (.bipush 8, 2) := by decide +kernel
theorem dX7_init_31 : decode cX7_init 31 = .ok (.bipush 40, 2) := by decide +kernel
theorem dX7_init_33 : decode cX7_init 33 = .ok (.multianewarray 19 2, 4) := by decide +kernel
theorem dX7_init_37 : decode cX7_init 37 = .ok (.putfield 21, 3) := by decide +kernel
theorem dX7_init_40 : decode cX7_init 40 = .ok (.aload_n 0, 1) := by decide +kernel
theorem dX7_init_41 : decode cX7_init 41 = .ok (.bipush 40, 2) := by decide +kernel
theorem dX7_init_43 : decode cX7_init 43 = .ok (.newarray .long, 2) := by decide +kernel
theorem dX7_init_45 : decode cX7_init 45 = .ok (.putfield 24, 3) := by decide +kernel
theorem dX7_init_48 : decode cX7_init 48 = .ok (.aload_n 0, 1) := by decide +kernel
theorem dX7_init_49 : decode cX7_init 49 = .ok (.bipush 8, 2) := by decide +kernel
theorem dX7_init_51 : decode cX7_init 51 = .ok (.newarray .int, 2) := by decide +kernel
theorem dX7_init_53 : decode cX7_init 53 = .ok (.putfield 28, 3) := by decide +kernel
theorem dX7_init_56 : decode cX7_init 56 = .ok (.aload_n 0, 1) := by decide +kernel
theorem dX7_init_57 : decode cX7_init 57 = .ok (.sipush 250, 3) := by decide +kernel
theorem dX7_init_60 : decode cX7_init 60 = .ok (.newarray .int, 2) := by decide +kernel
theorem dX7_init_62 : decode cX7_init 62 = .ok (.putfield 31, 3) := by decide +kernel
theorem dX7_init_65 : decode cX7_init 65 = .ok (.aload_n 0, 1) := by decide +kernel
theorem dX7_init_66 : decode cX7_init 66 = .ok (.bipush 8, 2) := by decide +kernel
theorem dX7_init_68 : decode cX7_init 68 = .ok (.newarray .int, 2) := by decide +kernel
theorem dX7_init_70 : decode cX7_init 70 = .ok (.putfield 34, 3) := by decide +kernel
theorem dX7_init_73 : decode cX7_init 73 = .ok (.aload_n 0, 1) := by decide +kernel
theorem dX7_init_74 : decode cX7_init 74 = .ok (.bipush 8, 2) := by decide +kernel
theorem dX7_init_76 : decode cX7_init 76 = .ok (.newarray .int, 2) := by decide +kernel
theorem dX7_init_78 : decode cX7_init 78 = .ok (.putfield 37, 3) := by decide +kernel
theorem dX7_init_81 : decode cX7_init 81 = .ok (.aload_n 0, 1) := by decide +kernel
theorem dX7_init_82 : decode cX7_init 82 = .ok (.bipush 8, 2) := by decide +kernel
theorem dX7_init_84 : decode cX7_init 84 = .ok (.newarray .int, 2) := by decide +kernel
theorem dX7_init_86 : decode cX7_init 86 = .ok (.putfield 40, 3) := by decide +kernel
theorem dX7_init_89 : decode cX7_init 89 = .ok (.aload_n 0, 1) := by decide +kernel
theorem dX7_init_90 : decode cX7_init 90 = .ok (.bipush 8, 2) := by decide +kernel
theorem dX7_init_92 : decode cX7_init 92 = .ok (.newarray .int, 2) := by decide +kernel
theorem dX7_init_94 : decode cX7_init 94 = .ok (.putfield 43, 3) := by decide +kernel
theorem dX7_init_97 : decode cX7_init 97 = .ok (.aload_n 0, 1) := by decide +kernel
theorem dX7_init_98 : decode cX7_init 98 = .ok (.bipush 8, 2) := by decide +kernel
theorem dX7_init_100 : decode cX7_init 100 = .ok (.newarray .int, 2) := by decide +kernel
theorem dX7_init_102 : decode cX7_init 102 = .ok (.putfield 46, 3) := by decide +kernel
theorem dX7_init_105 : decode cX7_init 105 = .ok (.aload_n 0, 1) := by decide +kernel
theorem dX7_init_106 : decode cX7_init 106 = .ok (.bipush 8, 2) := by decide +kernel
theorem dX7_init_108 : decode cX7_init 108 = .ok (.newarray .int, 2) := by decide +kernel
theorem dX7_init_110 : decode cX7_init 110 = .ok (.putfield 49, 3) := by decide +kernel
theorem dX7_init_113 : decode cX7_init 113 = .ok (.aload_n 0, 1) := by decide +kernel
theorem dX7_init_114 : decode cX7_init 114 = .ok (.iconst 2, 1) := by decide +kernel
theorem dX7_init_115 : decode cX7_init 115 = .ok (.bipush 8, 2) := by decide +kernel
theorem dX7_init_117 : decode cX7_init 117 = .ok (.multianewarray 52 2, 4) := by decide +kernel
theorem dX7_init_121 : decode cX7_init 121 = .ok (.putfield 54, 3) := by decide +kernel
theorem dX7_init_124 : decode cX7_init 124 = .ok (.aload_n 0, 1) := by decide +kernel
theorem dX7_init_125 : decode cX7_init 125 = .ok (.iconst 2, 1) := by decide +kernel
theorem dX7_init_126 : decode cX7_init 126 = .ok (.newarray .int, 2) := by decide +kernel
theorem dX7_init_128 : decode cX7_init 128 = .ok (.putfield 57, 3) := by decide +kernel
theorem dX7_init_131 : decode cX7_init 131 = .ok (.aload_n 0, 1) := by decide +kernel
theorem dX7_init_132 : decode cX7_init 132 = .ok (.bipush 9, 2) := by decide +kernel
theorem dX7_init_134 : decode cX7_init 134 = .ok (.putfield 60, 3) := by decide +kernel
theorem dX7_init_137 : decode cX7_init 137 = .ok (.aload_n 0, 1) := by decide +kernel
theorem dX7_init_138 : decode cX7_init 138 = .ok (.iconst 1, 1) := by decide +kernel
theorem dX7_init_139 : decode cX7_init 139 = .ok (.putfield 64, 3) := by decide +kernel
theorem dX7_init_142 : decode cX7_init 142 = .ok (.aload_n 0, 1) := by decide +kernel
theorem dX7_init_143 : decode cX7_init 143 = .ok (.bipush 20, 2) := by decide +kernel
theorem dX7_init_145 : decode cX7_init 145 = .ok (.putfield 67, 3) := by decide +kernel
theorem dX7_init_148 : decode cX7_init 148 = .ok (.aload_n 0, 1) := by decide +kernel
theorem dX7_init_149 : decode cX7_init 149 = .ok (.iconst 1, 1) := by decide +kernel
theorem dX7_init_150 : decode cX7_init 150 = .ok (.putfield 70, 3) := by decide +kernel
theorem dX7_init_153 : decode cX7_init 153 = .ok (.aload_n 0, 1) := by decide +kernel
theorem dX7_init_154 : decode cX7_init 154 = .ok (.iconst 5, 1) := by decide +kernel
theorem dX7_init_155 : decode cX7_init 155 = .ok (.newarray .int, 2) := by decide +kernel
theorem dX7_init_157 : decode cX7_init 157 = .ok (.putfield 73, 3) := by decide +kernel
theorem dX7_init_160 : decode cX7_init 160 = .ok (.aload_n 0, 1) := by decide +kernel
theorem dX7_init_161 : decode cX7_init 161 = .ok (.bipush 8, 2) := by decide +kernel
theorem dX7_init_163 : decode cX7_init 163 = .ok (.newarray .int, 2) := by decide +kernel
theorem dX7_init_165 : decode cX7_init 165 = .ok (.putfield 76, 3) := by decide +kernel
theorem dX7_init_168 : decode cX7_init 168 = .ok (.aload_n 0, 1) := by decide +kernel
theorem dX7_init_169 : decode cX7_init 169 = .ok (.bipush 8, 2) := by decide +kernel
theorem dX7_init_171 : decode cX7_init 171 = .ok (.newarray .int, 2) := by decide +kernel
theorem dX7_init_173 : decode cX7_init 173 = .ok (.putfield 79, 3) := by decide +kernel
theorem dX7_init_176 : decode cX7_init 176 = .ok (.return_, 1) := by decide +kernel
theorem dX7_refuse_0 : decode cX7_refuse 0 = .ok (.aload_n 0, 1) := by decide +kernel
theorem dX7_refuse_1 : decode cX7_refuse 1 = .ok (.getfield 34, 3) := by decide +kernel
theorem dX7_refuse_4 : decode cX7_refuse 4 = .ok (.iload_n 1, 1) := by decide +kernel
theorem dX7_refuse_5 : decode cX7_refuse 5 = .ok (.ineg, 1) := by decide +kernel
theorem dX7_refuse_6 : decode cX7_refuse 6 = .ok (.dup2, 1) := by decide +kernel
theorem dX7_refuse_7 : decode cX7_refuse 7 = .ok (.iaload, 1) := by decide +kernel
theorem dX7_refuse_8 : decode cX7_refuse 8 = .ok (.iconst 1, 1) := by decide +kernel
theorem dX7_refuse_9 : decode cX7_refuse 9 = .ok (.iadd, 1) := by decide +kernel
theorem dX7_refuse_10 : decode cX7_refuse 10 = .ok (.iastore, 1) := by decide +kernel
theorem dX7_refuse_11 : decode cX7_refuse 11 = .ok (.iload_n 1, 1) := by decide +kernel
theorem dX7_refuse_12 : decode cX7_refuse 12 = .ok (.ireturn, 1) := by decide +kernel
theorem dX7_in_0 : decode cX7_in 0 = .ok (.lload_n 0, 1) := by decide +kernel
theorem dX7_in_1 : decode cX7_in 1 = .ok (.lload_n 2, 1) := by decide +kernel
theorem dX7_in_2 : decode cX7_in 2 = .ok (.lcmp, 1) := by decide +kernel
theorem dX7_in_3 : decode cX7_in 3 = .ok (.ifCond .lt 14, 3) := by decide +kernel
theorem dX7_in_6 : decode cX7_in 6 = .ok (.lload_n 0, 1) := by decide +kernel
theorem dX7_in_7 : decode cX7_in 7 = .ok (.lload 4, 2) := by decide +kernel
theorem dX7_in_9 : decode cX7_in 9 = .ok (.lcmp, 1) := by decide +kernel
theorem dX7_in_10 : decode cX7_in 10 = .ok (.ifCond .gt 7, 3) := by decide +kernel
theorem dX7_in_13 : decode cX7_in 13 = .ok (.iconst 1, 1) := by decide +kernel
theorem dX7_in_14 : decode cX7_in 14 = .ok (.goto 4, 3) := by decide +kernel
theorem dX7_in_17 : decode cX7_in 17 = .ok (.iconst 0, 1) := by decide +kernel
theorem dX7_in_18 : decode cX7_in 18 = .ok (.ireturn, 1) := by decide +kernel
theorem dX7_isOne_0 : decode cX7_isOne 0 = .ok (.iload_n 1, 1) := by decide +kernel
theorem dX7_isOne_1 : decode cX7_isOne 1 = .ok (.i2l, 1) := by decide +kernel
theorem dX7_isOne_2 : decode cX7_isOne 2 = .ok (.lconst 0, 1) := by decide +kernel
theorem dX7_isOne_3 : decode cX7_isOne 3 = .ok (.aload_n 0, 1) := by decide +kernel
theorem dX7_isOne_4 : decode cX7_isOne 4 = .ok (.getfield 82, 3) := by decide +kernel
theorem dX7_isOne_7 : decode cX7_isOne 7 = .ok (.iconst 1, 1) := by decide +kernel
theorem dX7_isOne_8 : decode cX7_isOne 8 = .ok (.isub, 1) := by decide +kernel
theorem dX7_isOne_9 : decode cX7_isOne 9 = .ok (.i2l, 1) := by decide +kernel
theorem dX7_isOne_10 : decode cX7_isOne 10 = .ok (.invokestatic 85, 3) := by decide +kernel
theorem dX7_isOne_13 : decode cX7_isOne 13 = .ok (.ireturn, 1) := by decide +kernel
theorem dX7_placeOf_0 : decode cX7_placeOf 0 = .ok (.iconst 0, 1) := by decide +kernel
theorem dX7_placeOf_1 : decode cX7_placeOf 1 = .ok (.istore_n 2, 1) := by decide +kernel
theorem dX7_placeOf_2 : decode cX7_placeOf 2 = .ok (.iload_n 2, 1) := by decide +kernel
theorem dX7_placeOf_3 : decode cX7_placeOf 3 = .ok (.iconst 2, 1) := by decide +kernel
theorem dX7_placeOf_4 : decode cX7_placeOf 4 = .ok (.if_icmp .ge 46, 3) := by decide +kernel
theorem dX7_placeOf_7 : decode cX7_placeOf 7 = .ok (.iconst 0, 1) := by decide +kernel
theorem dX7_placeOf_8 : decode cX7_placeOf 8 = .ok (.istore_n 3, 1) := by decide +kernel
theorem dX7_placeOf_9 : decode cX7_placeOf 9 = .ok (.iload_n 3, 1) := by decide +kernel
theorem dX7_placeOf_10 : decode cX7_placeOf 10 = .ok (.aload_n 0, 1) := by decide +kernel
theorem dX7_placeOf_11 : decode cX7_placeOf 11 = .ok (.getfield 57, 3) := by decide +kernel
theorem dX7_placeOf_14 : decode cX7_placeOf 14 = .ok (.iload_n 2, 1) := by decide +kernel
theorem dX7_placeOf_15 : decode cX7_placeOf 15 = .ok (.iaload, 1) := by decide +kernel
theorem dX7_placeOf_16 : decode cX7_placeOf 16 = .ok (.if_icmp .ge 28, 3) := by decide +kernel
theorem dX7_placeOf_19 : decode cX7_placeOf 19 = .ok (.aload_n 0, 1) := by decide +kernel
theorem dX7_placeOf_20 : decode cX7_placeOf 20 = .ok (.getfield 54, 3) := by decide +kernel
theorem dX7_placeOf_23 : decode cX7_placeOf 23 = .ok (.iload_n 2, 1) := by decide +kernel
theorem dX7_placeOf_24 : decode cX7_placeOf 24 = .ok (.aaload, 1) := by decide +kernel
theorem dX7_placeOf_25 : decode cX7_placeOf 25 = .ok (.iload_n 3, 1) := by decide +kernel
theorem dX7_placeOf_26 : decode cX7_placeOf 26 = .ok (.iaload, 1) := by decide +kernel
theorem dX7_placeOf_27 : decode cX7_placeOf 27 = .ok (.iload_n 1, 1) := by decide +kernel
theorem dX7_placeOf_28 : decode cX7_placeOf 28 = .ok (.if_icmp .ne 10, 3) := by decide +kernel
theorem dX7_placeOf_31 : decode cX7_placeOf 31 = .ok (.bipush 10, 2) := by decide +kernel
theorem dX7_placeOf_33 : decode cX7_placeOf 33 = .ok (.iload_n 2, 1) := by decide +kernel
theorem dX7_placeOf_34 : decode cX7_placeOf 34 = .ok (.imul, 1) := by decide +kernel
theorem dX7_placeOf_35 : decode cX7_placeOf 35 = .ok (.iload_n 3, 1) := by decide +kernel
theorem dX7_placeOf_36 : decode cX7_placeOf 36 = .ok (.iadd, 1) := by decide +kernel
theorem dX7_placeOf_37 : decode cX7_placeOf 37 = .ok (.ireturn, 1) := by decide +kernel
theorem dX7_placeOf_38 : decode cX7_placeOf 38 = .ok (.iinc 3 1, 3) := by decide +kernel
theorem dX7_placeOf_41 : decode cX7_placeOf 41 = .ok (.goto (-32), 3) := by decide +kernel
theorem dX7_placeOf_44 : decode cX7_placeOf 44 = .ok (.iinc 2 1, 3) := by decide +kernel
theorem dX7_placeOf_47 : decode cX7_placeOf 47 = .ok (.goto (-45), 3) := by decide +kernel
theorem dX7_placeOf_50 : decode cX7_placeOf 50 = .ok (.iconst (-1), 1) := by decide +kernel
theorem dX7_placeOf_51 : decode cX7_placeOf 51 = .ok (.ireturn, 1) := by decide +kernel
theorem dX7_chainAt_0 : decode cX7_chainAt 0 = .ok (.aload_n 0, 1) := by decide +kernel
theorem dX7_chainAt_1 : decode cX7_chainAt 1 = .ok (.iload_n 1, 1) := by decide +kernel
theorem dX7_chainAt_2 : decode cX7_chainAt 2 = .ok (.invokevirtual 89, 3) := by decide +kernel
theorem dX7_chainAt_5 : decode cX7_chainAt 5 = .ok (.bipush 10, 2) := by decide +kernel
theorem dX7_chainAt_7 : decode cX7_chainAt 7 = .ok (.idiv, 1) := by decide +kernel
theorem dX7_chainAt_8 : decode cX7_chainAt 8 = .ok (.ireturn, 1) := by decide +kernel
theorem dX7_row_0 : decode cX7_row 0 = .ok (.iload_n 1, 1) := by decide +kernel
theorem dX7_row_1 : decode cX7_row 1 = .ok (.i2l, 1) := by decide +kernel
theorem dX7_row_2 : decode cX7_row 2 = .ok (.lconst 0, 1) := by decide +kernel
theorem dX7_row_3 : decode cX7_row 3 = .ok (.ldc2_w 93, 3) := by decide +kernel
theorem dX7_row_6 : decode cX7_row 6 = .ok (.invokestatic 85, 3) := by decide +kernel
theorem dX7_row_9 : decode cX7_row 9 = .ok (.ifCond .eq 27, 3) := by decide +kernel
theorem dX7_row_12 : decode cX7_row 12 = .ok (.iload_n 2, 1) := by decide +kernel
theorem dX7_row_13 : decode cX7_row 13 = .ok (.i2l, 1) := by decide +kernel
theorem dX7_row_14 : decode cX7_row 14 = .ok (.lconst 0, 1) := by decide +kernel
theorem dX7_row_15 : decode cX7_row 15 = .ok (.ldc2_w 95, 3) := by decide +kernel
theorem dX7_row_18 : decode cX7_row 18 = .ok (.invokestatic 85, 3) := by decide +kernel
theorem dX7_row_21 : decode cX7_row 21 = .ok (.ifCond .eq 15, 3) := by decide +kernel
theorem dX7_row_24 : decode cX7_row 24 = .ok (.iload_n 3, 1) := by decide +kernel
theorem dX7_row_25 : decode cX7_row 25 = .ok (.i2l, 1) := by decide +kernel
theorem dX7_row_26 : decode cX7_row 26 = .ok (.lconst 0, 1) := by decide +kernel
theorem dX7_row_27 : decode cX7_row 27 = .ok (.ldc2_w 97, 3) := by decide +kernel
theorem dX7_row_30 : decode cX7_row 30 = .ok (.invokestatic 85, 3) := by decide +kernel
theorem dX7_row_33 : decode cX7_row 33 = .ok (.ifCond .ne 10, 3) := by decide +kernel
theorem dX7_row_36 : decode cX7_row 36 = .ok (.aload_n 0, 1) := by decide +kernel
theorem dX7_row_37 : decode cX7_row 37 = .ok (.bipush (-2), 2) := by decide +kernel
theorem dX7_row_39 : decode cX7_row 39 = .ok (.invokevirtual 99, 3) := by decide +kernel
theorem dX7_row_42 : decode cX7_row 42 = .ok (.ireturn, 1) := by decide +kernel
theorem dX7_row_43 : decode cX7_row 43 = .ok (.aload_n 0, 1) := by decide +kernel
theorem dX7_row_44 : decode cX7_row 44 = .ok (.getfield 7, 3) := by decide +kernel
theorem dX7_row_47 : decode cX7_row 47 = .ok (.iload_n 1, 1) := by decide +kernel
theorem dX7_row_48 : decode cX7_row 48 = .ok (.iconst 1, 1) := by decide +kernel
theorem dX7_row_49 : decode cX7_row 49 = .ok (.iastore, 1) := by decide +kernel
theorem dX7_row_50 : decode cX7_row 50 = .ok (.aload_n 0, 1) := by decide +kernel
theorem dX7_row_51 : decode cX7_row 51 = .ok (.getfield 13, 3) := by decide +kernel
theorem dX7_row_54 : decode cX7_row 54 = .ok (.iload_n 1, 1) := by decide +kernel
theorem dX7_row_55 : decode cX7_row 55 = .ok (.iload_n 2, 1) := by decide +kernel
theorem dX7_row_56 : decode cX7_row 56 = .ok (.iastore, 1) := by decide +kernel
theorem dX7_row_57 : decode cX7_row 57 = .ok (.aload_n 0, 1) := by decide +kernel
theorem dX7_row_58 : decode cX7_row 58 = .ok (.getfield 16, 3) := by decide +kernel
theorem dX7_row_61 : decode cX7_row 61 = .ok (.iload_n 1, 1) := by decide +kernel
theorem dX7_row_62 : decode cX7_row 62 = .ok (.iload_n 3, 1) := by decide +kernel
theorem dX7_row_63 : decode cX7_row 63 = .ok (.iastore, 1) := by decide +kernel
theorem dX7_row_64 : decode cX7_row 64 = .ok (.iconst 0, 1) := by decide +kernel
theorem dX7_row_65 : decode cX7_row 65 = .ok (.istore 4, 2) := by decide +kernel
theorem dX7_row_67 : decode cX7_row 67 = .ok (.iload 4, 2) := by decide +kernel
theorem dX7_row_69 : decode cX7_row 69 = .ok (.bipush 40, 2) := by decide +kernel
theorem dX7_row_71 : decode cX7_row 71 = .ok (.if_icmp .ge 19, 3) := by decide +kernel
theorem dX7_row_74 : decode cX7_row 74 = .ok (.aload_n 0, 1) := by decide +kernel
theorem dX7_row_75 : decode cX7_row 75 = .ok (.getfield 21, 3) := by decide +kernel
theorem dX7_row_78 : decode cX7_row 78 = .ok (.iload_n 1, 1) := by decide +kernel
theorem dX7_row_79 : decode cX7_row 79 = .ok (.aaload, 1) := by decide +kernel
theorem dX7_row_80 : decode cX7_row 80 = .ok (.iload 4, 2) := by decide +kernel
theorem dX7_row_82 : decode cX7_row 82 = .ok (.lconst 0, 1) := by decide +kernel
theorem dX7_row_83 : decode cX7_row 83 = .ok (.lastore, 1) := by decide +kernel
theorem dX7_row_84 : decode cX7_row 84 = .ok (.iinc 4 1, 3) := by decide +kernel
theorem dX7_row_87 : decode cX7_row 87 = .ok (.goto (-20), 3) := by decide +kernel
theorem dX7_row_90 : decode cX7_row 90 = .ok (.iconst 1, 1) := by decide +kernel
theorem dX7_row_91 : decode cX7_row 91 = .ok (.ireturn, 1) := by decide +kernel
theorem dX7_fit_0 : decode cX7_fit 0 = .ok (.iload_n 0, 1) := by decide +kernel
theorem dX7_fit_1 : decode cX7_fit 1 = .ok (.tableswitch 47 0 3 #[31, 36, 41, 45], 31) := by decide +kernel
theorem dX7_fit_32 : decode cX7_fit 32 = .ok (.lload_n 1, 1) := by decide +kernel
theorem dX7_fit_33 : decode cX7_fit 33 = .ok (.l2i, 1) := by decide +kernel
theorem dX7_fit_34 : decode cX7_fit 34 = .ok (.i2b, 1) := by decide +kernel
theorem dX7_fit_35 : decode cX7_fit 35 = .ok (.i2l, 1) := by decide +kernel
theorem dX7_fit_36 : decode cX7_fit 36 = .ok (.lreturn, 1) := by decide +kernel
theorem dX7_fit_37 : decode cX7_fit 37 = .ok (.lload_n 1, 1) := by decide +kernel
theorem dX7_fit_38 : decode cX7_fit 38 = .ok (.l2i, 1) := by decide +kernel
theorem dX7_fit_39 : decode cX7_fit 39 = .ok (.i2s, 1) := by decide +kernel
theorem dX7_fit_40 : decode cX7_fit 40 = .ok (.i2l, 1) := by decide +kernel
theorem dX7_fit_41 : decode cX7_fit 41 = .ok (.lreturn, 1) := by decide +kernel
theorem dX7_fit_42 : decode cX7_fit 42 = .ok (.lload_n 1, 1) := by decide +kernel
theorem dX7_fit_43 : decode cX7_fit 43 = .ok (.l2i, 1) := by decide +kernel
theorem dX7_fit_44 : decode cX7_fit 44 = .ok (.i2l, 1) := by decide +kernel
theorem dX7_fit_45 : decode cX7_fit 45 = .ok (.lreturn, 1) := by decide +kernel
theorem dX7_fit_46 : decode cX7_fit 46 = .ok (.lload_n 1, 1) := by decide +kernel
theorem dX7_fit_47 : decode cX7_fit 47 = .ok (.lreturn, 1) := by decide +kernel
theorem dX7_fit_48 : decode cX7_fit 48 = .ok (.lload_n 1, 1) := by decide +kernel
theorem dX7_fit_49 : decode cX7_fit 49 = .ok (.lconst 0, 1) := by decide +kernel
theorem dX7_fit_50 : decode cX7_fit 50 = .ok (.lcmp, 1) := by decide +kernel
theorem dX7_fit_51 : decode cX7_fit 51 = .ok (.ifCond .eq 7, 3) := by decide +kernel
theorem dX7_fit_54 : decode cX7_fit 54 = .ok (.lconst 1, 1) := by decide +kernel
theorem dX7_fit_55 : decode cX7_fit 55 = .ok (.goto 4, 3) := by decide +kernel
theorem dX7_fit_58 : decode cX7_fit 58 = .ok (.lconst 0, 1) := by decide +kernel
theorem dX7_fit_59 : decode cX7_fit 59 = .ok (.lreturn, 1) := by decide +kernel
theorem dX7_noRow_0 : decode cX7_noRow 0 = .ok (.iload_n 1, 1) := by decide +kernel
theorem dX7_noRow_1 : decode cX7_noRow 1 = .ok (.i2l, 1) := by decide +kernel
theorem dX7_noRow_2 : decode cX7_noRow 2 = .ok (.lconst 0, 1) := by decide +kernel
theorem dX7_noRow_3 : decode cX7_noRow 3 = .ok (.ldc2_w 93, 3) := by decide +kernel
theorem dX7_noRow_6 : decode cX7_noRow 6 = .ok (.invokestatic 85, 3) := by decide +kernel
theorem dX7_noRow_9 : decode cX7_noRow 9 = .ok (.ifCond .ne 10, 3) := by decide +kernel
theorem dX7_noRow_12 : decode cX7_noRow 12 = .ok (.aload_n 0, 1) := by decide +kernel
theorem dX7_noRow_13 : decode cX7_noRow 13 = .ok (.bipush (-2), 2) := by decide +kernel
theorem dX7_noRow_15 : decode cX7_noRow 15 = .ok (.invokevirtual 99, 3) := by decide +kernel
theorem dX7_noRow_18 : decode cX7_noRow 18 = .ok (.ireturn, 1) := by decide +kernel
theorem dX7_noRow_19 : decode cX7_noRow 19 = .ok (.aload_n 0, 1) := by decide +kernel
theorem dX7_noRow_20 : decode cX7_noRow 20 = .ok (.getfield 7, 3) := by decide +kernel
theorem dX7_noRow_23 : decode cX7_noRow 23 = .ok (.iload_n 1, 1) := by decide +kernel
theorem dX7_noRow_24 : decode cX7_noRow 24 = .ok (.iaload, 1) := by decide +kernel
theorem dX7_noRow_25 : decode cX7_noRow 25 = .ok (.iconst 2, 1) := by decide +kernel
theorem dX7_noRow_26 : decode cX7_noRow 26 = .ok (.if_icmp .ne 10, 3) := by decide +kernel
theorem dX7_noRow_29 : decode cX7_noRow 29 = .ok (.aload_n 0, 1) := by decide +kernel
theorem dX7_noRow_30 : decode cX7_noRow 30 = .ok (.bipush (-3), 2) := by decide +kernel
theorem dX7_noRow_32 : decode cX7_noRow 32 = .ok (.invokevirtual 99, 3) := by decide +kernel
theorem dX7_noRow_35 : decode cX7_noRow 35 = .ok (.ireturn, 1) := by decide +kernel
theorem dX7_noRow_36 : decode cX7_noRow 36 = .ok (.aload_n 0, 1) := by decide +kernel
theorem dX7_noRow_37 : decode cX7_noRow 37 = .ok (.getfield 7, 3) := by decide +kernel
theorem dX7_noRow_40 : decode cX7_noRow 40 = .ok (.iload_n 1, 1) := by decide +kernel
theorem dX7_noRow_41 : decode cX7_noRow 41 = .ok (.iaload, 1) := by decide +kernel
theorem dX7_noRow_42 : decode cX7_noRow 42 = .ok (.ifCond .ne 12, 3) := by decide +kernel
theorem dX7_noRow_45 : decode cX7_noRow 45 = .ok (.aload_n 0, 1) := by decide +kernel
theorem dX7_noRow_46 : decode cX7_noRow 46 = .ok (.bipush (-4), 2) := by decide +kernel
theorem dX7_noRow_48 : decode cX7_noRow 48 = .ok (.invokevirtual 99, 3) := by decide +kernel
theorem dX7_noRow_51 : decode cX7_noRow 51 = .ok (.goto 4, 3) := by decide +kernel
theorem dX7_noRow_54 : decode cX7_noRow 54 = .ok (.iconst 0, 1) := by decide +kernel
theorem dX7_noRow_55 : decode cX7_noRow 55 = .ok (.ireturn, 1) := by decide +kernel
theorem dX7_set_0 : decode cX7_set 0 = .ok (.aload_n 0, 1) := by decide +kernel
theorem dX7_set_1 : decode cX7_set 1 = .ok (.iload_n 1, 1) := by decide +kernel
theorem dX7_set_2 : decode cX7_set 2 = .ok (.invokevirtual 102, 3) := by decide +kernel
theorem dX7_set_5 : decode cX7_set 5 = .ok (.istore 5, 2) := by decide +kernel
theorem dX7_set_7 : decode cX7_set 7 = .ok (.iload 5, 2) := by decide +kernel
theorem dX7_set_9 : decode cX7_set 9 = .ok (.ifCond .eq 6, 3) := by decide +kernel
theorem dX7_set_12 : decode cX7_set 12 = .ok (.iload 5, 2) := by decide +kernel
theorem dX7_set_14 : decode cX7_set 14 = .ok (.ireturn, 1) := by decide +kernel
theorem dX7_set_15 : decode cX7_set 15 = .ok (.iload_n 2, 1) := by decide +kernel
theorem dX7_set_16 : decode cX7_set 16 = .ok (.i2l, 1) := by decide +kernel
theorem dX7_set_17 : decode cX7_set 17 = .ok (.lconst 0, 1) := by decide +kernel
theorem dX7_set_18 : decode cX7_set 18 = .ok (.aload_n 0, 1) := by decide +kernel
theorem dX7_set_19 : decode cX7_set 19 = .ok (.getfield 16, 3) := by decide +kernel
theorem dX7_set_22 : decode cX7_set 22 = .ok (.iload_n 1, 1) := by decide +kernel
theorem dX7_set_23 : decode cX7_set 23 = .ok (.iaload, 1) := by decide +kernel
theorem dX7_set_24 : decode cX7_set 24 = .ok (.iconst 1, 1) := by decide +kernel
theorem dX7_set_25 : decode cX7_set 25 = .ok (.isub, 1) := by decide +kernel
theorem dX7_set_26 : decode cX7_set 26 = .ok (.i2l, 1) := by decide +kernel
theorem dX7_set_27 : decode cX7_set 27 = .ok (.invokestatic 85, 3) := by decide +kernel
theorem dX7_set_30 : decode cX7_set 30 = .ok (.ifCond .ne 10, 3) := by decide +kernel
theorem dX7_set_33 : decode cX7_set 33 = .ok (.aload_n 0, 1) := by decide +kernel
theorem dX7_set_34 : decode cX7_set 34 = .ok (.bipush (-2), 2) := by decide +kernel
theorem dX7_set_36 : decode cX7_set 36 = .ok (.invokevirtual 99, 3) := by decide +kernel
theorem dX7_set_39 : decode cX7_set 39 = .ok (.ireturn, 1) := by decide +kernel
theorem dX7_set_40 : decode cX7_set 40 = .ok (.aload_n 0, 1) := by decide +kernel
theorem dX7_set_41 : decode cX7_set 41 = .ok (.getfield 21, 3) := by decide +kernel
theorem dX7_set_44 : decode cX7_set 44 = .ok (.iload_n 1, 1) := by decide +kernel
theorem dX7_set_45 : decode cX7_set 45 = .ok (.aaload, 1) := by decide +kernel
theorem dX7_set_46 : decode cX7_set 46 = .ok (.iload_n 2, 1) := by decide +kernel
theorem dX7_set_47 : decode cX7_set 47 = .ok (.aload_n 0, 1) := by decide +kernel
theorem dX7_set_48 : decode cX7_set 48 = .ok (.getfield 13, 3) := by decide +kernel
theorem dX7_set_51 : decode cX7_set 51 = .ok (.iload_n 1, 1) := by decide +kernel
theorem dX7_set_52 : decode cX7_set 52 = .ok (.iaload, 1) := by decide +kernel
theorem dX7_set_53 : decode cX7_set 53 = .ok (.lload_n 3, 1) := by decide +kernel
theorem dX7_set_54 : decode cX7_set 54 = .ok (.invokestatic 105, 3) := by decide +kernel
theorem dX7_set_57 : decode cX7_set 57 = .ok (.lastore, 1) := by decide +kernel
theorem dX7_set_58 : decode cX7_set 58 = .ok (.iconst 1, 1) := by decide +kernel
theorem dX7_set_59 : decode cX7_set 59 = .ok (.ireturn, 1) := by decide +kernel
theorem dX7_copy_0 : decode cX7_copy 0 = .ok (.iload_n 1, 1) := by decide +kernel
theorem dX7_copy_1 : decode cX7_copy 1 = .ok (.i2l, 1) := by decide +kernel
theorem dX7_copy_2 : decode cX7_copy 2 = .ok (.lconst 0, 1) := by decide +kernel
theorem dX7_copy_3 : decode cX7_copy 3 = .ok (.ldc2_w 93, 3) := by decide +kernel
theorem dX7_copy_6 : decode cX7_copy 6 = .ok (.invokestatic 85, 3) := by decide +kernel
theorem dX7_copy_9 : decode cX7_copy 9 = .ok (.ifCond .eq 15, 3) := by decide +kernel
theorem dX7_copy_12 : decode cX7_copy 12 = .ok (.iload_n 2, 1) := by decide +kernel
theorem dX7_copy_13 : decode cX7_copy 13 = .ok (.i2l, 1) := by decide +kernel
theorem dX7_copy_14 : decode cX7_copy 14 = .ok (.lconst 0, 1) := by decide +kernel
theorem dX7_copy_15 : decode cX7_copy 15 = .ok (.ldc2_w 93, 3) := by decide +kernel
theorem dX7_copy_18 : decode cX7_copy 18 = .ok (.invokestatic 85, 3) := by decide +kernel
theorem dX7_copy_21 : decode cX7_copy 21 = .ok (.ifCond .ne 10, 3) := by decide +kernel
theorem dX7_copy_24 : decode cX7_copy 24 = .ok (.aload_n 0, 1) := by decide +kernel
theorem dX7_copy_25 : decode cX7_copy 25 = .ok (.bipush (-2), 2) := by decide +kernel
theorem dX7_copy_27 : decode cX7_copy 27 = .ok (.invokevirtual 99, 3) := by decide +kernel
theorem dX7_copy_30 : decode cX7_copy 30 = .ok (.ireturn, 1) := by decide +kernel
theorem dX7_copy_31 : decode cX7_copy 31 = .ok (.aload_n 0, 1) := by decide +kernel
theorem dX7_copy_32 : decode cX7_copy 32 = .ok (.getfield 7, 3) := by decide +kernel
theorem dX7_copy_35 : decode cX7_copy 35 = .ok (.iload_n 1, 1) := by decide +kernel
theorem dX7_copy_36 : decode cX7_copy 36 = .ok (.iaload, 1) := by decide +kernel
theorem dX7_copy_37 : decode cX7_copy 37 = .ok (.iconst 2, 1) := by decide +kernel
theorem dX7_copy_38 : decode cX7_copy 38 = .ok (.if_icmp .eq 48, 3) := by decide +kernel
theorem dX7_copy_41 : decode cX7_copy 41 = .ok (.aload_n 0, 1) := by decide +kernel
theorem dX7_copy_42 : decode cX7_copy 42 = .ok (.getfield 7, 3) := by decide +kernel
theorem dX7_copy_45 : decode cX7_copy 45 = .ok (.iload_n 2, 1) := by decide +kernel
theorem dX7_copy_46 : decode cX7_copy 46 = .ok (.iaload, 1) := by decide +kernel
theorem dX7_copy_47 : decode cX7_copy 47 = .ok (.iconst 2, 1) := by decide +kernel
theorem dX7_copy_48 : decode cX7_copy 48 = .ok (.if_icmp .eq 38, 3) := by decide +kernel
theorem dX7_copy_51 : decode cX7_copy 51 = .ok (.aload_n 0, 1) := by decide +kernel
theorem dX7_copy_52 : decode cX7_copy 52 = .ok (.getfield 7, 3) := by decide +kernel
theorem dX7_copy_55 : decode cX7_copy 55 = .ok (.iload_n 1, 1) := by decide +kernel
theorem dX7_copy_56 : decode cX7_copy 56 = .ok (.iaload, 1) := by decide +kernel
theorem dX7_copy_57 : decode cX7_copy 57 = .ok (.iconst 1, 1) := by decide +kernel
theorem dX7_copy_58 : decode cX7_copy 58 = .ok (.if_icmp .ne 35, 3) := by decide +kernel
theorem dX7_copy_61 : decode cX7_copy 61 = .ok (.aload_n 0, 1) := by decide +kernel
theorem dX7_copy_62 : decode cX7_copy 62 = .ok (.getfield 7, 3) := by decide +kernel
theorem dX7_copy_65 : decode cX7_copy 65 = .ok (.iload_n 2, 1) := by decide +kernel
theorem dX7_copy_66 : decode cX7_copy 66 = .ok (.iaload, 1) := by decide +kernel
theorem dX7_copy_67 : decode cX7_copy 67 = .ok (.iconst 1, 1) := by decide +kernel
theorem dX7_copy_68 : decode cX7_copy 68 = .ok (.if_icmp .ne 25, 3) := by decide +kernel
theorem dX7_copy_71 : decode cX7_copy 71 = .ok (.aload_n 0, 1) := by decide +kernel
theorem dX7_copy_72 : decode cX7_copy 72 = .ok (.getfield 13, 3) := by decide +kernel
theorem dX7_copy_75 : decode cX7_copy 75 = .ok (.iload_n 1, 1) := by decide +kernel
theorem dX7_copy_76 : decode cX7_copy 76 = .ok (.iaload, 1) := by decide +kernel
theorem dX7_copy_77 : decode cX7_copy 77 = .ok (.aload_n 0, 1) := by decide +kernel
theorem dX7_copy_78 : decode cX7_copy 78 = .ok (.getfield 13, 3) := by decide +kernel
theorem dX7_copy_81 : decode cX7_copy 81 = .ok (.iload_n 2, 1) := by decide +kernel
theorem dX7_copy_82 : decode cX7_copy 82 = .ok (.iaload, 1) := by decide +kernel
theorem dX7_copy_83 : decode cX7_copy 83 = .ok (.if_icmp .eq 10, 3) := by decide +kernel
theorem dX7_copy_86 : decode cX7_copy 86 = .ok (.aload_n 0, 1) := by decide +kernel
theorem dX7_copy_87 : decode cX7_copy 87 = .ok (.bipush (-3), 2) := by decide +kernel
theorem dX7_copy_89 : decode cX7_copy 89 = .ok (.invokevirtual 99, 3) := by decide +kernel
theorem dX7_copy_92 : decode cX7_copy 92 = .ok (.ireturn, 1) := by decide +kernel
theorem dX7_copy_93 : decode cX7_copy 93 = .ok (.aload_n 0, 1) := by decide +kernel
theorem dX7_copy_94 : decode cX7_copy 94 = .ok (.getfield 7, 3) := by decide +kernel
theorem dX7_copy_97 : decode cX7_copy 97 = .ok (.iload_n 1, 1) := by decide +kernel
theorem dX7_copy_98 : decode cX7_copy 98 = .ok (.iaload, 1) := by decide +kernel
theorem dX7_copy_99 : decode cX7_copy 99 = .ok (.ifCond .eq 12, 3) := by decide +kernel
theorem dX7_copy_102 : decode cX7_copy 102 = .ok (.aload_n 0, 1) := by decide +kernel
theorem dX7_copy_103 : decode cX7_copy 103 = .ok (.getfield 7, 3) := by decide +kernel
theorem dX7_copy_106 : decode cX7_copy 106 = .ok (.iload_n 2, 1) := by decide +kernel
theorem dX7_copy_107 : decode cX7_copy 107 = .ok (.iaload, 1) := by decide +kernel
theorem dX7_copy_108 : decode cX7_copy 108 = .ok (.ifCond .ne 10, 3) := by decide +kernel
theorem dX7_copy_111 : decode cX7_copy 111 = .ok (.aload_n 0, 1) := by decide +kernel
theorem dX7_copy_112 : decode cX7_copy 112 = .ok (.bipush (-4), 2) := by decide +kernel
theorem dX7_copy_114 : decode cX7_copy 114 = .ok (.invokevirtual 99, 3) := by decide +kernel
theorem dX7_copy_117 : decode cX7_copy 117 = .ok (.ireturn, 1) := by decide +kernel
theorem dX7_copy_118 : decode cX7_copy 118 = .ok (.iload 5, 2) := by decide +kernel
theorem dX7_copy_120 : decode cX7_copy 120 = .ok (.ifCond .lt 61, 3) := by decide +kernel
theorem dX7_copy_123 : decode cX7_copy 123 = .ok (.iload_n 3, 1) := by decide +kernel
theorem dX7_copy_124 : decode cX7_copy 124 = .ok (.ifCond .lt 57, 3) := by decide +kernel
theorem dX7_copy_127 : decode cX7_copy 127 = .ok (.iload 4, 2) := by decide +kernel
theorem dX7_copy_129 : decode cX7_copy 129 = .ok (.ifCond .lt 52, 3) := by decide +kernel
theorem dX7_copy_132 : decode cX7_copy 132 = .ok (.iload 5, 2) := by decide +kernel
theorem dX7_copy_134 : decode cX7_copy 134 = .ok (.aload_n 0, 1) := by decide +kernel
theorem dX7_copy_135 : decode cX7_copy 135 = .ok (.getfield 16, 3) := by decide +kernel
theorem dX7_copy_138 : decode cX7_copy 138 = .ok (.iload_n 1, 1) := by decide +kernel
theorem dX7_copy_139 : decode cX7_copy 139 = .ok (.iaload, 1) := by decide +kernel
theorem dX7_copy_140 : decode cX7_copy 140 = .ok (.if_icmp .gt 41, 3) := by decide +kernel
theorem dX7_copy_143 : decode cX7_copy 143 = .ok (.iload 5, 2) := by decide +kernel
theorem dX7_copy_145 : decode cX7_copy 145 = .ok (.aload_n 0, 1) := by decide +kernel
theorem dX7_copy_146 : decode cX7_copy 146 = .ok (.getfield 16, 3) := by decide +kernel
theorem dX7_copy_149 : decode cX7_copy 149 = .ok (.iload_n 2, 1) := by decide +kernel
theorem dX7_copy_150 : decode cX7_copy 150 = .ok (.iaload, 1) := by decide +kernel
theorem dX7_copy_151 : decode cX7_copy 151 = .ok (.if_icmp .gt 30, 3) := by decide +kernel
theorem dX7_copy_154 : decode cX7_copy 154 = .ok (.iload_n 3, 1) := by decide +kernel
theorem dX7_copy_155 : decode cX7_copy 155 = .ok (.aload_n 0, 1) := by decide +kernel
theorem dX7_copy_156 : decode cX7_copy 156 = .ok (.getfield 16, 3) := by decide +kernel
theorem dX7_copy_159 : decode cX7_copy 159 = .ok (.iload_n 1, 1) := by decide +kernel
theorem dX7_copy_160 : decode cX7_copy 160 = .ok (.iaload, 1) := by decide +kernel
theorem dX7_copy_161 : decode cX7_copy 161 = .ok (.iload 5, 2) := by decide +kernel
theorem dX7_copy_163 : decode cX7_copy 163 = .ok (.isub, 1) := by decide +kernel
theorem dX7_copy_164 : decode cX7_copy 164 = .ok (.if_icmp .gt 17, 3) := by decide +kernel
theorem dX7_copy_167 : decode cX7_copy 167 = .ok (.iload 4, 2) := by decide +kernel
theorem dX7_copy_169 : decode cX7_copy 169 = .ok (.aload_n 0, 1) := by decide +kernel
theorem dX7_copy_170 : decode cX7_copy 170 = .ok (.getfield 16, 3) := by decide +kernel
theorem dX7_copy_173 : decode cX7_copy 173 = .ok (.iload_n 2, 1) := by decide +kernel
theorem dX7_copy_174 : decode cX7_copy 174 = .ok (.iaload, 1) := by decide +kernel
theorem dX7_copy_175 : decode cX7_copy 175 = .ok (.iload 5, 2) := by decide +kernel
theorem dX7_copy_177 : decode cX7_copy 177 = .ok (.isub, 1) := by decide +kernel
theorem dX7_copy_178 : decode cX7_copy 178 = .ok (.if_icmp .le 10, 3) := by decide +kernel
theorem dX7_copy_181 : decode cX7_copy 181 = .ok (.aload_n 0, 1) := by decide +kernel
theorem dX7_copy_182 : decode cX7_copy 182 = .ok (.bipush (-2), 2) := by decide +kernel
theorem dX7_copy_184 : decode cX7_copy 184 = .ok (.invokevirtual 99, 3) := by decide +kernel
theorem dX7_copy_187 : decode cX7_copy 187 = .ok (.ireturn, 1) := by decide +kernel
theorem dX7_copy_188 : decode cX7_copy 188 = .ok (.iconst 0, 1) := by decide +kernel
theorem dX7_copy_189 : decode cX7_copy 189 = .ok (.istore 6, 2) := by decide +kernel
theorem dX7_copy_191 : decode cX7_copy 191 = .ok (.iload 6, 2) := by decide +kernel
theorem dX7_copy_193 : decode cX7_copy 193 = .ok (.iload 5, 2) := by decide +kernel
theorem dX7_copy_195 : decode cX7_copy 195 = .ok (.if_icmp .ge 27, 3) := by decide +kernel
theorem dX7_copy_198 : decode cX7_copy 198 = .ok (.aload_n 0, 1) := by decide +kernel
theorem dX7_copy_199 : decode cX7_copy 199 = .ok (.getfield 24, 3) := by decide +kernel
theorem dX7_copy_202 : decode cX7_copy 202 = .ok (.iload 6, 2) := by decide +kernel
theorem dX7_copy_204 : decode cX7_copy 204 = .ok (.aload_n 0, 1) := by decide +kernel
theorem dX7_copy_205 : decode cX7_copy 205 = .ok (.getfield 21, 3) := by decide +kernel
theorem dX7_copy_208 : decode cX7_copy 208 = .ok (.iload_n 1, 1) := by decide +kernel
theorem dX7_copy_209 : decode cX7_copy 209 = .ok (.aaload, 1) := by decide +kernel
theorem dX7_copy_210 : decode cX7_copy 210 = .ok (.iload_n 3, 1) := by decide +kernel
theorem dX7_copy_211 : decode cX7_copy 211 = .ok (.iload 6, 2) := by decide +kernel
theorem dX7_copy_213 : decode cX7_copy 213 = .ok (.iadd, 1) := by decide +kernel
theorem dX7_copy_214 : decode cX7_copy 214 = .ok (.laload, 1) := by decide +kernel
theorem dX7_copy_215 : decode cX7_copy 215 = .ok (.lastore, 1) := by decide +kernel
theorem dX7_copy_216 : decode cX7_copy 216 = .ok (.iinc 6 1, 3) := by decide +kernel
theorem dX7_copy_219 : decode cX7_copy 219 = .ok (.goto (-28), 3) := by decide +kernel
theorem dX7_copy_222 : decode cX7_copy 222 = .ok (.iconst 0, 1) := by decide +kernel
theorem dX7_copy_223 : decode cX7_copy 223 = .ok (.istore 6, 2) := by decide +kernel
theorem dX7_copy_225 : decode cX7_copy 225 = .ok (.iload 6, 2) := by decide +kernel
theorem dX7_copy_227 : decode cX7_copy 227 = .ok (.iload 5, 2) := by decide +kernel
theorem dX7_copy_229 : decode cX7_copy 229 = .ok (.if_icmp .ge 28, 3) := by decide +kernel
theorem dX7_copy_232 : decode cX7_copy 232 = .ok (.aload_n 0, 1) := by decide +kernel
theorem dX7_copy_233 : decode cX7_copy 233 = .ok (.getfield 21, 3) := by decide +kernel
theorem dX7_copy_236 : decode cX7_copy 236 = .ok (.iload_n 2, 1) := by decide +kernel
theorem dX7_copy_237 : decode cX7_copy 237 = .ok (.aaload, 1) := by decide +kernel
theorem dX7_copy_238 : decode cX7_copy 238 = .ok (.iload 4, 2) := by decide +kernel
theorem dX7_copy_240 : decode cX7_copy 240 = .ok (.iload 6, 2) := by decide +kernel
theorem dX7_copy_242 : decode cX7_copy 242 = .ok (.iadd, 1) := by decide +kernel
theorem dX7_copy_243 : decode cX7_copy 243 = .ok (.aload_n 0, 1) := by decide +kernel
theorem dX7_copy_244 : decode cX7_copy 244 = .ok (.getfield 24, 3) := by decide +kernel
theorem dX7_copy_247 : decode cX7_copy 247 = .ok (.iload 6, 2) := by decide +kernel
theorem dX7_copy_249 : decode cX7_copy 249 = .ok (.laload, 1) := by decide +kernel
theorem dX7_copy_250 : decode cX7_copy 250 = .ok (.lastore, 1) := by decide +kernel
theorem dX7_copy_251 : decode cX7_copy 251 = .ok (.iinc 6 1, 3) := by decide +kernel
theorem dX7_copy_254 : decode cX7_copy 254 = .ok (.goto (-29), 3) := by decide +kernel
theorem dX7_copy_257 : decode cX7_copy 257 = .ok (.iload 5, 2) := by decide +kernel
theorem dX7_copy_259 : decode cX7_copy 259 = .ok (.ireturn, 1) := by decide +kernel
theorem dX7_element_0 : decode cX7_element 0 = .ok (.iload_n 1, 1) := by decide +kernel
theorem dX7_element_1 : decode cX7_element 1 = .ok (.i2l, 1) := by decide +kernel
theorem dX7_element_2 : decode cX7_element 2 = .ok (.lconst 0, 1) := by decide +kernel
theorem dX7_element_3 : decode cX7_element 3 = .ok (.ldc2_w 93, 3) := by decide +kernel
theorem dX7_element_6 : decode cX7_element 6 = .ok (.invokestatic 85, 3) := by decide +kernel
theorem dX7_element_9 : decode cX7_element 9 = .ok (.ifCond .eq 42, 3) := by decide +kernel
theorem dX7_element_12 : decode cX7_element 12 = .ok (.aload_n 0, 1) := by decide +kernel
theorem dX7_element_13 : decode cX7_element 13 = .ok (.getfield 7, 3) := by decide +kernel
theorem dX7_element_16 : decode cX7_element 16 = .ok (.iload_n 1, 1) := by decide +kernel
theorem dX7_element_17 : decode cX7_element 17 = .ok (.iaload, 1) := by decide +kernel
theorem dX7_element_18 : decode cX7_element 18 = .ok (.iconst 1, 1) := by decide +kernel
theorem dX7_element_19 : decode cX7_element 19 = .ok (.if_icmp .ne 32, 3) := by decide +kernel
theorem dX7_element_22 : decode cX7_element 22 = .ok (.iload_n 2, 1) := by decide +kernel
theorem dX7_element_23 : decode cX7_element 23 = .ok (.i2l, 1) := by decide +kernel
theorem dX7_element_24 : decode cX7_element 24 = .ok (.lconst 0, 1) := by decide +kernel
theorem dX7_element_25 : decode cX7_element 25 = .ok (.aload_n 0, 1) := by decide +kernel
theorem dX7_element_26 : decode cX7_element 26 = .ok (.getfield 16, 3) := by decide +kernel
theorem dX7_element_29 : decode cX7_element 29 = .ok (.iload_n 1, 1) := by decide +kernel
theorem dX7_element_30 : decode cX7_element 30 = .ok (.iaload, 1) := by decide +kernel
theorem dX7_element_31 : decode cX7_element 31 = .ok (.iconst 1, 1) := by decide +kernel
theorem dX7_element_32 : decode cX7_element 32 = .ok (.isub, 1) := by decide +kernel
theorem dX7_element_33 : decode cX7_element 33 = .ok (.i2l, 1) := by decide +kernel
theorem dX7_element_34 : decode cX7_element 34 = .ok (.invokestatic 85, 3) := by decide +kernel
theorem dX7_element_37 : decode cX7_element 37 = .ok (.ifCond .eq 14, 3) := by decide +kernel
theorem dX7_element_40 : decode cX7_element 40 = .ok (.aload_n 0, 1) := by decide +kernel
theorem dX7_element_41 : decode cX7_element 41 = .ok (.getfield 21, 3) := by decide +kernel
theorem dX7_element_44 : decode cX7_element 44 = .ok (.iload_n 1, 1) := by decide +kernel
theorem dX7_element_45 : decode cX7_element 45 = .ok (.aaload, 1) := by decide +kernel
theorem dX7_element_46 : decode cX7_element 46 = .ok (.iload_n 2, 1) := by decide +kernel
theorem dX7_element_47 : decode cX7_element 47 = .ok (.laload, 1) := by decide +kernel
theorem dX7_element_48 : decode cX7_element 48 = .ok (.goto 4, 3) := by decide +kernel
theorem dX7_element_51 : decode cX7_element 51 = .ok (.lconst 0, 1) := by decide +kernel
theorem dX7_element_52 : decode cX7_element 52 = .ok (.lreturn, 1) := by decide +kernel
theorem dX7_holds_0 : decode cX7_holds 0 = .ok (.iload_n 1, 1) := by decide +kernel
theorem dX7_holds_1 : decode cX7_holds 1 = .ok (.i2l, 1) := by decide +kernel
theorem dX7_holds_2 : decode cX7_holds 2 = .ok (.lconst 0, 1) := by decide +kernel
theorem dX7_holds_3 : decode cX7_holds 3 = .ok (.ldc2_w 93, 3) := by decide +kernel
theorem dX7_holds_6 : decode cX7_holds 6 = .ok (.invokestatic 85, 3) := by decide +kernel
theorem dX7_holds_9 : decode cX7_holds 9 = .ok (.ifCond .eq 12, 3) := by decide +kernel
theorem dX7_holds_12 : decode cX7_holds 12 = .ok (.aload_n 0, 1) := by decide +kernel
theorem dX7_holds_13 : decode cX7_holds 13 = .ok (.getfield 7, 3) := by decide +kernel
theorem dX7_holds_16 : decode cX7_holds 16 = .ok (.iload_n 1, 1) := by decide +kernel
theorem dX7_holds_17 : decode cX7_holds 17 = .ok (.iaload, 1) := by decide +kernel
theorem dX7_holds_18 : decode cX7_holds 18 = .ok (.ifCond .ne 5, 3) := by decide +kernel
theorem dX7_holds_21 : decode cX7_holds 21 = .ok (.iconst (-1), 1) := by decide +kernel
theorem dX7_holds_22 : decode cX7_holds 22 = .ok (.ireturn, 1) := by decide +kernel
theorem dX7_holds_23 : decode cX7_holds 23 = .ok (.aload_n 0, 1) := by decide +kernel
theorem dX7_holds_24 : decode cX7_holds 24 = .ok (.getfield 7, 3) := by decide +kernel
theorem dX7_holds_27 : decode cX7_holds 27 = .ok (.iload_n 1, 1) := by decide +kernel
theorem dX7_holds_28 : decode cX7_holds 28 = .ok (.iaload, 1) := by decide +kernel
theorem dX7_holds_29 : decode cX7_holds 29 = .ok (.iconst 1, 1) := by decide +kernel
theorem dX7_holds_30 : decode cX7_holds 30 = .ok (.if_icmp .ne 12, 3) := by decide +kernel
theorem dX7_holds_33 : decode cX7_holds 33 = .ok (.aload_n 0, 1) := by decide +kernel
theorem dX7_holds_34 : decode cX7_holds 34 = .ok (.getfield 13, 3) := by decide +kernel
theorem dX7_holds_37 : decode cX7_holds 37 = .ok (.iload_n 1, 1) := by decide +kernel
theorem dX7_holds_38 : decode cX7_holds 38 = .ok (.iaload, 1) := by decide +kernel
theorem dX7_holds_39 : decode cX7_holds 39 = .ok (.goto 12, 3) := by decide +kernel
theorem dX7_holds_42 : decode cX7_holds 42 = .ok (.bipush 10, 2) := by decide +kernel
theorem dX7_holds_44 : decode cX7_holds 44 = .ok (.aload_n 0, 1) := by decide +kernel
theorem dX7_holds_45 : decode cX7_holds 45 = .ok (.getfield 28, 3) := by decide +kernel
theorem dX7_holds_48 : decode cX7_holds 48 = .ok (.iload_n 1, 1) := by decide +kernel
theorem dX7_holds_49 : decode cX7_holds 49 = .ok (.iaload, 1) := by decide +kernel
theorem dX7_holds_50 : decode cX7_holds 50 = .ok (.iadd, 1) := by decide +kernel
theorem dX7_holds_51 : decode cX7_holds 51 = .ok (.ireturn, 1) := by decide +kernel
theorem dX7_show_0 : decode cX7_show 0 = .ok (.iload_n 1, 1) := by decide +kernel
theorem dX7_show_1 : decode cX7_show 1 = .ok (.i2l, 1) := by decide +kernel
theorem dX7_show_2 : decode cX7_show 2 = .ok (.lconst 0, 1) := by decide +kernel
theorem dX7_show_3 : decode cX7_show 3 = .ok (.ldc2_w 93, 3) := by decide +kernel
theorem dX7_show_6 : decode cX7_show 6 = .ok (.invokestatic 85, 3) := by decide +kernel
theorem dX7_show_9 : decode cX7_show 9 = .ok (.ifCond .eq 16, 3) := by decide +kernel
theorem dX7_show_12 : decode cX7_show 12 = .ok (.iload_n 2, 1) := by decide +kernel
theorem dX7_show_13 : decode cX7_show 13 = .ok (.iconst (-1), 1) := by decide +kernel
theorem dX7_show_14 : decode cX7_show 14 = .ok (.if_icmp .eq 18, 3) := by decide +kernel
theorem dX7_show_17 : decode cX7_show 17 = .ok (.aload_n 0, 1) := by decide +kernel
theorem dX7_show_18 : decode cX7_show 18 = .ok (.iload_n 2, 1) := by decide +kernel
theorem dX7_show_19 : decode cX7_show 19 = .ok (.invokevirtual 109, 3) := by decide +kernel
theorem dX7_show_22 : decode cX7_show 22 = .ok (.ifCond .ne 10, 3) := by decide +kernel
theorem dX7_show_25 : decode cX7_show 25 = .ok (.aload_n 0, 1) := by decide +kernel
theorem dX7_show_26 : decode cX7_show 26 = .ok (.bipush (-2), 2) := by decide +kernel
theorem dX7_show_28 : decode cX7_show 28 = .ok (.invokevirtual 99, 3) := by decide +kernel
theorem dX7_show_31 : decode cX7_show 31 = .ok (.ireturn, 1) := by decide +kernel
theorem dX7_show_32 : decode cX7_show 32 = .ok (.aload_n 0, 1) := by decide +kernel
theorem dX7_show_33 : decode cX7_show 33 = .ok (.getfield 7, 3) := by decide +kernel
theorem dX7_show_36 : decode cX7_show 36 = .ok (.iload_n 1, 1) := by decide +kernel
theorem dX7_show_37 : decode cX7_show 37 = .ok (.iload_n 2, 1) := by decide +kernel
theorem dX7_show_38 : decode cX7_show 38 = .ok (.iconst (-1), 1) := by decide +kernel
theorem dX7_show_39 : decode cX7_show 39 = .ok (.if_icmp .ne 7, 3) := by decide +kernel
theorem dX7_show_42 : decode cX7_show 42 = .ok (.iconst 0, 1) := by decide +kernel
theorem dX7_show_43 : decode cX7_show 43 = .ok (.goto 4, 3) := by decide +kernel
theorem dX7_show_46 : decode cX7_show 46 = .ok (.iconst 2, 1) := by decide +kernel
theorem dX7_show_47 : decode cX7_show 47 = .ok (.iastore, 1) := by decide +kernel
theorem dX7_show_48 : decode cX7_show 48 = .ok (.aload_n 0, 1) := by decide +kernel
theorem dX7_show_49 : decode cX7_show 49 = .ok (.getfield 28, 3) := by decide +kernel
theorem dX7_show_52 : decode cX7_show 52 = .ok (.iload_n 1, 1) := by decide +kernel
theorem dX7_show_53 : decode cX7_show 53 = .ok (.iload_n 2, 1) := by decide +kernel
theorem dX7_show_54 : decode cX7_show 54 = .ok (.iastore, 1) := by decide +kernel
theorem dX7_show_55 : decode cX7_show 55 = .ok (.iconst 1, 1) := by decide +kernel
theorem dX7_show_56 : decode cX7_show 56 = .ok (.ireturn, 1) := by decide +kernel
theorem dX7_isUnder_0 : decode cX7_isUnder 0 = .ok (.iload_n 1, 1) := by decide +kernel
theorem dX7_isUnder_1 : decode cX7_isUnder 1 = .ok (.ifCond .eq 28, 3) := by decide +kernel
theorem dX7_isUnder_4 : decode cX7_isUnder 4 = .ok (.iload_n 0, 1) := by decide +kernel
theorem dX7_isUnder_5 : decode cX7_isUnder 5 = .ok (.iload_n 1, 1) := by decide +kernel
theorem dX7_isUnder_6 : decode cX7_isUnder 6 = .ok (.if_icmp .eq 23, 3) := by decide +kernel
theorem dX7_isUnder_9 : decode cX7_isUnder 9 = .ok (.iload_n 1, 1) := by decide +kernel
theorem dX7_isUnder_10 : decode cX7_isUnder 10 = .ok (.iconst 1, 1) := by decide +kernel
theorem dX7_isUnder_11 : decode cX7_isUnder 11 = .ok (.if_icmp .ne 8, 3) := by decide +kernel
theorem dX7_isUnder_14 : decode cX7_isUnder 14 = .ok (.iload_n 0, 1) := by decide +kernel
theorem dX7_isUnder_15 : decode cX7_isUnder 15 = .ok (.iconst 3, 1) := by decide +kernel
theorem dX7_isUnder_16 : decode cX7_isUnder 16 = .ok (.if_icmp .eq 13, 3) := by decide +kernel
theorem dX7_isUnder_19 : decode cX7_isUnder 19 = .ok (.iload_n 1, 1) := by decide +kernel
theorem dX7_isUnder_20 : decode cX7_isUnder 20 = .ok (.iconst 2, 1) := by decide +kernel
theorem dX7_isUnder_21 : decode cX7_isUnder 21 = .ok (.if_icmp .ne 12, 3) := by decide +kernel
theorem dX7_isUnder_24 : decode cX7_isUnder 24 = .ok (.iload_n 0, 1) := by decide +kernel
theorem dX7_isUnder_25 : decode cX7_isUnder 25 = .ok (.iconst 5, 1) := by decide +kernel
theorem dX7_isUnder_26 : decode cX7_isUnder 26 = .ok (.if_icmp .ne 7, 3) := by decide +kernel
theorem dX7_isUnder_29 : decode cX7_isUnder 29 = .ok (.iconst 1, 1) := by decide +kernel
theorem dX7_isUnder_30 : decode cX7_isUnder 30 = .ok (.goto 4, 3) := by decide +kernel
theorem dX7_isUnder_33 : decode cX7_isUnder 33 = .ok (.iconst 0, 1) := by decide +kernel
theorem dX7_isUnder_34 : decode cX7_isUnder 34 = .ok (.ireturn, 1) := by decide +kernel
theorem dX7_says_0 : decode cX7_says 0 = .ok (.iload_n 1, 1) := by decide +kernel
theorem dX7_says_1 : decode cX7_says 1 = .ok (.i2l, 1) := by decide +kernel
theorem dX7_says_2 : decode cX7_says 2 = .ok (.lconst 0, 1) := by decide +kernel
theorem dX7_says_3 : decode cX7_says 3 = .ok (.ldc2_w 93, 3) := by decide +kernel
theorem dX7_says_6 : decode cX7_says 6 = .ok (.invokestatic 85, 3) := by decide +kernel
theorem dX7_says_9 : decode cX7_says 9 = .ok (.ifCond .eq 15, 3) := by decide +kernel
theorem dX7_says_12 : decode cX7_says 12 = .ok (.iload_n 2, 1) := by decide +kernel
theorem dX7_says_13 : decode cX7_says 13 = .ok (.i2l, 1) := by decide +kernel
theorem dX7_says_14 : decode cX7_says 14 = .ok (.lconst 0, 1) := by decide +kernel
theorem dX7_says_15 : decode cX7_says 15 = .ok (.ldc2_w 113, 3) := by decide +kernel
theorem dX7_says_18 : decode cX7_says 18 = .ok (.invokestatic 85, 3) := by decide +kernel
theorem dX7_says_21 : decode cX7_says 21 = .ok (.ifCond .ne 10, 3) := by decide +kernel
theorem dX7_says_24 : decode cX7_says 24 = .ok (.aload_n 0, 1) := by decide +kernel
theorem dX7_says_25 : decode cX7_says 25 = .ok (.bipush (-2), 2) := by decide +kernel
theorem dX7_says_27 : decode cX7_says 27 = .ok (.invokevirtual 99, 3) := by decide +kernel
theorem dX7_says_30 : decode cX7_says 30 = .ok (.ireturn, 1) := by decide +kernel
theorem dX7_says_31 : decode cX7_says 31 = .ok (.aload_n 0, 1) := by decide +kernel
theorem dX7_says_32 : decode cX7_says 32 = .ok (.getfield 7, 3) := by decide +kernel
theorem dX7_says_35 : decode cX7_says 35 = .ok (.iload_n 1, 1) := by decide +kernel
theorem dX7_says_36 : decode cX7_says 36 = .ok (.iaload, 1) := by decide +kernel
theorem dX7_says_37 : decode cX7_says 37 = .ok (.iconst 1, 1) := by decide +kernel
theorem dX7_says_38 : decode cX7_says 38 = .ok (.if_icmp .eq 31, 3) := by decide +kernel
theorem dX7_says_41 : decode cX7_says 41 = .ok (.aload_n 0, 1) := by decide +kernel
theorem dX7_says_42 : decode cX7_says 42 = .ok (.getfield 7, 3) := by decide +kernel
theorem dX7_says_45 : decode cX7_says 45 = .ok (.iload_n 1, 1) := by decide +kernel
theorem dX7_says_46 : decode cX7_says 46 = .ok (.iaload, 1) := by decide +kernel
theorem dX7_says_47 : decode cX7_says 47 = .ok (.iconst 2, 1) := by decide +kernel
theorem dX7_says_48 : decode cX7_says 48 = .ok (.if_icmp .ne 28, 3) := by decide +kernel
theorem dX7_says_51 : decode cX7_says 51 = .ok (.aload_n 0, 1) := by decide +kernel
theorem dX7_says_52 : decode cX7_says 52 = .ok (.getfield 37, 3) := by decide +kernel
theorem dX7_says_55 : decode cX7_says 55 = .ok (.aload_n 0, 1) := by decide +kernel
theorem dX7_says_56 : decode cX7_says 56 = .ok (.getfield 28, 3) := by decide +kernel
theorem dX7_says_59 : decode cX7_says 59 = .ok (.iload_n 1, 1) := by decide +kernel
theorem dX7_says_60 : decode cX7_says 60 = .ok (.iaload, 1) := by decide +kernel
theorem dX7_says_61 : decode cX7_says 61 = .ok (.iaload, 1) := by decide +kernel
theorem dX7_says_62 : decode cX7_says 62 = .ok (.iload_n 2, 1) := by decide +kernel
theorem dX7_says_63 : decode cX7_says 63 = .ok (.invokestatic 115, 3) := by decide +kernel
theorem dX7_says_66 : decode cX7_says 66 = .ok (.ifCond .ne 10, 3) := by decide +kernel
theorem dX7_says_69 : decode cX7_says 69 = .ok (.aload_n 0, 1) := by decide +kernel
theorem dX7_says_70 : decode cX7_says 70 = .ok (.bipush (-3), 2) := by decide +kernel
theorem dX7_says_72 : decode cX7_says 72 = .ok (.invokevirtual 99, 3) := by decide +kernel
theorem dX7_says_75 : decode cX7_says 75 = .ok (.ireturn, 1) := by decide +kernel
theorem dX7_says_76 : decode cX7_says 76 = .ok (.aload_n 0, 1) := by decide +kernel
theorem dX7_says_77 : decode cX7_says 77 = .ok (.getfield 7, 3) := by decide +kernel
theorem dX7_says_80 : decode cX7_says 80 = .ok (.iload_n 1, 1) := by decide +kernel
theorem dX7_says_81 : decode cX7_says 81 = .ok (.iaload, 1) := by decide +kernel
theorem dX7_says_82 : decode cX7_says 82 = .ok (.ifCond .ne 10, 3) := by decide +kernel
theorem dX7_says_85 : decode cX7_says 85 = .ok (.aload_n 0, 1) := by decide +kernel
theorem dX7_says_86 : decode cX7_says 86 = .ok (.bipush (-4), 2) := by decide +kernel
theorem dX7_says_88 : decode cX7_says 88 = .ok (.invokevirtual 99, 3) := by decide +kernel
theorem dX7_says_91 : decode cX7_says 91 = .ok (.ireturn, 1) := by decide +kernel
theorem dX7_says_92 : decode cX7_says 92 = .ok (.aload_n 0, 1) := by decide +kernel
theorem dX7_says_93 : decode cX7_says 93 = .ok (.getfield 28, 3) := by decide +kernel
theorem dX7_says_96 : decode cX7_says 96 = .ok (.iload_n 1, 1) := by decide +kernel
theorem dX7_says_97 : decode cX7_says 97 = .ok (.iaload, 1) := by decide +kernel
theorem dX7_says_98 : decode cX7_says 98 = .ok (.istore_n 3, 1) := by decide +kernel
theorem dX7_says_99 : decode cX7_says 99 = .ok (.aload_n 0, 1) := by decide +kernel
theorem dX7_says_100 : decode cX7_says 100 = .ok (.iload_n 3, 1) := by decide +kernel
theorem dX7_says_101 : decode cX7_says 101 = .ok (.invokevirtual 119, 3) := by decide +kernel
theorem dX7_says_104 : decode cX7_says 104 = .ok (.istore 4, 2) := by decide +kernel
theorem dX7_says_106 : decode cX7_says 106 = .ok (.iconst 0, 1) := by decide +kernel
theorem dX7_says_107 : decode cX7_says 107 = .ok (.istore 5, 2) := by decide +kernel
theorem dX7_says_109 : decode cX7_says 109 = .ok (.iload_n 2, 1) := by decide +kernel
theorem dX7_says_110 : decode cX7_says 110 = .ok (.tableswitch 107 0 3 #[30, 33, 33, 40], 30) := by decide +kernel
theorem dX7_says_140 : decode cX7_says 140 = .ok (.iload 4, 2) := by decide +kernel
theorem dX7_says_142 : decode cX7_says 142 = .ok (.ireturn, 1) := by decide +kernel
theorem dX7_says_143 : decode cX7_says 143 = .ok (.aload_n 0, 1) := by decide +kernel
theorem dX7_says_144 : decode cX7_says 144 = .ok (.iload_n 3, 1) := by decide +kernel
theorem dX7_says_145 : decode cX7_says 145 = .ok (.iconst (-1), 1) := by decide +kernel
theorem dX7_says_146 : decode cX7_says 146 = .ok (.invokevirtual 122, 3) := by decide +kernel
theorem dX7_says_149 : decode cX7_says 149 = .ok (.ireturn, 1) := by decide +kernel
theorem dX7_says_150 : decode cX7_says 150 = .ok (.iconst 0, 1) := by decide +kernel
theorem dX7_says_151 : decode cX7_says 151 = .ok (.istore 6, 2) := by decide +kernel
theorem dX7_says_153 : decode cX7_says 153 = .ok (.iload 6, 2) := by decide +kernel
theorem dX7_says_155 : decode cX7_says 155 = .ok (.aload_n 0, 1) := by decide +kernel
theorem dX7_says_156 : decode cX7_says 156 = .ok (.getfield 57, 3) := by decide +kernel
theorem dX7_says_159 : decode cX7_says 159 = .ok (.iload 4, 2) := by decide +kernel
theorem dX7_says_161 : decode cX7_says 161 = .ok (.iaload, 1) := by decide +kernel
theorem dX7_says_162 : decode cX7_says 162 = .ok (.if_icmp .ge 52, 3) := by decide +kernel
theorem dX7_says_165 : decode cX7_says 165 = .ok (.iload 5, 2) := by decide +kernel
theorem dX7_says_167 : decode cX7_says 167 = .ok (.aload_n 0, 1) := by decide +kernel
theorem dX7_says_168 : decode cX7_says 168 = .ok (.getfield 37, 3) := by decide +kernel
theorem dX7_says_171 : decode cX7_says 171 = .ok (.aload_n 0, 1) := by decide +kernel
theorem dX7_says_172 : decode cX7_says 172 = .ok (.getfield 54, 3) := by decide +kernel
theorem dX7_says_175 : decode cX7_says 175 = .ok (.iload 4, 2) := by decide +kernel
theorem dX7_says_177 : decode cX7_says 177 = .ok (.aaload, 1) := by decide +kernel
theorem dX7_says_178 : decode cX7_says 178 = .ok (.iload 6, 2) := by decide +kernel
theorem dX7_says_180 : decode cX7_says 180 = .ok (.iaload, 1) := by decide +kernel
theorem dX7_says_181 : decode cX7_says 181 = .ok (.iaload, 1) := by decide +kernel
theorem dX7_says_182 : decode cX7_says 182 = .ok (.iconst 3, 1) := by decide +kernel
theorem dX7_says_183 : decode cX7_says 183 = .ok (.if_icmp .ne 21, 3) := by decide +kernel
theorem dX7_says_186 : decode cX7_says 186 = .ok (.aload_n 0, 1) := by decide +kernel
theorem dX7_says_187 : decode cX7_says 187 = .ok (.getfield 54, 3) := by decide +kernel
theorem dX7_says_190 : decode cX7_says 190 = .ok (.iload 4, 2) := by decide +kernel
theorem dX7_says_192 : decode cX7_says 192 = .ok (.aaload, 1) := by decide +kernel
theorem dX7_says_193 : decode cX7_says 193 = .ok (.iload 6, 2) := by decide +kernel
theorem dX7_says_195 : decode cX7_says 195 = .ok (.iaload, 1) := by decide +kernel
theorem dX7_says_196 : decode cX7_says 196 = .ok (.iload_n 3, 1) := by decide +kernel
theorem dX7_says_197 : decode cX7_says 197 = .ok (.if_icmp .eq 7, 3) := by decide +kernel
theorem dX7_says_200 : decode cX7_says 200 = .ok (.iconst 1, 1) := by decide +kernel
theorem dX7_says_201 : decode cX7_says 201 = .ok (.goto 4, 3) := by decide +kernel
theorem dX7_says_204 : decode cX7_says 204 = .ok (.iconst 0, 1) := by decide +kernel
theorem dX7_says_205 : decode cX7_says 205 = .ok (.iadd, 1) := by decide +kernel
theorem dX7_says_206 : decode cX7_says 206 = .ok (.istore 5, 2) := by decide +kernel
theorem dX7_says_208 : decode cX7_says 208 = .ok (.iinc 6 1, 3) := by decide +kernel
theorem dX7_says_211 : decode cX7_says 211 = .ok (.goto (-58), 3) := by decide +kernel
theorem dX7_says_214 : decode cX7_says 214 = .ok (.iload 5, 2) := by decide +kernel
theorem dX7_says_216 : decode cX7_says 216 = .ok (.ireturn, 1) := by decide +kernel
theorem dX7_says_217 : decode cX7_says 217 = .ok (.aload_n 0, 1) := by decide +kernel
theorem dX7_says_218 : decode cX7_says 218 = .ok (.iload_n 3, 1) := by decide +kernel
theorem dX7_says_219 : decode cX7_says 219 = .ok (.invokevirtual 126, 3) := by decide +kernel
theorem dX7_says_222 : decode cX7_says 222 = .ok (.ireturn, 1) := by decide +kernel
theorem dX7_addOne_0 : decode cX7_addOne 0 = .ok (.aload_n 0, 1) := by decide +kernel
theorem dX7_addOne_1 : decode cX7_addOne 1 = .ok (.getfield 37, 3) := by decide +kernel
theorem dX7_addOne_4 : decode cX7_addOne 4 = .ok (.aload_n 0, 1) := by decide +kernel
theorem dX7_addOne_5 : decode cX7_addOne 5 = .ok (.getfield 82, 3) := by decide +kernel
theorem dX7_addOne_8 : decode cX7_addOne 8 = .ok (.iload_n 2, 1) := by decide +kernel
theorem dX7_addOne_9 : decode cX7_addOne 9 = .ok (.iastore, 1) := by decide +kernel
theorem dX7_addOne_10 : decode cX7_addOne 10 = .ok (.aload_n 0, 1) := by decide +kernel
theorem dX7_addOne_11 : decode cX7_addOne 11 = .ok (.getfield 40, 3) := by decide +kernel
theorem dX7_addOne_14 : decode cX7_addOne 14 = .ok (.aload_n 0, 1) := by decide +kernel
theorem dX7_addOne_15 : decode cX7_addOne 15 = .ok (.getfield 82, 3) := by decide +kernel
theorem dX7_addOne_18 : decode cX7_addOne 18 = .ok (.iload_n 3, 1) := by decide +kernel
theorem dX7_addOne_19 : decode cX7_addOne 19 = .ok (.iastore, 1) := by decide +kernel
theorem dX7_addOne_20 : decode cX7_addOne 20 = .ok (.aload_n 0, 1) := by decide +kernel
theorem dX7_addOne_21 : decode cX7_addOne 21 = .ok (.getfield 43, 3) := by decide +kernel
theorem dX7_addOne_24 : decode cX7_addOne 24 = .ok (.aload_n 0, 1) := by decide +kernel
theorem dX7_addOne_25 : decode cX7_addOne 25 = .ok (.getfield 82, 3) := by decide +kernel
theorem dX7_addOne_28 : decode cX7_addOne 28 = .ok (.iload 4, 2) := by decide +kernel
theorem dX7_addOne_30 : decode cX7_addOne 30 = .ok (.iastore, 1) := by decide +kernel
theorem dX7_addOne_31 : decode cX7_addOne 31 = .ok (.aload_n 0, 1) := by decide +kernel
theorem dX7_addOne_32 : decode cX7_addOne 32 = .ok (.getfield 46, 3) := by decide +kernel
theorem dX7_addOne_35 : decode cX7_addOne 35 = .ok (.aload_n 0, 1) := by decide +kernel
theorem dX7_addOne_36 : decode cX7_addOne 36 = .ok (.getfield 82, 3) := by decide +kernel
theorem dX7_addOne_39 : decode cX7_addOne 39 = .ok (.iconst 0, 1) := by decide +kernel
theorem dX7_addOne_40 : decode cX7_addOne 40 = .ok (.iastore, 1) := by decide +kernel
theorem dX7_addOne_41 : decode cX7_addOne 41 = .ok (.aload_n 0, 1) := by decide +kernel
theorem dX7_addOne_42 : decode cX7_addOne 42 = .ok (.getfield 49, 3) := by decide +kernel
theorem dX7_addOne_45 : decode cX7_addOne 45 = .ok (.aload_n 0, 1) := by decide +kernel
theorem dX7_addOne_46 : decode cX7_addOne 46 = .ok (.getfield 82, 3) := by decide +kernel
theorem dX7_addOne_49 : decode cX7_addOne 49 = .ok (.iload 5, 2) := by decide +kernel
theorem dX7_addOne_51 : decode cX7_addOne 51 = .ok (.iastore, 1) := by decide +kernel
theorem dX7_addOne_52 : decode cX7_addOne 52 = .ok (.aload_n 0, 1) := by decide +kernel
theorem dX7_addOne_53 : decode cX7_addOne 53 = .ok (.getfield 54, 3) := by decide +kernel
theorem dX7_addOne_56 : decode cX7_addOne 56 = .ok (.iload_n 1, 1) := by decide +kernel
theorem dX7_addOne_57 : decode cX7_addOne 57 = .ok (.aaload, 1) := by decide +kernel
theorem dX7_addOne_58 : decode cX7_addOne 58 = .ok (.aload_n 0, 1) := by decide +kernel
theorem dX7_addOne_59 : decode cX7_addOne 59 = .ok (.getfield 57, 3) := by decide +kernel
theorem dX7_addOne_62 : decode cX7_addOne 62 = .ok (.iload_n 1, 1) := by decide +kernel
theorem dX7_addOne_63 : decode cX7_addOne 63 = .ok (.dup2, 1) := by decide +kernel
theorem dX7_addOne_64 : decode cX7_addOne 64 = .ok (.iaload, 1) := by decide +kernel
theorem dX7_addOne_65 : decode cX7_addOne 65 = .ok (.dup_x2, 1) := by decide +kernel
theorem dX7_addOne_66 : decode cX7_addOne 66 = .ok (.iconst 1, 1) := by decide +kernel
theorem dX7_addOne_67 : decode cX7_addOne 67 = .ok (.iadd, 1) := by decide +kernel
theorem dX7_addOne_68 : decode cX7_addOne 68 = .ok (.iastore, 1) := by decide +kernel
