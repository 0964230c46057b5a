theorem dX5_hasJoint_17 : decode cX5_hasJoint 17 = .ok (.goto 4, 3) := by decide +kernel
theorem dX5_hasJoint_20 : decode cX5_hasJoint 20 = .ok (.iconst 0, 1) := by decide +kernel
theorem dX5_hasJoint_21 : decode cX5_hasJoint 21 = .ok (.ireturn, 1) := by decide +kernel
theorem dX5_isCalled_0 : decode cX5_isCalled 0 = .ok (.aload_n 0, 1) := by decide +kernel
theorem dX5_isCalled_1 : decode cX5_isCalled 1 = .ok (.getfield 27, 3) := by decide +kernel
theorem dX5_isCalled_4 : decode cX5_isCalled 4 = .ok (.iload_n 1, 1) := by decide +kernel
theorem dX5_isCalled_5 : decode cX5_isCalled 5 = .ok (.iaload, 1) := by decide +kernel
theorem dX5_isCalled_6 : decode cX5_isCalled 6 = .ok (.aload_n 0, 1) := by decide +kernel
theorem dX5_isCalled_7 : decode cX5_isCalled 7 = .ok (.getfield 63, 3) := by decide +kernel
theorem dX5_isCalled_10 : decode cX5_isCalled 10 = .ok (.if_icmp .eq 7, 3) := by decide +kernel
theorem dX5_isCalled_13 : decode cX5_isCalled 13 = .ok (.iconst 1, 1) := by decide +kernel
theorem dX5_isCalled_14 : decode cX5_isCalled 14 = .ok (.goto 4, 3) := by decide +kernel
theorem dX5_isCalled_17 : decode cX5_isCalled 17 = .ok (.iconst 0, 1) := by decide +kernel
theorem dX5_isCalled_18 : decode cX5_isCalled 18 = .ok (.ireturn, 1) := by decide +kernel
theorem dX5_add_0 : decode cX5_add 0 = .ok (.aload_n 0, 1) := by decide +kernel
theorem dX5_add_1 : decode cX5_add 1 = .ok (.getfield 57, 3) := by decide +kernel
theorem dX5_add_4 : decode cX5_add 4 = .ok (.istore 6, 2) := by decide +kernel
theorem dX5_add_6 : decode cX5_add 6 = .ok (.aload_n 0, 1) := by decide +kernel
theorem dX5_add_7 : decode cX5_add 7 = .ok (.dup, 1) := by decide +kernel
theorem dX5_add_8 : decode cX5_add 8 = .ok (.getfield 57, 3) := by decide +kernel
theorem dX5_add_11 : decode cX5_add 11 = .ok (.iconst 1, 1) := by decide +kernel
theorem dX5_add_12 : decode cX5_add 12 = .ok (.iadd, 1) := by decide +kernel
theorem dX5_add_13 : decode cX5_add 13 = .ok (.putfield 57, 3) := by decide +kernel
theorem dX5_add_16 : decode cX5_add 16 = .ok (.aload_n 0, 1) := by decide +kernel
theorem dX5_add_17 : decode cX5_add 17 = .ok (.getfield 9, 3) := by decide +kernel
theorem dX5_add_20 : decode cX5_add 20 = .ok (.iload 6, 2) := by decide +kernel
theorem dX5_add_22 : decode cX5_add 22 = .ok (.iload_n 2, 1) := by decide +kernel
theorem dX5_add_23 : decode cX5_add 23 = .ok (.iastore, 1) := by decide +kernel
theorem dX5_add_24 : decode cX5_add 24 = .ok (.aload_n 0, 1) := by decide +kernel
theorem dX5_add_25 : decode cX5_add 25 = .ok (.getfield 15, 3) := by decide +kernel
theorem dX5_add_28 : decode cX5_add 28 = .ok (.iload 6, 2) := by decide +kernel
theorem dX5_add_30 : decode cX5_add 30 = .ok (.iload_n 3, 1) := by decide +kernel
theorem dX5_add_31 : decode cX5_add 31 = .ok (.iastore, 1) := by decide +kernel
theorem dX5_add_32 : decode cX5_add 32 = .ok (.aload_n 0, 1) := by decide +kernel
theorem dX5_add_33 : decode cX5_add 33 = .ok (.getfield 18, 3) := by decide +kernel
theorem dX5_add_36 : decode cX5_add 36 = .ok (.iload 6, 2) := by decide +kernel
theorem dX5_add_38 : decode cX5_add 38 = .ok (.iload 4, 2) := by decide +kernel
theorem dX5_add_40 : decode cX5_add 40 = .ok (.iastore, 1) := by decide +kernel
theorem dX5_add_41 : decode cX5_add 41 = .ok (.aload_n 0, 1) := by decide +kernel
theorem dX5_add_42 : decode cX5_add 42 = .ok (.getfield 21, 3) := by decide +kernel
theorem dX5_add_45 : decode cX5_add 45 = .ok (.iload 6, 2) := by decide +kernel
theorem dX5_add_47 : decode cX5_add 47 = .ok (.iconst 0, 1) := by decide +kernel
theorem dX5_add_48 : decode cX5_add 48 = .ok (.iastore, 1) := by decide +kernel
theorem dX5_add_49 : decode cX5_add 49 = .ok (.aload_n 0, 1) := by decide +kernel
theorem dX5_add_50 : decode cX5_add 50 = .ok (.getfield 24, 3) := by decide +kernel
theorem dX5_add_53 : decode cX5_add 53 = .ok (.iload 6, 2) := by decide +kernel
theorem dX5_add_55 : decode cX5_add 55 = .ok (.iload 5, 2) := by decide +kernel
theorem dX5_add_57 : decode cX5_add 57 = .ok (.iastore, 1) := by decide +kernel
theorem dX5_add_58 : decode cX5_add 58 = .ok (.aload_n 0, 1) := by decide +kernel
theorem dX5_add_59 : decode cX5_add 59 = .ok (.iload 6, 2) := by decide +kernel
theorem dX5_add_61 : decode cX5_add 61 = .ok (.iload_n 1, 1) := by decide +kernel
theorem dX5_add_62 : decode cX5_add 62 = .ok (.aload_n 0, 1) := by decide +kernel
theorem dX5_add_63 : decode cX5_add 63 = .ok (.getfield 35, 3) := by decide +kernel
theorem dX5_add_66 : decode cX5_add 66 = .ok (.iload_n 1, 1) := by decide +kernel
theorem dX5_add_67 : decode cX5_add 67 = .ok (.iaload, 1) := by decide +kernel
theorem dX5_add_68 : decode cX5_add 68 = .ok (.invokevirtual 69, 3) := by decide +kernel
theorem dX5_add_71 : decode cX5_add 71 = .ok (.iload 6, 2) := by decide +kernel
theorem dX5_add_73 : decode cX5_add 73 = .ok (.ireturn, 1) := by decide +kernel
theorem dX5_enter_0 : decode cX5_enter 0 = .ok (.aload_n 0, 1) := by decide +kernel
theorem dX5_enter_1 : decode cX5_enter 1 = .ok (.getfield 32, 3) := by decide +kernel
theorem dX5_enter_4 : decode cX5_enter 4 = .ok (.iload_n 2, 1) := by decide +kernel
theorem dX5_enter_5 : decode cX5_enter 5 = .ok (.aaload, 1) := by decide +kernel
theorem dX5_enter_6 : decode cX5_enter 6 = .ok (.astore 4, 2) := by decide +kernel
theorem dX5_enter_8 : decode cX5_enter 8 = .ok (.aload_n 0, 1) := by decide +kernel
theorem dX5_enter_9 : decode cX5_enter 9 = .ok (.getfield 35, 3) := by decide +kernel
theorem dX5_enter_12 : decode cX5_enter 12 = .ok (.iload_n 2, 1) := by decide +kernel
theorem dX5_enter_13 : decode cX5_enter 13 = .ok (.iaload, 1) := by decide +kernel
theorem dX5_enter_14 : decode cX5_enter 14 = .ok (.istore 5, 2) := by decide +kernel
theorem dX5_enter_16 : decode cX5_enter 16 = .ok (.iload 5, 2) := by decide +kernel
theorem dX5_enter_18 : decode cX5_enter 18 = .ok (.iload_n 3, 1) := by decide +kernel
theorem dX5_enter_19 : decode cX5_enter 19 = .ok (.if_icmp .le 21, 3) := by decide +kernel
theorem dX5_enter_22 : decode cX5_enter 22 = .ok (.aload 4, 2) := by decide +kernel
theorem dX5_enter_24 : decode cX5_enter 24 = .ok (.iload 5, 2) := by decide +kernel
theorem dX5_enter_26 : decode cX5_enter 26 = .ok (.aload 4, 2) := by decide +kernel
theorem dX5_enter_28 : decode cX5_enter 28 = .ok (.iload 5, 2) := by decide +kernel
theorem dX5_enter_30 : decode cX5_enter 30 = .ok (.iconst 1, 1) := by decide +kernel
theorem dX5_enter_31 : decode cX5_enter 31 = .ok (.isub, 1) := by decide +kernel
theorem dX5_enter_32 : decode cX5_enter 32 = .ok (.iaload, 1) := by decide +kernel
theorem dX5_enter_33 : decode cX5_enter 33 = .ok (.iastore, 1) := by decide +kernel
theorem dX5_enter_34 : decode cX5_enter 34 = .ok (.iinc 5 (-1), 3) := by decide +kernel
theorem dX5_enter_37 : decode cX5_enter 37 = .ok (.goto (-21), 3) := by decide +kernel
theorem dX5_enter_40 : decode cX5_enter 40 = .ok (.aload 4, 2) := by decide +kernel
theorem dX5_enter_42 : decode cX5_enter 42 = .ok (.iload_n 3, 1) := by decide +kernel
theorem dX5_enter_43 : decode cX5_enter 43 = .ok (.iload_n 1, 1) := by decide +kernel
theorem dX5_enter_44 : decode cX5_enter 44 = .ok (.iastore, 1) := by decide +kernel
theorem dX5_enter_45 : decode cX5_enter 45 = .ok (.aload_n 0, 1) := by decide +kernel
theorem dX5_enter_46 : decode cX5_enter 46 = .ok (.getfield 35, 3) := by decide +kernel
theorem dX5_enter_49 : decode cX5_enter 49 = .ok (.iload_n 2, 1) := by decide +kernel
theorem dX5_enter_50 : decode cX5_enter 50 = .ok (.dup2, 1) := by decide +kernel
theorem dX5_enter_51 : decode cX5_enter 51 = .ok (.iaload, 1) := by decide +kernel
theorem dX5_enter_52 : decode cX5_enter 52 = .ok (.iconst 1, 1) := by decide +kernel
theorem dX5_enter_53 : decode cX5_enter 53 = .ok (.iadd, 1) := by decide +kernel
theorem dX5_enter_54 : decode cX5_enter 54 = .ok (.iastore, 1) := by decide +kernel
theorem dX5_enter_55 : decode cX5_enter 55 = .ok (.aload_n 0, 1) := by decide +kernel
theorem dX5_enter_56 : decode cX5_enter 56 = .ok (.getfield 27, 3) := by decide +kernel
theorem dX5_enter_59 : decode cX5_enter 59 = .ok (.iload_n 1, 1) := by decide +kernel
theorem dX5_enter_60 : decode cX5_enter 60 = .ok (.iload_n 2, 1) := by decide +kernel
theorem dX5_enter_61 : decode cX5_enter 61 = .ok (.iastore, 1) := by decide +kernel
theorem dX5_enter_62 : decode cX5_enter 62 = .ok (.return_, 1) := by decide +kernel
theorem dX5_leave_0 : decode cX5_leave 0 = .ok (.aload_n 0, 1) := by decide +kernel
theorem dX5_leave_1 : decode cX5_leave 1 = .ok (.getfield 27, 3) := by decide +kernel
theorem dX5_leave_4 : decode cX5_leave 4 = .ok (.iload_n 1, 1) := by decide +kernel
theorem dX5_leave_5 : decode cX5_leave 5 = .ok (.iaload, 1) := by decide +kernel
theorem dX5_leave_6 : decode cX5_leave 6 = .ok (.istore_n 2, 1) := by decide +kernel
theorem dX5_leave_7 : decode cX5_leave 7 = .ok (.aload_n 0, 1) := by decide +kernel
theorem dX5_leave_8 : decode cX5_leave 8 = .ok (.getfield 32, 3) := by decide +kernel
theorem dX5_leave_11 : decode cX5_leave 11 = .ok (.iload_n 2, 1) := by decide +kernel
theorem dX5_leave_12 : decode cX5_leave 12 = .ok (.aaload, 1) := by decide +kernel
theorem dX5_leave_13 : decode cX5_leave 13 = .ok (.astore_n 3, 1) := by decide +kernel
theorem dX5_leave_14 : decode cX5_leave 14 = .ok (.iconst 0, 1) := by decide +kernel
theorem dX5_leave_15 : decode cX5_leave 15 = .ok (.istore 4, 2) := by decide +kernel
theorem dX5_leave_17 : decode cX5_leave 17 = .ok (.iconst 0, 1) := by decide +kernel
theorem dX5_leave_18 : decode cX5_leave 18 = .ok (.istore 5, 2) := by decide +kernel
theorem dX5_leave_20 : decode cX5_leave 20 = .ok (.iload 5, 2) := by decide +kernel
theorem dX5_leave_22 : decode cX5_leave 22 = .ok (.aload_n 0, 1) := by decide +kernel
theorem dX5_leave_23 : decode cX5_leave 23 = .ok (.getfield 35, 3) := by decide +kernel
theorem dX5_leave_26 : decode cX5_leave 26 = .ok (.iload_n 2, 1) := by decide +kernel
theorem dX5_leave_27 : decode cX5_leave 27 = .ok (.iaload, 1) := by decide +kernel
theorem dX5_leave_28 : decode cX5_leave 28 = .ok (.if_icmp .ge 28, 3) := by decide +kernel
theorem dX5_leave_31 : decode cX5_leave 31 = .ok (.aload_n 3, 1) := by decide +kernel
theorem dX5_leave_32 : decode cX5_leave 32 = .ok (.iload 5, 2) := by decide +kernel
theorem dX5_leave_34 : decode cX5_leave 34 = .ok (.iaload, 1) := by decide +kernel
theorem dX5_leave_35 : decode cX5_leave 35 = .ok (.iload_n 1, 1) := by decide +kernel
theorem dX5_leave_36 : decode cX5_leave 36 = .ok (.if_icmp .eq 14, 3) := by decide +kernel
theorem dX5_leave_39 : decode cX5_leave 39 = .ok (.aload_n 3, 1) := by decide +kernel
theorem dX5_leave_40 : decode cX5_leave 40 = .ok (.iload 4, 2) := by decide +kernel
theorem dX5_leave_42 : decode cX5_leave 42 = .ok (.aload_n 3, 1) := by decide +kernel
theorem dX5_leave_43 : decode cX5_leave 43 = .ok (.iload 5, 2) := by decide +kernel
theorem dX5_leave_45 : decode cX5_leave 45 = .ok (.iaload, 1) := by decide +kernel
theorem dX5_leave_46 : decode cX5_leave 46 = .ok (.iastore, 1) := by decide +kernel
theorem dX5_leave_47 : decode cX5_leave 47 = .ok (.iinc 4 1, 3) := by decide +kernel
theorem dX5_leave_50 : decode cX5_leave 50 = .ok (.iinc 5 1, 3) := by decide +kernel
theorem dX5_leave_53 : decode cX5_leave 53 = .ok (.goto (-33), 3) := by decide +kernel
theorem dX5_leave_56 : decode cX5_leave 56 = .ok (.aload_n 0, 1) := by decide +kernel
theorem dX5_leave_57 : decode cX5_leave 57 = .ok (.getfield 35, 3) := by decide +kernel
theorem dX5_leave_60 : decode cX5_leave 60 = .ok (.iload_n 2, 1) := by decide +kernel
theorem dX5_leave_61 : decode cX5_leave 61 = .ok (.iload 4, 2) := by decide +kernel
theorem dX5_leave_63 : decode cX5_leave 63 = .ok (.iastore, 1) := by decide +kernel
theorem dX5_leave_64 : decode cX5_leave 64 = .ok (.return_, 1) := by decide +kernel
theorem dX5_placeOf_0 : decode cX5_placeOf 0 = .ok (.aload_n 0, 1) := by decide +kernel
theorem dX5_placeOf_1 : decode cX5_placeOf 1 = .ok (.getfield 32, 3) := by decide +kernel
theorem dX5_placeOf_4 : decode cX5_placeOf 4 = .ok (.aload_n 0, 1) := by decide +kernel
theorem dX5_placeOf_5 : decode cX5_placeOf 5 = .ok (.getfield 27, 3) := by decide +kernel
theorem dX5_placeOf_8 : decode cX5_placeOf 8 = .ok (.iload_n 1, 1) := by decide +kernel
theorem dX5_placeOf_9 : decode cX5_placeOf 9 = .ok (.iaload, 1) := by decide +kernel
theorem dX5_placeOf_10 : decode cX5_placeOf 10 = .ok (.aaload, 1) := by decide +kernel
theorem dX5_placeOf_11 : decode cX5_placeOf 11 = .ok (.astore_n 2, 1) := by decide +kernel
theorem dX5_placeOf_12 : decode cX5_placeOf 12 = .ok (.iconst 0, 1) := by decide +kernel
theorem dX5_placeOf_13 : decode cX5_placeOf 13 = .ok (.istore_n 3, 1) := by decide +kernel
theorem dX5_placeOf_14 : decode cX5_placeOf 14 = .ok (.iload_n 3, 1) := by decide +kernel
theorem dX5_placeOf_15 : decode cX5_placeOf 15 = .ok (.bipush 7, 2) := by decide +kernel
theorem dX5_placeOf_17 : decode cX5_placeOf 17 = .ok (.if_icmp .ge 16, 3) := by decide +kernel
theorem dX5_placeOf_20 : decode cX5_placeOf 20 = .ok (.aload_n 2, 1) := by decide +kernel
theorem dX5_placeOf_21 : decode cX5_placeOf 21 = .ok (.iload_n 3, 1) := by decide +kernel
theorem dX5_placeOf_22 : decode cX5_placeOf 22 = .ok (.iaload, 1) := by decide +kernel
theorem dX5_placeOf_23 : decode cX5_placeOf 23 = .ok (.iload_n 1, 1) := by decide +kernel
theorem dX5_placeOf_24 : decode cX5_placeOf 24 = .ok (.if_icmp .eq 9, 3) := by decide +kernel
theorem dX5_placeOf_27 : decode cX5_placeOf 27 = .ok (.iinc 3 1, 3) := by decide +kernel
theorem dX5_placeOf_30 : decode cX5_placeOf 30 = .ok (.goto (-16), 3) := by decide +kernel
theorem dX5_placeOf_33 : decode cX5_placeOf 33 = .ok (.iload_n 3, 1) := by decide +kernel
theorem dX5_placeOf_34 : decode cX5_placeOf 34 = .ok (.ireturn, 1) := by decide +kernel
theorem dX5_changePlaces_0 : decode cX5_changePlaces 0 = .ok (.aload_n 0, 1) := by decide +kernel
theorem dX5_changePlaces_1 : decode cX5_changePlaces 1 = .ok (.getfield 32, 3) := by decide +kernel
theorem dX5_changePlaces_4 : decode cX5_changePlaces 4 = .ok (.iload_n 1, 1) := by decide +kernel
theorem dX5_changePlaces_5 : decode cX5_changePlaces 5 = .ok (.aaload, 1) := by decide +kernel
theorem dX5_changePlaces_6 : decode cX5_changePlaces 6 = .ok (.astore_n 3, 1) := by decide +kernel
theorem dX5_changePlaces_7 : decode cX5_changePlaces 7 = .ok (.aload_n 3, 1) := by decide +kernel
theorem dX5_changePlaces_8 : decode cX5_changePlaces 8 = .ok (.iload_n 2, 1) := by decide +kernel
theorem dX5_changePlaces_9 : decode cX5_changePlaces 9 = .ok (.iaload, 1) := by decide +kernel
theorem dX5_changePlaces_10 : decode cX5_changePlaces 10 = .ok (.istore 4, 2) := by decide +kernel
theorem dX5_changePlaces_12 : decode cX5_changePlaces 12 = .ok (.aload_n 3, 1) := by decide +kernel
theorem dX5_changePlaces_13 : decode cX5_changePlaces 13 = .ok (.iload_n 2, 1) := by decide +kernel
theorem dX5_changePlaces_14 : decode cX5_changePlaces 14 = .ok (.aload_n 3, 1) := by decide +kernel
theorem dX5_changePlaces_15 : decode cX5_changePlaces 15 = .ok (.iload_n 2, 1) := by decide +kernel
theorem dX5_changePlaces_16 : decode cX5_changePlaces 16 = .ok (.iconst 1, 1) := by decide +kernel
theorem dX5_changePlaces_17 : decode cX5_changePlaces 17 = .ok (.iadd, 1) := by decide +kernel
theorem dX5_changePlaces_18 : decode cX5_changePlaces 18 = .ok (.iaload, 1) := by decide +kernel
theorem dX5_changePlaces_19 : decode cX5_changePlaces 19 = .ok (.iastore, 1) := by decide +kernel
theorem dX5_changePlaces_20 : decode cX5_changePlaces 20 = .ok (.aload_n 3, 1) := by decide +kernel
theorem dX5_changePlaces_21 : decode cX5_changePlaces 21 = .ok (.iload_n 2, 1) := by decide +kernel
theorem dX5_changePlaces_22 : decode cX5_changePlaces 22 = .ok (.iconst 1, 1) := by decide +kernel
theorem dX5_changePlaces_23 : decode cX5_changePlaces 23 = .ok (.iadd, 1) := by decide +kernel
theorem dX5_changePlaces_24 : decode cX5_changePlaces 24 = .ok (.iload 4, 2) := by decide +kernel
theorem dX5_changePlaces_26 : decode cX5_changePlaces 26 = .ok (.iastore, 1) := by decide +kernel
theorem dX5_changePlaces_27 : decode cX5_changePlaces 27 = .ok (.return_, 1) := by decide +kernel
theorem dX5_sistersIn_0 : decode cX5_sistersIn 0 = .ok (.iconst 0, 1) := by decide +kernel
theorem dX5_sistersIn_1 : decode cX5_sistersIn 1 = .ok (.istore_n 2, 1) := by decide +kernel
theorem dX5_sistersIn_2 : decode cX5_sistersIn 2 = .ok (.iconst 0, 1) := by decide +kernel
theorem dX5_sistersIn_3 : decode cX5_sistersIn 3 = .ok (.istore_n 3, 1) := by decide +kernel
theorem dX5_sistersIn_4 : decode cX5_sistersIn 4 = .ok (.iload_n 3, 1) := by decide +kernel
theorem dX5_sistersIn_5 : decode cX5_sistersIn 5 = .ok (.aload_n 0, 1) := by decide +kernel
theorem dX5_sistersIn_6 : decode cX5_sistersIn 6 = .ok (.getfield 35, 3) := by decide +kernel
theorem dX5_sistersIn_9 : decode cX5_sistersIn 9 = .ok (.iload_n 1, 1) := by decide +kernel
theorem dX5_sistersIn_10 : decode cX5_sistersIn 10 = .ok (.iaload, 1) := by decide +kernel
theorem dX5_sistersIn_11 : decode cX5_sistersIn 11 = .ok (.if_icmp .ge 29, 3) := by decide +kernel
theorem dX5_sistersIn_14 : decode cX5_sistersIn 14 = .ok (.aload_n 0, 1) := by decide +kernel
theorem dX5_sistersIn_15 : decode cX5_sistersIn 15 = .ok (.getfield 9, 3) := by decide +kernel
theorem dX5_sistersIn_18 : decode cX5_sistersIn 18 = .ok (.aload_n 0, 1) := by decide +kernel
theorem dX5_sistersIn_19 : decode cX5_sistersIn 19 = .ok (.getfield 32, 3) := by decide +kernel
theorem dX5_sistersIn_22 : decode cX5_sistersIn 22 = .ok (.iload_n 1, 1) := by decide +kernel
theorem dX5_sistersIn_23 : decode cX5_sistersIn 23 = .ok (.aaload, 1) := by decide +kernel
theorem dX5_sistersIn_24 : decode cX5_sistersIn 24 = .ok (.iload_n 3, 1) := by decide +kernel
theorem dX5_sistersIn_25 : decode cX5_sistersIn 25 = .ok (.iaload, 1) := by decide +kernel
theorem dX5_sistersIn_26 : decode cX5_sistersIn 26 = .ok (.iaload, 1) := by decide +kernel
theorem dX5_sistersIn_27 : decode cX5_sistersIn 27 = .ok (.iconst 3, 1) := by decide +kernel
theorem dX5_sistersIn_28 : decode cX5_sistersIn 28 = .ok (.if_icmp .ne 6, 3) := by decide +kernel
theorem dX5_sistersIn_31 : decode cX5_sistersIn 31 = .ok (.iinc 2 1, 3) := by decide +kernel
theorem dX5_sistersIn_34 : decode cX5_sistersIn 34 = .ok (.iinc 3 1, 3) := by decide +kernel
theorem dX5_sistersIn_37 : decode cX5_sistersIn 37 = .ok (.goto (-33), 3) := by decide +kernel
theorem dX5_sistersIn_40 : decode cX5_sistersIn 40 = .ok (.iload_n 2, 1) := by decide +kernel
theorem dX5_sistersIn_41 : decode cX5_sistersIn 41 = .ok (.ireturn, 1) := by decide +kernel
theorem dX5_holdOf_0 : decode cX5_holdOf 0 = .ok (.aload_n 0, 1) := by decide +kernel
theorem dX5_holdOf_1 : decode cX5_holdOf 1 = .ok (.getfield 15, 3) := by decide +kernel
theorem dX5_holdOf_4 : decode cX5_holdOf 4 = .ok (.iload_n 1, 1) := by decide +kernel
theorem dX5_holdOf_5 : decode cX5_holdOf 5 = .ok (.iaload, 1) := by decide +kernel
theorem dX5_holdOf_6 : decode cX5_holdOf 6 = .ok (.aload_n 0, 1) := by decide +kernel
theorem dX5_holdOf_7 : decode cX5_holdOf 7 = .ok (.getfield 21, 3) := by decide +kernel
theorem dX5_holdOf_10 : decode cX5_holdOf 10 = .ok (.iload_n 1, 1) := by decide +kernel
theorem dX5_holdOf_11 : decode cX5_holdOf 11 = .ok (.iaload, 1) := by decide +kernel
theorem dX5_holdOf_12 : decode cX5_holdOf 12 = .ok (.if_icmp .le 19, 3) := by decide +kernel
theorem dX5_holdOf_15 : decode cX5_holdOf 15 = .ok (.aload_n 0, 1) := by decide +kernel
theorem dX5_holdOf_16 : decode cX5_holdOf 16 = .ok (.getfield 15, 3) := by decide +kernel
theorem dX5_holdOf_19 : decode cX5_holdOf 19 = .ok (.iload_n 1, 1) := by decide +kernel
theorem dX5_holdOf_20 : decode cX5_holdOf 20 = .ok (.iaload, 1) := by decide +kernel
theorem dX5_holdOf_21 : decode cX5_holdOf 21 = .ok (.aload_n 0, 1) := by decide +kernel
theorem dX5_holdOf_22 : decode cX5_holdOf 22 = .ok (.getfield 21, 3) := by decide +kernel
theorem dX5_holdOf_25 : decode cX5_holdOf 25 = .ok (.iload_n 1, 1) := by decide +kernel
theorem dX5_holdOf_26 : decode cX5_holdOf 26 = .ok (.iaload, 1) := by decide +kernel
theorem dX5_holdOf_27 : decode cX5_holdOf 27 = .ok (.isub, 1) := by decide +kernel
theorem dX5_holdOf_28 : decode cX5_holdOf 28 = .ok (.goto 4, 3) := by decide +kernel
theorem dX5_holdOf_31 : decode cX5_holdOf 31 = .ok (.iconst 0, 1) := by decide +kernel
theorem dX5_holdOf_32 : decode cX5_holdOf 32 = .ok (.istore_n 3, 1) := by decide +kernel
theorem dX5_holdOf_33 : decode cX5_holdOf 33 = .ok (.aload_n 0, 1) := by decide +kernel
theorem dX5_holdOf_34 : decode cX5_holdOf 34 = .ok (.getfield 9, 3) := by decide +kernel
theorem dX5_holdOf_37 : decode cX5_holdOf 37 = .ok (.iload_n 1, 1) := by decide +kernel
theorem dX5_holdOf_38 : decode cX5_holdOf 38 = .ok (.iaload, 1) := by decide +kernel
theorem dX5_holdOf_39 : decode cX5_holdOf 39 = .ok (.tableswitch 87 1 5 #[33, 72, 42, 76, 72], 33) := by decide +kernel
theorem dX5_holdOf_72 : decode cX5_holdOf 72 = .ok (.iload_n 3, 1) := by decide +kernel
theorem dX5_holdOf_73 : decode cX5_holdOf 73 = .ok (.aload_n 0, 1) := by decide +kernel
theorem dX5_holdOf_74 : decode cX5_holdOf 74 = .ok (.getfield 24, 3) := by decide +kernel
theorem dX5_holdOf_77 : decode cX5_holdOf 77 = .ok (.iload_n 1, 1) := by decide +kernel
theorem dX5_holdOf_78 : decode cX5_holdOf 78 = .ok (.iaload, 1) := by decide +kernel
theorem dX5_holdOf_79 : decode cX5_holdOf 79 = .ok (.iadd, 1) := by decide +kernel
theorem dX5_holdOf_80 : decode cX5_holdOf 80 = .ok (.ireturn, 1) := by decide +kernel
theorem dX5_holdOf_81 : decode cX5_holdOf 81 = .ok (.iload_n 3, 1) := by decide +kernel
theorem dX5_holdOf_82 : decode cX5_holdOf 82 = .ok (.aload_n 0, 1) := by decide +kernel
theorem dX5_holdOf_83 : decode cX5_holdOf 83 = .ok (.getfield 24, 3) := by decide +kernel
theorem dX5_holdOf_86 : decode cX5_holdOf 86 = .ok (.iload_n 1, 1) := by decide +kernel
theorem dX5_holdOf_87 : decode cX5_holdOf 87 = .ok (.iaload, 1) := by decide +kernel
theorem dX5_holdOf_88 : decode cX5_holdOf 88 = .ok (.iadd, 1) := by decide +kernel
theorem dX5_holdOf_89 : decode cX5_holdOf 89 = .ok (.iload_n 2, 1) := by decide +kernel
theorem dX5_holdOf_90 : decode cX5_holdOf 90 = .ok (.iconst (-1), 1) := by decide +kernel
theorem dX5_holdOf_91 : decode cX5_holdOf 91 = .ok (.if_icmp .eq 17, 3) := by decide +kernel
theorem dX5_holdOf_94 : decode cX5_holdOf 94 = .ok (.aload_n 0, 1) := by decide +kernel
theorem dX5_holdOf_95 : decode cX5_holdOf 95 = .ok (.getfield 9, 3) := by decide +kernel
theorem dX5_holdOf_98 : decode cX5_holdOf 98 = .ok (.iload_n 2, 1) := by decide +kernel
theorem dX5_holdOf_99 : decode cX5_holdOf 99 = .ok (.iaload, 1) := by decide +kernel
theorem dX5_holdOf_100 : decode cX5_holdOf 100 = .ok (.iconst 3, 1) := by decide +kernel
theorem dX5_holdOf_101 : decode cX5_holdOf 101 = .ok (.if_icmp .ne 7, 3) := by decide +kernel
theorem dX5_holdOf_104 : decode cX5_holdOf 104 = .ok (.iconst 5, 1) := by decide +kernel
theorem dX5_holdOf_105 : decode cX5_holdOf 105 = .ok (.goto 4, 3) := by decide +kernel
theorem dX5_holdOf_108 : decode cX5_holdOf 108 = .ok (.iconst 0, 1) := by decide +kernel
theorem dX5_holdOf_109 : decode cX5_holdOf 109 = .ok (.iadd, 1) := by decide +kernel
theorem dX5_holdOf_110 : decode cX5_holdOf 110 = .ok (.ireturn, 1) := by decide +kernel
theorem dX5_holdOf_111 : decode cX5_holdOf 111 = .ok (.iload_n 3, 1) := by decide +kernel
theorem dX5_holdOf_112 : decode cX5_holdOf 112 = .ok (.iconst 2, 1) := by decide +kernel
theorem dX5_holdOf_113 : decode cX5_holdOf 113 = .ok (.idiv, 1) := by decide +kernel
theorem dX5_holdOf_114 : decode cX5_holdOf 114 = .ok (.ireturn, 1) := by decide +kernel
theorem dX5_holdOf_115 : decode cX5_holdOf 115 = .ok (.iload_n 3, 1) := by decide +kernel
theorem dX5_holdOf_116 : decode cX5_holdOf 116 = .ok (.aload_n 0, 1) := by decide +kernel
theorem dX5_holdOf_117 : decode cX5_holdOf 117 = .ok (.getfield 18, 3) := by decide +kernel
theorem dX5_holdOf_120 : decode cX5_holdOf 120 = .ok (.iload_n 1, 1) := by decide +kernel
theorem dX5_holdOf_121 : decode cX5_holdOf 121 = .ok (.iaload, 1) := by decide +kernel
theorem dX5_holdOf_122 : decode cX5_holdOf 122 = .ok (.iconst 4, 1) := by decide +kernel
theorem dX5_holdOf_123 : decode cX5_holdOf 123 = .ok (.idiv, 1) := by decide +kernel
theorem dX5_holdOf_124 : decode cX5_holdOf 124 = .ok (.iadd, 1) := by decide +kernel
theorem dX5_holdOf_125 : decode cX5_holdOf 125 = .ok (.ireturn, 1) := by decide +kernel
theorem dX5_holdOf_126 : decode cX5_holdOf 126 = .ok (.iload_n 3, 1) := by decide +kernel
theorem dX5_holdOf_127 : decode cX5_holdOf 127 = .ok (.ireturn, 1) := by decide +kernel
theorem dX5_strengthBy_0 : decode cX5_strengthBy 0 = .ok (.aload_n 0, 1) := by decide +kernel
theorem dX5_strengthBy_1 : decode cX5_strengthBy 1 = .ok (.getfield 60, 3) := by decide +kernel
theorem dX5_strengthBy_4 : decode cX5_strengthBy 4 = .ok (.iconst 1, 1) := by decide +kernel
theorem dX5_strengthBy_5 : decode cX5_strengthBy 5 = .ok (.if_icmp .ne 9, 3) := by decide +kernel
theorem dX5_strengthBy_8 : decode cX5_strengthBy 8 = .ok (.iload_n 1, 1) := by decide +kernel
theorem dX5_strengthBy_9 : decode cX5_strengthBy 9 = .ok (.iconst 3, 1) := by decide +kernel
theorem dX5_strengthBy_10 : decode cX5_strengthBy 10 = .ok (.iadd, 1) := by decide +kernel
theorem dX5_strengthBy_11 : decode cX5_strengthBy 11 = .ok (.goto 4, 3) := by decide +kernel
theorem dX5_strengthBy_14 : decode cX5_strengthBy 14 = .ok (.iload_n 1, 1) := by decide +kernel
theorem dX5_strengthBy_15 : decode cX5_strengthBy 15 = .ok (.istore_n 3, 1) := by decide +kernel
theorem dX5_strengthBy_16 : decode cX5_strengthBy 16 = .ok (.iload_n 2, 1) := by decide +kernel
theorem dX5_strengthBy_17 : decode cX5_strengthBy 17 = .ok (.ifCond .ne 5, 3) := by decide +kernel
theorem dX5_strengthBy_20 : decode cX5_strengthBy 20 = .ok (.iload_n 3, 1) := by decide +kernel
theorem dX5_strengthBy_21 : decode cX5_strengthBy 21 = .ok (.ireturn, 1) := by decide +kernel
theorem dX5_strengthBy_22 : decode cX5_strengthBy 22 = .ok (.iload_n 3, 1) := by decide +kernel
theorem dX5_strengthBy_23 : decode cX5_strengthBy 23 = .ok (.iconst 2, 1) := by decide +kernel
theorem dX5_strengthBy_24 : decode cX5_strengthBy 24 = .ok (.if_icmp .le 9, 3) := by decide +kernel
theorem dX5_strengthBy_27 : decode cX5_strengthBy 27 = .ok (.iload_n 3, 1) := by decide +kernel
theorem dX5_strengthBy_28 : decode cX5_strengthBy 28 = .ok (.iconst 2, 1) := by decide +kernel
theorem dX5_strengthBy_29 : decode cX5_strengthBy 29 = .ok (.isub, 1) := by decide +kernel
theorem dX5_strengthBy_30 : decode cX5_strengthBy 30 = .ok (.goto 4, 3) := by decide +kernel
theorem dX5_strengthBy_33 : decode cX5_strengthBy 33 = .ok (.iconst 0, 1) := by decide +kernel
theorem dX5_strengthBy_34 : decode cX5_strengthBy 34 = .ok (.ireturn, 1) := by decide +kernel
theorem dX5_strengthAt_0 : decode cX5_strengthAt 0 = .ok (.aload_n 0, 1) := by decide +kernel
theorem dX5_strengthAt_1 : decode cX5_strengthAt 1 = .ok (.getfield 32, 3) := by decide +kernel
theorem dX5_strengthAt_4 : decode cX5_strengthAt 4 = .ok (.iload_n 1, 1) := by decide +kernel
theorem dX5_strengthAt_5 : decode cX5_strengthAt 5 = .ok (.aaload, 1) := by decide +kernel
theorem dX5_strengthAt_6 : decode cX5_strengthAt 6 = .ok (.iload_n 2, 1) := by decide +kernel
theorem dX5_strengthAt_7 : decode cX5_strengthAt 7 = .ok (.iaload, 1) := by decide +kernel
theorem dX5_strengthAt_8 : decode cX5_strengthAt 8 = .ok (.istore_n 3, 1) := by decide +kernel
theorem dX5_strengthAt_9 : decode cX5_strengthAt 9 = .ok (.aload_n 0, 1) := by decide +kernel
theorem dX5_strengthAt_10 : decode cX5_strengthAt 10 = .ok (.getfield 32, 3) := by decide +kernel
theorem dX5_strengthAt_13 : decode cX5_strengthAt 13 = .ok (.iload_n 1, 1) := by decide +kernel
theorem dX5_strengthAt_14 : decode cX5_strengthAt 14 = .ok (.aaload, 1) := by decide +kernel
theorem dX5_strengthAt_15 : decode cX5_strengthAt 15 = .ok (.iload_n 2, 1) := by decide +kernel
theorem dX5_strengthAt_16 : decode cX5_strengthAt 16 = .ok (.iconst 1, 1) := by decide +kernel
theorem dX5_strengthAt_17 : decode cX5_strengthAt 17 = .ok (.iadd, 1) := by decide +kernel
theorem dX5_strengthAt_18 : decode cX5_strengthAt 18 = .ok (.iaload, 1) := by decide +kernel
theorem dX5_strengthAt_19 : decode cX5_strengthAt 19 = .ok (.istore 4, 2) := by decide +kernel
theorem dX5_strengthAt_21 : decode cX5_strengthAt 21 = .ok (.aload_n 0, 1) := by decide +kernel
theorem dX5_strengthAt_22 : decode cX5_strengthAt 22 = .ok (.aload_n 0, 1) := by decide +kernel
theorem dX5_strengthAt_23 : decode cX5_strengthAt 23 = .ok (.iload_n 3, 1) := by decide +kernel
theorem dX5_strengthAt_24 : decode cX5_strengthAt 24 = .ok (.iload 4, 2) := by decide +kernel
theorem dX5_strengthAt_26 : decode cX5_strengthAt 26 = .ok (.invokevirtual 73, 3) := by decide +kernel
theorem dX5_strengthAt_29 : decode cX5_strengthAt 29 = .ok (.aload_n 0, 1) := by decide +kernel
theorem dX5_strengthAt_30 : decode cX5_strengthAt 30 = .ok (.iload 4, 2) := by decide +kernel
theorem dX5_strengthAt_32 : decode cX5_strengthAt 32 = .ok (.iload_n 3, 1) := by decide +kernel
theorem dX5_strengthAt_33 : decode cX5_strengthAt 33 = .ok (.invokevirtual 73, 3) := by decide +kernel
theorem dX5_strengthAt_36 : decode cX5_strengthAt 36 = .ok (.iadd, 1) := by decide +kernel
theorem dX5_strengthAt_37 : decode cX5_strengthAt 37 = .ok (.iload_n 2, 1) := by decide +kernel
theorem dX5_strengthAt_38 : decode cX5_strengthAt 38 = .ok (.ifCond .eq 15, 3) := by decide +kernel
theorem dX5_strengthAt_41 : decode cX5_strengthAt 41 = .ok (.iload_n 2, 1) := by decide +kernel
theorem dX5_strengthAt_42 : decode cX5_strengthAt 42 = .ok (.aload_n 0, 1) := by decide +kernel
theorem dX5_strengthAt_43 : decode cX5_strengthAt 43 = .ok (.getfield 35, 3) := by decide +kernel
theorem dX5_strengthAt_46 : decode cX5_strengthAt 46 = .ok (.iload_n 1, 1) := by decide +kernel
theorem dX5_strengthAt_47 : decode cX5_strengthAt 47 = .ok (.iaload, 1) := by decide +kernel
theorem dX5_strengthAt_48 : decode cX5_strengthAt 48 = .ok (.iconst 2, 1) := by decide +kernel
theorem dX5_strengthAt_49 : decode cX5_strengthAt 49 = .ok (.isub, 1) := by decide +kernel
theorem dX5_strengthAt_50 : decode cX5_strengthAt 50 = .ok (.if_icmp .ne 7, 3) := by decide +kernel
theorem dX5_strengthAt_53 : decode cX5_strengthAt 53 = .ok (.iconst 1, 1) := by decide +kernel
theorem dX5_strengthAt_54 : decode cX5_strengthAt 54 = .ok (.goto 4, 3) := by decide +kernel
theorem dX5_strengthAt_57 : decode cX5_strengthAt 57 = .ok (.iconst 0, 1) := by decide +kernel
theorem dX5_strengthAt_58 : decode cX5_strengthAt 58 = .ok (.invokevirtual 77, 3) := by decide +kernel
theorem dX5_strengthAt_61 : decode cX5_strengthAt 61 = .ok (.ireturn, 1) := by decide +kernel
theorem dX5_weakestJoint_0 : decode cX5_weakestJoint 0 = .ok (.iconst 0, 1) := by decide +kernel
theorem dX5_weakestJoint_1 : decode cX5_weakestJoint 1 = .ok (.istore_n 2, 1) := by decide +kernel
theorem dX5_weakestJoint_2 : decode cX5_weakestJoint 2 = .ok (.ldc 81, 2) := by decide +kernel
theorem dX5_weakestJoint_4 : decode cX5_weakestJoint 4 = .ok (.istore_n 3, 1) := by decide +kernel
theorem dX5_weakestJoint_5 : decode cX5_weakestJoint 5 = .ok (.iconst 0, 1) := by decide +kernel
theorem dX5_weakestJoint_6 : decode cX5_weakestJoint 6 = .ok (.istore 4, 2) := by decide +kernel
theorem dX5_weakestJoint_8 : decode cX5_weakestJoint 8 = .ok (.iload 4, 2) := by decide +kernel
theorem dX5_weakestJoint_10 : decode cX5_weakestJoint 10 = .ok (.aload_n 0, 1) := by decide +kernel
theorem dX5_weakestJoint_11 : decode cX5_weakestJoint 11 = .ok (.getfield 35, 3) := by decide +kernel
theorem dX5_weakestJoint_14 : decode cX5_weakestJoint 14 = .ok (.iload_n 1, 1) := by decide +kernel
theorem dX5_weakestJoint_15 : decode cX5_weakestJoint 15 = .ok (.iaload, 1) := by decide +kernel
theorem dX5_weakestJoint_16 : decode cX5_weakestJoint 16 = .ok (.iconst 1, 1) := by decide +kernel
theorem dX5_weakestJoint_17 : decode cX5_weakestJoint 17 = .ok (.isub, 1) := by decide +kernel
theorem dX5_weakestJoint_18 : decode cX5_weakestJoint 18 = .ok (.if_icmp .ge 30, 3) := by decide +kernel
theorem dX5_weakestJoint_21 : decode cX5_weakestJoint 21 = .ok (.aload_n 0, 1) := by decide +kernel
theorem dX5_weakestJoint_22 : decode cX5_weakestJoint 22 = .ok (.iload_n 1, 1) := by decide +kernel
theorem dX5_weakestJoint_23 : decode cX5_weakestJoint 23 = .ok (.iload 4, 2) := by decide +kernel
theorem dX5_weakestJoint_25 : decode cX5_weakestJoint 25 = .ok (.invokevirtual 82, 3) := by decide +kernel
theorem dX5_weakestJoint_28 : decode cX5_weakestJoint 28 = .ok (.istore 5, 2) := by decide +kernel
theorem dX5_weakestJoint_30 : decode cX5_weakestJoint 30 = .ok (.iload 5, 2) := by decide +kernel
theorem dX5_weakestJoint_32 : decode cX5_weakestJoint 32 = .ok (.iload_n 3, 1) := by decide +kernel
theorem dX5_weakestJoint_33 : decode cX5_weakestJoint 33 = .ok (.if_icmp .ge 9, 3) := by decide +kernel
theorem dX5_weakestJoint_36 : decode cX5_weakestJoint 36 = .ok (.iload 5, 2) := by decide +kernel
theorem dX5_weakestJoint_38 : decode cX5_weakestJoint 38 = .ok (.istore_n 3, 1) := by decide +kernel
theorem dX5_weakestJoint_39 : decode cX5_weakestJoint 39 = .ok (.iload 4, 2) := by decide +kernel
theorem dX5_weakestJoint_41 : decode cX5_weakestJoint 41 = .ok (.istore_n 2, 1) := by decide +kernel
theorem dX5_weakestJoint_42 : decode cX5_weakestJoint 42 = .ok (.iinc 4 1, 3) := by decide +kernel
theorem dX5_weakestJoint_45 : decode cX5_weakestJoint 45 = .ok (.goto (-37), 3) := by decide +kernel
theorem dX5_weakestJoint_48 : decode cX5_weakestJoint 48 = .ok (.iload_n 2, 1) := by decide +kernel
theorem dX5_weakestJoint_49 : decode cX5_weakestJoint 49 = .ok (.ireturn, 1) := by decide +kernel
theorem dX5_strongestJoint_0 : decode cX5_strongestJoint 0 = .ok (.iconst 0, 1) := by decide +kernel
theorem dX5_strongestJoint_1 : decode cX5_strongestJoint 1 = .ok (.istore_n 2, 1) := by decide +kernel
theorem dX5_strongestJoint_2 : decode cX5_strongestJoint 2 = .ok (.iconst (-1), 1) := by decide +kernel
theorem dX5_strongestJoint_3 : decode cX5_strongestJoint 3 = .ok (.istore_n 3, 1) := by decide +kernel
theorem dX5_strongestJoint_4 : decode cX5_strongestJoint 4 = .ok (.iconst 0, 1) := by decide +kernel
theorem dX5_strongestJoint_5 : decode cX5_strongestJoint 5 = .ok (.istore 4, 2) := by decide +kernel
theorem dX5_strongestJoint_7 : decode cX5_strongestJoint 7 = .ok (.iload 4, 2) := by decide +kernel
theorem dX5_strongestJoint_9 : decode cX5_strongestJoint 9 = .ok (.aload_n 0, 1) := by decide +kernel
theorem dX5_strongestJoint_10 : decode cX5_strongestJoint 10 = .ok (.getfield 35, 3) := by decide +kernel
theorem dX5_strongestJoint_13 : decode cX5_strongestJoint 13 = .ok (.iload_n 1, 1) := by decide +kernel
theorem dX5_strongestJoint_14 : decode cX5_strongestJoint 14 = .ok (.iaload, 1) := by decide +kernel
theorem dX5_strongestJoint_15 : decode cX5_strongestJoint 15 = .ok (.iconst 1, 1) := by decide +kernel
theorem dX5_strongestJoint_16 : decode cX5_strongestJoint 16 = .ok (.isub, 1) := by decide +kernel
theorem dX5_strongestJoint_17 : decode cX5_strongestJoint 17 = .ok (.if_icmp .ge 30, 3) := by decide +kernel
theorem dX5_strongestJoint_20 : decode cX5_strongestJoint 20 = .ok (.aload_n 0, 1) := by decide +kernel
theorem dX5_strongestJoint_21 : decode cX5_strongestJoint 21 = .ok (.iload_n 1, 1) := by decide +kernel
theorem dX5_strongestJoint_22 : decode cX5_strongestJoint 22 = .ok (.iload 4, 2) := by decide +kernel
theorem dX5_strongestJoint_24 : decode cX5_strongestJoint 24 = .ok (.invokevirtual 82, 3) := by decide +kernel
theorem dX5_strongestJoint_27 : decode cX5_strongestJoint 27 = .ok (.istore 5, 2) := by decide +kernel
theorem dX5_strongestJoint_29 : decode cX5_strongestJoint 29 = .ok (.iload 5, 2) := by decide +kernel
theorem dX5_strongestJoint_31 : decode cX5_strongestJoint 31 = .ok (.iload_n 3, 1) := by decide +kernel
theorem dX5_strongestJoint_32 : decode cX5_strongestJoint 32 = .ok (.if_icmp .le 9, 3) := by decide +kernel
theorem dX5_strongestJoint_35 : decode cX5_strongestJoint 35 = .ok (.iload 5, 2) := by decide +kernel
theorem dX5_strongestJoint_37 : decode cX5_strongestJoint 37 = .ok (.istore_n 3, 1) := by decide +kernel
theorem dX5_strongestJoint_38 : decode cX5_strongestJoint 38 = .ok (.iload 4, 2) := by decide +kernel
theorem dX5_strongestJoint_40 : decode cX5_strongestJoint 40 = .ok (.istore_n 2, 1) := by decide +kernel
theorem dX5_strongestJoint_41 : decode cX5_strongestJoint 41 = .ok (.iinc 4 1, 3) := by decide +kernel
theorem dX5_strongestJoint_44 : decode cX5_strongestJoint 44 = .ok (.goto (-37), 3) := by decide +kernel
theorem dX5_strongestJoint_47 : decode cX5_strongestJoint 47 = .ok (.iload_n 2, 1) := by decide +kernel
theorem dX5_strongestJoint_48 : decode cX5_strongestJoint 48 = .ok (.ireturn, 1) := by decide +kernel
theorem dX5_leastStrength_0 : decode cX5_leastStrength 0 = .ok (.aload_n 0, 1) := by decide +kernel
theorem dX5_leastStrength_1 : decode cX5_leastStrength 1 = .ok (.getfield 35, 3) := by decide +kernel
theorem dX5_leastStrength_4 : decode cX5_leastStrength 4 = .ok (.iload_n 1, 1) := by decide +kernel
theorem dX5_leastStrength_5 : decode cX5_leastStrength 5 = .ok (.iaload, 1) := by decide +kernel
theorem dX5_leastStrength_6 : decode cX5_leastStrength 6 = .ok (.iconst 2, 1) := by decide +kernel
theorem dX5_leastStrength_7 : decode cX5_leastStrength 7 = .ok (.if_icmp .ge 7, 3) := by decide +kernel
theorem dX5_leastStrength_10 : decode cX5_leastStrength 10 = .ok (.iconst 0, 1) := by decide +kernel
theorem dX5_leastStrength_11 : decode cX5_leastStrength 11 = .ok (.goto 9, 3) := by decide +kernel
theorem dX5_leastStrength_14 : decode cX5_leastStrength 14 = .ok (.aload_n 0, 1) := by decide +kernel
theorem dX5_leastStrength_15 : decode cX5_leastStrength 15 = .ok (.iload_n 1, 1) := by decide +kernel
theorem dX5_leastStrength_16 : decode cX5_leastStrength 16 = .ok (.iconst 0, 1) := by decide +kernel
theorem dX5_leastStrength_17 : decode cX5_leastStrength 17 = .ok (.invokevirtual 82, 3) := by decide +kernel
theorem dX5_leastStrength_20 : decode cX5_leastStrength 20 = .ok (.istore_n 2, 1) := by decide +kernel
theorem dX5_leastStrength_21 : decode cX5_leastStrength 21 = .ok (.iconst 1, 1) := by decide +kernel
theorem dX5_leastStrength_22 : decode cX5_leastStrength 22 = .ok (.istore_n 3, 1) := by decide +kernel
theorem dX5_leastStrength_23 : decode cX5_leastStrength 23 = .ok (.iload_n 3, 1) := by decide +kernel
theorem dX5_leastStrength_24 : decode cX5_leastStrength 24 = .ok (.aload_n 0, 1) := by decide +kernel
theorem dX5_leastStrength_25 : decode cX5_leastStrength 25 = .ok (.getfield 35, 3) := by decide +kernel
theorem dX5_leastStrength_28 : decode cX5_leastStrength 28 = .ok (.iload_n 1, 1) := by decide +kernel
theorem dX5_leastStrength_29 : decode cX5_leastStrength 29 = .ok (.iaload, 1) := by decide +kernel
theorem dX5_leastStrength_30 : decode cX5_leastStrength 30 = .ok (.iconst 1, 1) := by decide +kernel
theorem dX5_leastStrength_31 : decode cX5_leastStrength 31 = .ok (.isub, 1) := by decide +kernel
theorem dX5_leastStrength_32 : decode cX5_leastStrength 32 = .ok (.if_icmp .ge 20, 3) := by decide +kernel
theorem dX5_leastStrength_35 : decode cX5_leastStrength 35 = .ok (.iload_n 2, 1) := by decide +kernel
theorem dX5_leastStrength_36 : decode cX5_leastStrength 36 = .ok (.aload_n 0, 1) := by decide +kernel
theorem dX5_leastStrength_37 : decode cX5_leastStrength 37 = .ok (.iload_n 1, 1) := by decide +kernel
theorem dX5_leastStrength_38 : decode cX5_leastStrength 38 = .ok (.iload_n 3, 1) := by decide +kernel
theorem dX5_leastStrength_39 : decode cX5_leastStrength 39 = .ok (.invokevirtual 82, 3) := by decide +kernel
theorem dX5_leastStrength_42 : decode cX5_leastStrength 42 = .ok (.invokestatic 85, 3) := by decide +kernel
theorem dX5_leastStrength_45 : decode cX5_leastStrength 45 = .ok (.istore_n 2, 1) := by decide +kernel
theorem dX5_leastStrength_46 : decode cX5_leastStrength 46 = .ok (.iinc 3 1, 3) := by decide +kernel
theorem dX5_leastStrength_49 : decode cX5_leastStrength 49 = .ok (.goto (-26), 3) := by decide +kernel
theorem dX5_leastStrength_52 : decode cX5_leastStrength 52 = .ok (.iload_n 2, 1) := by decide +kernel
theorem dX5_leastStrength_53 : decode cX5_leastStrength 53 = .ok (.ireturn, 1) := by decide +kernel
theorem dX5_forceOf_0 : decode cX5_forceOf 0 = .ok (.aload_n 0, 1) := by decide +kernel
theorem dX5_forceOf_1 : decode cX5_forceOf 1 = .ok (.getfield 18, 3) := by decide +kernel
theorem dX5_forceOf_4 : decode cX5_forceOf 4 = .ok (.iload_n 1, 1) := by decide +kernel
theorem dX5_forceOf_5 : decode cX5_forceOf 5 = .ok (.iaload, 1) := by decide +kernel
theorem dX5_forceOf_6 : decode cX5_forceOf 6 = .ok (.aload_n 0, 1) := by decide +kernel
theorem dX5_forceOf_7 : decode cX5_forceOf 7 = .ok (.getfield 38, 3) := by decide +kernel
theorem dX5_forceOf_10 : decode cX5_forceOf 10 = .ok (.iconst 3, 1) := by decide +kernel
theorem dX5_forceOf_11 : decode cX5_forceOf 11 = .ok (.idiv, 1) := by decide +kernel
theorem dX5_forceOf_12 : decode cX5_forceOf 12 = .ok (.iadd, 1) := by decide +kernel
theorem dX5_forceOf_13 : decode cX5_forceOf 13 = .ok (.istore_n 2, 1) := by decide +kernel
theorem dX5_forceOf_14 : decode cX5_forceOf 14 = .ok (.aload_n 0, 1) := by decide +kernel
theorem dX5_forceOf_15 : decode cX5_forceOf 15 = .ok (.getfield 9, 3) := by decide +kernel
theorem dX5_forceOf_18 : decode cX5_forceOf 18 = .ok (.iload_n 1, 1) := by decide +kernel
theorem dX5_forceOf_19 : decode cX5_forceOf 19 = .ok (.iaload, 1) := by decide +kernel
theorem dX5_forceOf_20 : decode cX5_forceOf 20 = .ok (.iconst 4, 1) := by decide +kernel
theorem dX5_forceOf_21 : decode cX5_forceOf 21 = .ok (.if_icmp .ne 12, 3) := by decide +kernel
theorem dX5_forceOf_24 : decode cX5_forceOf 24 = .ok (.iload_n 2, 1) := by decide +kernel
theorem dX5_forceOf_25 : decode cX5_forceOf 25 = .ok (.aload_n 0, 1) := by decide +kernel
theorem dX5_forceOf_26 : decode cX5_forceOf 26 = .ok (.getfield 24, 3) := by decide +kernel
theorem dX5_forceOf_29 : decode cX5_forceOf 29 = .ok (.iload_n 1, 1) := by decide +kernel
theorem dX5_forceOf_30 : decode cX5_forceOf 30 = .ok (.iaload, 1) := by decide +kernel
theorem dX5_forceOf_31 : decode cX5_forceOf 31 = .ok (.iadd, 1) := by decide +kernel
theorem dX5_forceOf_32 : decode cX5_forceOf 32 = .ok (.ireturn, 1) := by decide +kernel
theorem dX5_forceOf_33 : decode cX5_forceOf 33 = .ok (.aload_n 0, 1) := by decide +kernel
theorem dX5_forceOf_34 : decode cX5_forceOf 34 = .ok (.getfield 9, 3) := by decide +kernel
theorem dX5_forceOf_37 : decode cX5_forceOf 37 = .ok (.iload_n 1, 1) := by decide +kernel
theorem dX5_forceOf_38 : decode cX5_forceOf 38 = .ok (.iaload, 1) := by decide +kernel
theorem dX5_forceOf_39 : decode cX5_forceOf 39 = .ok (.iconst 5, 1) := by decide +kernel
theorem dX5_forceOf_40 : decode cX5_forceOf 40 = .ok (.if_icmp .ne 9, 3) := by decide +kernel
theorem dX5_forceOf_43 : decode cX5_forceOf 43 = .ok (.iload_n 2, 1) := by decide +kernel
theorem dX5_forceOf_44 : decode cX5_forceOf 44 = .ok (.iconst 2, 1) := by decide +kernel
theorem dX5_forceOf_45 : decode cX5_forceOf 45 = .ok (.iadd, 1) := by decide +kernel
theorem dX5_forceOf_46 : decode cX5_forceOf 46 = .ok (.goto 4, 3) := by decide +kernel
theorem dX5_forceOf_49 : decode cX5_forceOf 49 = .ok (.iload_n 2, 1) := by decide +kernel
theorem dX5_forceOf_50 : decode cX5_forceOf 50 = .ok (.ireturn, 1) := by decide +kernel
theorem dX5_oddsAgainst_0 : decode cX5_oddsAgainst 0 = .ok (.aload_n 0, 1) := by decide +kernel
theorem dX5_oddsAgainst_1 : decode cX5_oddsAgainst 1 = .ok (.iload_n 1, 1) := by decide +kernel
theorem dX5_oddsAgainst_2 : decode cX5_oddsAgainst 2 = .ok (.invokevirtual 90, 3) := by decide +kernel
theorem dX5_oddsAgainst_5 : decode cX5_oddsAgainst 5 = .ok (.aload_n 0, 1) := by decide +kernel
theorem dX5_oddsAgainst_6 : decode cX5_oddsAgainst 6 = .ok (.getfield 42, 3) := by decide +kernel
theorem dX5_oddsAgainst_9 : decode cX5_oddsAgainst 9 = .ok (.iadd, 1) := by decide +kernel
theorem dX5_oddsAgainst_10 : decode cX5_oddsAgainst 10 = .ok (.iconst 1, 1) := by decide +kernel
theorem dX5_oddsAgainst_11 : decode cX5_oddsAgainst 11 = .ok (.isub, 1) := by decide +kernel
theorem dX5_oddsAgainst_12 : decode cX5_oddsAgainst 12 = .ok (.iload_n 2, 1) := by decide +kernel
theorem dX5_oddsAgainst_13 : decode cX5_oddsAgainst 13 = .ok (.isub, 1) := by decide +kernel
theorem dX5_oddsAgainst_14 : decode cX5_oddsAgainst 14 = .ok (.istore_n 3, 1) := by decide +kernel
theorem dX5_oddsAgainst_15 : decode cX5_oddsAgainst 15 = .ok (.iload_n 3, 1) := by decide +kernel
theorem dX5_oddsAgainst_16 : decode cX5_oddsAgainst 16 = .ok (.ifCond .le 11, 3) := by decide +kernel
theorem dX5_oddsAgainst_19 : decode cX5_oddsAgainst 19 = .ok (.aload_n 0, 1) := by decide +kernel
theorem dX5_oddsAgainst_20 : decode cX5_oddsAgainst 20 = .ok (.getfield 42, 3) := by decide +kernel
theorem dX5_oddsAgainst_23 : decode cX5_oddsAgainst 23 = .ok (.iconst 1, 1) := by decide +kernel
theorem dX5_oddsAgainst_24 : decode cX5_oddsAgainst 24 = .ok (.if_icmp .ge 5, 3) := by decide +kernel
theorem dX5_oddsAgainst_27 : decode cX5_oddsAgainst 27 = .ok (.iconst 0, 1) := by decide +kernel
theorem dX5_oddsAgainst_28 : decode cX5_oddsAgainst 28 = .ok (.ireturn, 1) := by decide +kernel
theorem dX5_oddsAgainst_29 : decode cX5_oddsAgainst 29 = .ok (.iload_n 3, 1) := by decide +kernel
theorem dX5_oddsAgainst_30 : decode cX5_oddsAgainst 30 = .ok (.aload_n 0, 1) := by decide +kernel
theorem dX5_oddsAgainst_31 : decode cX5_oddsAgainst 31 = .ok (.getfield 42, 3) := by decide +kernel
theorem dX5_oddsAgainst_34 : decode cX5_oddsAgainst 34 = .ok (.if_icmp .lt 8, 3) := by decide +kernel
theorem dX5_oddsAgainst_37 : decode cX5_oddsAgainst 37 = .ok (.ldc 94, 2) := by decide +kernel
theorem dX5_oddsAgainst_39 : decode cX5_oddsAgainst 39 = .ok (.goto 12, 3) := by decide +kernel
theorem dX5_oddsAgainst_42 : decode cX5_oddsAgainst 42 = .ok (.ldc 94, 2) := by decide +kernel
theorem dX5_oddsAgainst_44 : decode cX5_oddsAgainst 44 = .ok (.iload_n 3, 1) := by decide +kernel
theorem dX5_oddsAgainst_45 : decode cX5_oddsAgainst 45 = .ok (.imul, 1) := by decide +kernel
theorem dX5_oddsAgainst_46 : decode cX5_oddsAgainst 46 = .ok (.aload_n 0, 1) := by decide +kernel
theorem dX5_oddsAgainst_47 : decode cX5_oddsAgainst 47 = .ok (.getfield 42, 3) := by decide +kernel
theorem dX5_oddsAgainst_50 : decode cX5_oddsAgainst 50 = .ok (.idiv, 1) := by decide +kernel
theorem dX5_oddsAgainst_51 : decode cX5_oddsAgainst 51 = .ok (.ireturn, 1) := by decide +kernel
theorem dX5_oddsOf_0 : decode cX5_oddsOf 0 = .ok (.aload_n 0, 1) := by decide +kernel
theorem dX5_oddsOf_1 : decode cX5_oddsOf 1 = .ok (.iload_n 1, 1) := by decide +kernel
theorem dX5_oddsOf_2 : decode cX5_oddsOf 2 = .ok (.aload_n 0, 1) := by decide +kernel
theorem dX5_oddsOf_3 : decode cX5_oddsOf 3 = .ok (.aload_n 0, 1) := by decide +kernel
theorem dX5_oddsOf_4 : decode cX5_oddsOf 4 = .ok (.getfield 63, 3) := by decide +kernel
theorem dX5_oddsOf_7 : decode cX5_oddsOf 7 = .ok (.iload_n 2, 1) := by decide +kernel
theorem dX5_oddsOf_8 : decode cX5_oddsOf 8 = .ok (.invokevirtual 82, 3) := by decide +kernel
theorem dX5_oddsOf_11 : decode cX5_oddsOf 11 = .ok (.invokevirtual 95, 3) := by decide +kernel
theorem dX5_oddsOf_14 : decode cX5_oddsOf 14 = .ok (.ireturn, 1) := by decide +kernel
theorem dX5_mostForceful_0 : decode cX5_mostForceful 0 = .ok (.aload_n 0, 1) := by decide +kernel
theorem dX5_mostForceful_1 : decode cX5_mostForceful 1 = .ok (.getfield 32, 3) := by decide +kernel
theorem dX5_mostForceful_4 : decode cX5_mostForceful 4 = .ok (.iload_n 1, 1) := by decide +kernel
theorem dX5_mostForceful_5 : decode cX5_mostForceful 5 = .ok (.aaload, 1) := by decide +kernel
theorem dX5_mostForceful_6 : decode cX5_mostForceful 6 = .ok (.iconst 0, 1) := by decide +kernel
theorem dX5_mostForceful_7 : decode cX5_mostForceful 7 = .ok (.iaload, 1) := by decide +kernel
theorem dX5_mostForceful_8 : decode cX5_mostForceful 8 = .ok (.istore_n 2, 1) := by decide +kernel
theorem dX5_mostForceful_9 : decode cX5_mostForceful 9 = .ok (.iconst 1, 1) := by decide +kernel
theorem dX5_mostForceful_10 : decode cX5_mostForceful 10 = .ok (.istore_n 3, 1) := by decide +kernel
theorem dX5_mostForceful_11 : decode cX5_mostForceful 11 = .ok (.iload_n 3, 1) := by decide +kernel
theorem dX5_mostForceful_12 : decode cX5_mostForceful 12 = .ok (.aload_n 0, 1) := by decide +kernel
theorem dX5_mostForceful_13 : decode cX5_mostForceful 13 = .ok (.getfield 35, 3) := by decide +kernel
theorem dX5_mostForceful_16 : decode cX5_mostForceful 16 = .ok (.iload_n 1, 1) := by decide +kernel
theorem dX5_mostForceful_17 : decode cX5_mostForceful 17 = .ok (.iaload, 1) := by decide +kernel
theorem dX5_mostForceful_18 : decode cX5_mostForceful 18 = .ok (.if_icmp .ge 38, 3) := by decide +kernel
theorem dX5_mostForceful_21 : decode cX5_mostForceful 21 = .ok (.aload_n 0, 1) := by decide +kernel
theorem dX5_mostForceful_22 : decode cX5_mostForceful 22 = .ok (.aload_n 0, 1) := by decide +kernel
theorem dX5_mostForceful_23 : decode cX5_mostForceful 23 = .ok (.getfield 32, 3) := by decide +kernel
theorem dX5_mostForceful_26 : decode cX5_mostForceful 26 = .ok (.iload_n 1, 1) := by decide +kernel
theorem dX5_mostForceful_27 : decode cX5_mostForceful 27 = .ok (.aaload, 1) := by decide +kernel
theorem dX5_mostForceful_28 : decode cX5_mostForceful 28 = .ok (.iload_n 3, 1) := by decide +kernel
theorem dX5_mostForceful_29 : decode cX5_mostForceful 29 = .ok (.iaload, 1) := by decide +kernel
theorem dX5_mostForceful_30 : decode cX5_mostForceful 30 = .ok (.invokevirtual 90, 3) := by decide +kernel
theorem dX5_mostForceful_33 : decode cX5_mostForceful 33 = .ok (.aload_n 0, 1) := by decide +kernel
theorem dX5_mostForceful_34 : decode cX5_mostForceful 34 = .ok (.iload_n 2, 1) := by decide +kernel
theorem dX5_mostForceful_35 : decode cX5_mostForceful 35 = .ok (.invokevirtual 90, 3) := by decide +kernel
theorem dX5_mostForceful_38 : decode cX5_mostForceful 38 = .ok (.if_icmp .le 12, 3) := by decide +kernel
theorem dX5_mostForceful_41 : decode cX5_mostForceful 41 = .ok (.aload_n 0, 1) := by decide +kernel
theorem dX5_mostForceful_42 : decode cX5_mostForceful 42 = .ok (.getfield 32, 3) := by decide +kernel
theorem dX5_mostForceful_45 : decode cX5_mostForceful 45 = .ok (.iload_n 1, 1) := by decide +kernel
theorem dX5_mostForceful_46 : decode cX5_mostForceful 46 = .ok (.aaload, 1) := by decide +kernel
theorem dX5_mostForceful_47 : decode cX5_mostForceful 47 = .ok (.iload_n 3, 1) := by decide +kernel
theorem dX5_mostForceful_48 : decode cX5_mostForceful 48 = .ok (.iaload, 1) := by decide +kernel
theorem dX5_mostForceful_49 : decode cX5_mostForceful 49 = .ok (.istore_n 2, 1) := by decide +kernel
theorem dX5_mostForceful_50 : decode cX5_mostForceful 50 = .ok (.iinc 3 1, 3) := by decide +kernel
theorem dX5_mostForceful_53 : decode cX5_mostForceful 53 = .ok (.goto (-42), 3) := by decide +kernel
theorem dX5_mostForceful_56 : decode cX5_mostForceful 56 = .ok (.iload_n 2, 1) := by decide +kernel
theorem dX5_mostForceful_57 : decode cX5_mostForceful 57 = .ok (.ireturn, 1) := by decide +kernel
theorem dX5_firmestPair_0 : decode cX5_firmestPair 0 = .ok (.iconst 0, 1) := by decide +kernel
theorem dX5_firmestPair_1 : decode cX5_firmestPair 1 = .ok (.istore_n 1, 1) := by decide +kernel
theorem dX5_firmestPair_2 : decode cX5_firmestPair 2 = .ok (.iconst (-1), 1) := by decide +kernel
theorem dX5_firmestPair_3 : decode cX5_firmestPair 3 = .ok (.istore_n 2, 1) := by decide +kernel
theorem dX5_firmestPair_4 : decode cX5_firmestPair 4 = .ok (.iconst 0, 1) := by decide +kernel
theorem dX5_firmestPair_5 : decode cX5_firmestPair 5 = .ok (.istore_n 3, 1) := by decide +kernel
theorem dX5_firmestPair_6 : decode cX5_firmestPair 6 = .ok (.iload_n 3, 1) := by decide +kernel
theorem dX5_firmestPair_7 : decode cX5_firmestPair 7 = .ok (.aload_n 0, 1) := by decide +kernel
theorem dX5_firmestPair_8 : decode cX5_firmestPair 8 = .ok (.getfield 57, 3) := by decide +kernel
theorem dX5_firmestPair_11 : decode cX5_firmestPair 11 = .ok (.if_icmp .ge 63, 3) := by decide +kernel
theorem dX5_firmestPair_14 : decode cX5_firmestPair 14 = .ok (.iload_n 3, 1) := by decide +kernel
theorem dX5_firmestPair_15 : decode cX5_firmestPair 15 = .ok (.iconst 1, 1) := by decide +kernel
theorem dX5_firmestPair_16 : decode cX5_firmestPair 16 = .ok (.iadd, 1) := by decide +kernel
theorem dX5_firmestPair_17 : decode cX5_firmestPair 17 = .ok (.istore 4, 2) := by decide +kernel
theorem dX5_firmestPair_19 : decode cX5_firmestPair 19 = .ok (.iload 4, 2) := by decide +kernel
theorem dX5_firmestPair_21 : decode cX5_firmestPair 21 = .ok (.aload_n 0, 1) := by decide +kernel
theorem dX5_firmestPair_22 : decode cX5_firmestPair 22 = .ok (.getfield 57, 3) := by decide +kernel
theorem dX5_firmestPair_25 : decode cX5_firmestPair 25 = .ok (.if_icmp .ge 43, 3) := by decide +kernel
theorem dX5_firmestPair_28 : decode cX5_firmestPair 28 = .ok (.aload_n 0, 1) := by decide +kernel
theorem dX5_firmestPair_29 : decode cX5_firmestPair 29 = .ok (.iload_n 3, 1) := by decide +kernel
theorem dX5_firmestPair_30 : decode cX5_firmestPair 30 = .ok (.iload 4, 2) := by decide +kernel
theorem dX5_firmestPair_32 : decode cX5_firmestPair 32 = .ok (.invokevirtual 73, 3) := by decide +kernel
theorem dX5_firmestPair_35 : decode cX5_firmestPair 35 = .ok (.aload_n 0, 1) := by decide +kernel
theorem dX5_firmestPair_36 : decode cX5_firmestPair 36 = .ok (.iload 4, 2) := by decide +kernel
theorem dX5_firmestPair_38 : decode cX5_firmestPair 38 = .ok (.iload_n 3, 1) := by decide +kernel
theorem dX5_firmestPair_39 : decode cX5_firmestPair 39 = .ok (.invokevirtual 73, 3) := by decide +kernel
theorem dX5_firmestPair_42 : decode cX5_firmestPair 42 = .ok (.iadd, 1) := by decide +kernel
theorem dX5_firmestPair_43 : decode cX5_firmestPair 43 = .ok (.istore 5, 2) := by decide +kernel
theorem dX5_firmestPair_45 : decode cX5_firmestPair 45 = .ok (.iload 5, 2) := by decide +kernel
theorem dX5_firmestPair_47 : decode cX5_firmestPair 47 = .ok (.iload_n 2, 1) := by decide +kernel
theorem dX5_firmestPair_48 : decode cX5_firmestPair 48 = .ok (.if_icmp .le 14, 3) := by decide +kernel
theorem dX5_firmestPair_51 : decode cX5_firmestPair 51 = .ok (.iload 5, 2) := by decide +kernel
theorem dX5_firmestPair_53 : decode cX5_firmestPair 53 = .ok (.istore_n 2, 1) := by decide +kernel
theorem dX5_firmestPair_54 : decode cX5_firmestPair 54 = .ok (.bipush 10, 2) := by decide +kernel
theorem dX5_firmestPair_56 : decode cX5_firmestPair 56 = .ok (.iload_n 3, 1) := by decide +kernel
theorem dX5_firmestPair_57 : decode cX5_firmestPair 57 = .ok (.imul, 1) := by decide +kernel
theorem dX5_firmestPair_58 : decode cX5_firmestPair 58 = .ok (.iload 4, 2) := by decide +kernel
theorem dX5_firmestPair_60 : decode cX5_firmestPair 60 = .ok (.iadd, 1) := by decide +kernel
theorem dX5_firmestPair_61 : decode cX5_firmestPair 61 = .ok (.istore_n 1, 1) := by decide +kernel
theorem dX5_firmestPair_62 : decode cX5_firmestPair 62 = .ok (.iinc 4 1, 3) := by decide +kernel
theorem dX5_firmestPair_65 : decode cX5_firmestPair 65 = .ok (.goto (-46), 3) := by decide +kernel
theorem dX5_firmestPair_68 : decode cX5_firmestPair 68 = .ok (.iinc 3 1, 3) := by decide +kernel
theorem dX5_firmestPair_71 : decode cX5_firmestPair 71 = .ok (.goto (-65), 3) := by decide +kernel
theorem dX5_firmestPair_74 : decode cX5_firmestPair 74 = .ok (.iload_n 1, 1) := by decide +kernel
theorem dX5_firmestPair_75 : decode cX5_firmestPair 75 = .ok (.ireturn, 1) := by decide +kernel
theorem dX5_jointFor_0 : decode cX5_jointFor 0 = .ok (.iconst 0, 1) := by decide +kernel
theorem dX5_jointFor_1 : decode cX5_jointFor 1 = .ok (.istore_n 2, 1) := by decide +kernel
theorem dX5_jointFor_2 : decode cX5_jointFor 2 = .ok (.iconst (-1), 1) := by decide +kernel
theorem dX5_jointFor_3 : decode cX5_jointFor 3 = .ok (.istore_n 3, 1) := by decide +kernel
theorem dX5_jointFor_4 : decode cX5_jointFor 4 = .ok (.iconst 0, 1) := by decide +kernel
theorem dX5_jointFor_5 : decode cX5_jointFor 5 = .ok (.istore 4, 2) := by decide +kernel
theorem dX5_jointFor_7 : decode cX5_jointFor 7 = .ok (.iload 4, 2) := by decide +kernel
theorem dX5_jointFor_9 : decode cX5_jointFor 9 = .ok (.aload_n 0, 1) := by decide +kernel
theorem dX5_jointFor_10 : decode cX5_jointFor 10 = .ok (.getfield 35, 3) := by decide +kernel
theorem dX5_jointFor_13 : decode cX5_jointFor 13 = .ok (.aload_n 0, 1) := by decide +kernel
theorem dX5_jointFor_14 : decode cX5_jointFor 14 = .ok (.getfield 63, 3) := by decide +kernel
theorem dX5_jointFor_17 : decode cX5_jointFor 17 = .ok (.iaload, 1) := by decide +kernel
theorem dX5_jointFor_18 : decode cX5_jointFor 18 = .ok (.iconst 1, 1) := by decide +kernel
theorem dX5_jointFor_19 : decode cX5_jointFor 19 = .ok (.isub, 1) := by decide +kernel
theorem dX5_jointFor_20 : decode cX5_jointFor 20 = .ok (.if_icmp .ge 30, 3) := by decide +kernel
theorem dX5_jointFor_23 : decode cX5_jointFor 23 = .ok (.aload_n 0, 1) := by decide +kernel
theorem dX5_jointFor_24 : decode cX5_jointFor 24 = .ok (.iload_n 1, 1) := by decide +kernel
theorem dX5_jointFor_25 : decode cX5_jointFor 25 = .ok (.iload 4, 2) := by decide +kernel
theorem dX5_jointFor_27 : decode cX5_jointFor 27 = .ok (.invokevirtual 98, 3) := by decide +kernel
theorem dX5_jointFor_30 : decode cX5_jointFor 30 = .ok (.istore 5, 2) := by decide +kernel
theorem dX5_jointFor_32 : decode cX5_jointFor 32 = .ok (.iload 5, 2) := by decide +kernel
theorem dX5_jointFor_34 : decode cX5_jointFor 34 = .ok (.iload_n 3, 1) := by decide +kernel
theorem dX5_jointFor_35 : decode cX5_jointFor 35 = .ok (.if_icmp .le 9, 3) := by decide +kernel
theorem dX5_jointFor_38 : decode cX5_jointFor 38 = .ok (.iload 5, 2) := by decide +kernel
theorem dX5_jointFor_40 : decode cX5_jointFor 40 = .ok (.istore_n 3, 1) := by decide +kernel
theorem dX5_jointFor_41 : decode cX5_jointFor 41 = .ok (.iload 4, 2) := by decide +kernel
theorem dX5_jointFor_43 : decode cX5_jointFor 43 = .ok (.istore_n 2, 1) := by decide +kernel
theorem dX5_jointFor_44 : decode cX5_jointFor 44 = .ok (.iinc 4 1, 3) := by decide +kernel
theorem dX5_jointFor_47 : decode cX5_jointFor 47 = .ok (.goto (-40), 3) := by decide +kernel
theorem dX5_jointFor_50 : decode cX5_jointFor 50 = .ok (.iload_n 2, 1) := by decide +kernel
theorem dX5_jointFor_51 : decode cX5_jointFor 51 = .ok (.ireturn, 1) := by decide +kernel
theorem dX5_sideTaken_0 : decode cX5_sideTaken 0 = .ok (.aload_n 0, 1) := by decide +kernel
theorem dX5_sideTaken_1 : decode cX5_sideTaken 1 = .ok (.getfield 32, 3) := by decide +kernel
theorem dX5_sideTaken_4 : decode cX5_sideTaken 4 = .ok (.aload_n 0, 1) := by decide +kernel
theorem dX5_sideTaken_5 : decode cX5_sideTaken 5 = .ok (.getfield 63, 3) := by decide +kernel
theorem dX5_sideTaken_8 : decode cX5_sideTaken 8 = .ok (.aaload, 1) := by decide +kernel
theorem dX5_sideTaken_9 : decode cX5_sideTaken 9 = .ok (.iload_n 1, 1) := by decide +kernel
theorem dX5_sideTaken_10 : decode cX5_sideTaken 10 = .ok (.iaload, 1) := by decide +kernel
theorem dX5_sideTaken_11 : decode cX5_sideTaken 11 = .ok (.istore_n 2, 1) := by decide +kernel
theorem dX5_sideTaken_12 : decode cX5_sideTaken 12 = .ok (.aload_n 0, 1) := by decide +kernel
theorem dX5_sideTaken_13 : decode cX5_sideTaken 13 = .ok (.getfield 32, 3) := by decide +kernel
theorem dX5_sideTaken_16 : decode cX5_sideTaken 16 = .ok (.aload_n 0, 1) := by decide +kernel
theorem dX5_sideTaken_17 : decode cX5_sideTaken 17 = .ok (.getfield 63, 3) := by decide +kernel
theorem dX5_sideTaken_20 : decode cX5_sideTaken 20 = .ok (.aaload, 1) := by decide +kernel
theorem dX5_sideTaken_21 : decode cX5_sideTaken 21 = .ok (.iload_n 1, 1) := by decide +kernel
theorem dX5_sideTaken_22 : decode cX5_sideTaken 22 = .ok (.iconst 1, 1) := by decide +kernel
theorem dX5_sideTaken_23 : decode cX5_sideTaken 23 = .ok (.iadd, 1) := by decide +kernel
theorem dX5_sideTaken_24 : decode cX5_sideTaken 24 = .ok (.iaload, 1) := by decide +kernel
theorem dX5_sideTaken_25 : decode cX5_sideTaken 25 = .ok (.istore_n 3, 1) := by decide +kernel
theorem dX5_sideTaken_26 : decode cX5_sideTaken 26 = .ok (.aload_n 0, 1) := by decide +kernel
theorem dX5_sideTaken_27 : decode cX5_sideTaken 27 = .ok (.iload_n 3, 1) := by decide +kernel
theorem dX5_sideTaken_28 : decode cX5_sideTaken 28 = .ok (.iload_n 2, 1) := by decide +kernel
theorem dX5_sideTaken_29 : decode cX5_sideTaken 29 = .ok (.invokevirtual 73, 3) := by decide +kernel
theorem dX5_sideTaken_32 : decode cX5_sideTaken 32 = .ok (.aload_n 0, 1) := by decide +kernel
theorem dX5_sideTaken_33 : decode cX5_sideTaken 33 = .ok (.iload_n 2, 1) := by decide +kernel
theorem dX5_sideTaken_34 : decode cX5_sideTaken 34 = .ok (.iload_n 3, 1) := by decide +kernel
theorem dX5_sideTaken_35 : decode cX5_sideTaken 35 = .ok (.invokevirtual 73, 3) := by decide +kernel
theorem dX5_sideTaken_38 : decode cX5_sideTaken 38 = .ok (.if_icmp .le 7, 3) := by decide +kernel
theorem dX5_sideTaken_41 : decode cX5_sideTaken 41 = .ok (.iconst 1, 1) := by decide +kernel
theorem dX5_sideTaken_42 : decode cX5_sideTaken 42 = .ok (.goto 4, 3) := by decide +kernel
theorem dX5_sideTaken_45 : decode cX5_sideTaken 45 = .ok (.iconst 0, 1) := by decide +kernel
theorem dX5_sideTaken_46 : decode cX5_sideTaken 46 = .ok (.ireturn, 1) := by decide +kernel
theorem dX5_whoIsCalled_0 : decode cX5_whoIsCalled 0 = .ok (.aload_n 0, 1) := by decide +kernel
theorem dX5_whoIsCalled_1 : decode cX5_whoIsCalled 1 = .ok (.aload_n 0, 1) := by decide +kernel
theorem dX5_whoIsCalled_2 : decode cX5_whoIsCalled 2 = .ok (.getfield 63, 3) := by decide +kernel
theorem dX5_whoIsCalled_5 : decode cX5_whoIsCalled 5 = .ok (.invokevirtual 101, 3) := by decide +kernel
theorem dX5_whoIsCalled_8 : decode cX5_whoIsCalled 8 = .ok (.istore_n 2, 1) := by decide +kernel
theorem dX5_whoIsCalled_9 : decode cX5_whoIsCalled 9 = .ok (.iconst (-1), 1) := by decide +kernel
theorem dX5_whoIsCalled_10 : decode cX5_whoIsCalled 10 = .ok (.istore_n 3, 1) := by decide +kernel
theorem dX5_whoIsCalled_11 : decode cX5_whoIsCalled 11 = .ok (.ldc 81, 2) := by decide +kernel
theorem dX5_whoIsCalled_13 : decode cX5_whoIsCalled 13 = .ok (.istore 4, 2) := by decide +kernel
theorem dX5_whoIsCalled_15 : decode cX5_whoIsCalled 15 = .ok (.iconst 0, 1) := by decide +kernel
theorem dX5_whoIsCalled_16 : decode cX5_whoIsCalled 16 = .ok (.istore 5, 2) := by decide +kernel
theorem dX5_whoIsCalled_18 : decode cX5_whoIsCalled 18 = .ok (.iload 5, 2) := by decide +kernel
theorem dX5_whoIsCalled_20 : decode cX5_whoIsCalled 20 = .ok (.aload_n 0, 1) := by decide +kernel
theorem dX5_whoIsCalled_21 : decode cX5_whoIsCalled 21 = .ok (.getfield 57, 3) := by decide +kernel
theorem dX5_whoIsCalled_24 : decode cX5_whoIsCalled 24 = .ok (.if_icmp .ge 58, 3) := by decide +kernel
theorem dX5_whoIsCalled_27 : decode cX5_whoIsCalled 27 = .ok (.aload_n 0, 1) := by decide +kernel
theorem dX5_whoIsCalled_28 : decode cX5_whoIsCalled 28 = .ok (.iload 5, 2) := by decide +kernel
theorem dX5_whoIsCalled_30 : decode cX5_whoIsCalled 30 = .ok (.invokevirtual 104, 3) := by decide +kernel
theorem dX5_whoIsCalled_33 : decode cX5_whoIsCalled 33 = .ok (.ifCond .ne 6, 3) := by decide +kernel
theorem dX5_whoIsCalled_36 : decode cX5_whoIsCalled 36 = .ok (.goto 40, 3) := by decide +kernel
theorem dX5_whoIsCalled_39 : decode cX5_whoIsCalled 39 = .ok (.iload_n 1, 1) := by decide +kernel
theorem dX5_whoIsCalled_40 : decode cX5_whoIsCalled 40 = .ok (.ifCond .ne 13, 3) := by decide +kernel
theorem dX5_whoIsCalled_43 : decode cX5_whoIsCalled 43 = .ok (.aload_n 0, 1) := by decide +kernel
theorem dX5_whoIsCalled_44 : decode cX5_whoIsCalled 44 = .ok (.iload 5, 2) := by decide +kernel
theorem dX5_whoIsCalled_46 : decode cX5_whoIsCalled 46 = .ok (.iload_n 2, 1) := by decide +kernel
theorem dX5_whoIsCalled_47 : decode cX5_whoIsCalled 47 = .ok (.invokevirtual 95, 3) := by decide +kernel
theorem dX5_whoIsCalled_50 : decode cX5_whoIsCalled 50 = .ok (.goto 10, 3) := by decide +kernel
theorem dX5_whoIsCalled_53 : decode cX5_whoIsCalled 53 = .ok (.aload_n 0, 1) := by decide +kernel
theorem dX5_whoIsCalled_54 : decode cX5_whoIsCalled 54 = .ok (.getfield 18, 3) := by decide +kernel
theorem dX5_whoIsCalled_57 : decode cX5_whoIsCalled 57 = .ok (.iload 5, 2) := by decide +kernel
theorem dX5_whoIsCalled_59 : decode cX5_whoIsCalled 59 = .ok (.iaload, 1) := by decide +kernel
theorem dX5_whoIsCalled_60 : decode cX5_whoIsCalled 60 = .ok (.istore 6, 2) := by decide +kernel
theorem dX5_whoIsCalled_62 : decode cX5_whoIsCalled 62 = .ok (.iload 6, 2) := by decide +kernel
theorem dX5_whoIsCalled_64 : decode cX5_whoIsCalled 64 = .ok (.iload 4, 2) := by decide +kernel
theorem dX5_whoIsCalled_66 : decode cX5_whoIsCalled 66 = .ok (.if_icmp .ge 10, 3) := by decide +kernel
theorem dX5_whoIsCalled_69 : decode cX5_whoIsCalled 69 = .ok (.iload 6, 2) := by decide +kernel
theorem dX5_whoIsCalled_71 : decode cX5_whoIsCalled 71 = .ok (.istore 4, 2) := by decide +kernel
theorem dX5_whoIsCalled_73 : decode cX5_whoIsCalled 73 = .ok (.iload 5, 2) := by decide +kernel
theorem dX5_whoIsCalled_75 : decode cX5_whoIsCalled 75 = .ok (.istore_n 3, 1) := by decide +kernel
theorem dX5_whoIsCalled_76 : decode cX5_whoIsCalled 76 = .ok (.iinc 5 1, 3) := by decide +kernel
theorem dX5_whoIsCalled_79 : decode cX5_whoIsCalled 79 = .ok (.goto (-61), 3) := by decide +kernel
theorem dX5_whoIsCalled_82 : decode cX5_whoIsCalled 82 = .ok (.iload_n 3, 1) := by decide +kernel
theorem dX5_whoIsCalled_83 : decode cX5_whoIsCalled 83 = .ok (.ireturn, 1) := by decide +kernel
theorem dX5_isOver_0 : decode cX5_isOver 0 = .ok (.aload_n 0, 1) := by decide +kernel
theorem dX5_isOver_1 : decode cX5_isOver 1 = .ok (.getfield 35, 3) := by decide +kernel
theorem dX5_isOver_4 : decode cX5_isOver 4 = .ok (.iconst 0, 1) := by decide +kernel
theorem dX5_isOver_5 : decode cX5_isOver 5 = .ok (.iaload, 1) := by decide +kernel
theorem dX5_isOver_6 : decode cX5_isOver 6 = .ok (.iconst 2, 1) := by decide +kernel
theorem dX5_isOver_7 : decode cX5_isOver 7 = .ok (.if_icmp .lt 24, 3) := by decide +kernel
theorem dX5_isOver_10 : decode cX5_isOver 10 = .ok (.aload_n 0, 1) := by decide +kernel
theorem dX5_isOver_11 : decode cX5_isOver 11 = .ok (.getfield 35, 3) := by decide +kernel
theorem dX5_isOver_14 : decode cX5_isOver 14 = .ok (.iconst 1, 1) := by decide +kernel
theorem dX5_isOver_15 : decode cX5_isOver 15 = .ok (.iaload, 1) := by decide +kernel
theorem dX5_isOver_16 : decode cX5_isOver 16 = .ok (.iconst 2, 1) := by decide +kernel
theorem dX5_isOver_17 : decode cX5_isOver 17 = .ok (.if_icmp .lt 14, 3) := by decide +kernel
theorem dX5_isOver_20 : decode cX5_isOver 20 = .ok (.aload_n 0, 1) := by decide +kernel
theorem dX5_isOver_21 : decode cX5_isOver 21 = .ok (.getfield 66, 3) := by decide +kernel
theorem dX5_isOver_24 : decode cX5_isOver 24 = .ok (.aload_n 0, 1) := by decide +kernel
theorem dX5_isOver_25 : decode cX5_isOver 25 = .ok (.getfield 45, 3) := by decide +kernel
theorem dX5_isOver_28 : decode cX5_isOver 28 = .ok (.if_icmp .lt 7, 3) := by decide +kernel
theorem dX5_isOver_31 : decode cX5_isOver 31 = .ok (.iconst 1, 1) := by decide +kernel
theorem dX5_isOver_32 : decode cX5_isOver 32 = .ok (.goto 4, 3) := by decide +kernel
theorem dX5_isOver_35 : decode cX5_isOver 35 = .ok (.iconst 0, 1) := by decide +kernel
theorem dX5_isOver_36 : decode cX5_isOver 36 = .ok (.ireturn, 1) := by decide +kernel
theorem dX5_winner_0 : decode cX5_winner 0 = .ok (.aload_n 0, 1) := by decide +kernel
theorem dX5_winner_1 : decode cX5_winner 1 = .ok (.invokevirtual 108, 3) := by decide +kernel
theorem dX5_winner_4 : decode cX5_winner 4 = .ok (.ifCond .eq 10, 3) := by decide +kernel
theorem dX5_winner_7 : decode cX5_winner 7 = .ok (.aload_n 0, 1) := by decide +kernel
theorem dX5_winner_8 : decode cX5_winner 8 = .ok (.invokevirtual 112, 3) := by decide +kernel
theorem dX5_winner_11 : decode cX5_winner 11 = .ok (.goto 4, 3) := by decide +kernel
theorem dX5_winner_14 : decode cX5_winner 14 = .ok (.iconst (-1), 1) := by decide +kernel
theorem dX5_winner_15 : decode cX5_winner 15 = .ok (.ireturn, 1) := by decide +kernel
theorem dX5_leader_0 : decode cX5_leader 0 = .ok (.aload_n 0, 1) := by decide +kernel
theorem dX5_leader_1 : decode cX5_leader 1 = .ok (.getfield 35, 3) := by decide +kernel
theorem dX5_leader_4 : decode cX5_leader 4 = .ok (.iconst 0, 1) := by decide +kernel
theorem dX5_leader_5 : decode cX5_leader 5 = .ok (.iaload, 1) := by decide +kernel
theorem dX5_leader_6 : decode cX5_leader 6 = .ok (.aload_n 0, 1) := by decide +kernel
theorem dX5_leader_7 : decode cX5_leader 7 = .ok (.getfield 35, 3) := by decide +kernel
theorem dX5_leader_10 : decode cX5_leader 10 = .ok (.iconst 1, 1) := by decide +kernel
theorem dX5_leader_11 : decode cX5_leader 11 = .ok (.iaload, 1) := by decide +kernel
theorem dX5_leader_12 : decode cX5_leader 12 = .ok (.if_icmp .ne 5, 3) := by decide +kernel
theorem dX5_leader_15 : decode cX5_leader 15 = .ok (.iconst (-1), 1) := by decide +kernel
theorem dX5_leader_16 : decode cX5_leader 16 = .ok (.ireturn, 1) := by decide +kernel
theorem dX5_leader_17 : decode cX5_leader 17 = .ok (.aload_n 0, 1) := by decide +kernel
theorem dX5_leader_18 : decode cX5_leader 18 = .ok (.getfield 35, 3) := by decide +kernel
theorem dX5_leader_21 : decode cX5_leader 21 = .ok (.iconst 0, 1) := by decide +kernel
theorem dX5_leader_22 : decode cX5_leader 22 = .ok (.iaload, 1) := by decide +kernel
theorem dX5_leader_23 : decode cX5_leader 23 = .ok (.aload_n 0, 1) := by decide +kernel
theorem dX5_leader_24 : decode cX5_leader 24 = .ok (.getfield 35, 3) := by decide +kernel
theorem dX5_leader_27 : decode cX5_leader 27 = .ok (.iconst 1, 1) := by decide +kernel
theorem dX5_leader_28 : decode cX5_leader 28 = .ok (.iaload, 1) := by decide +kernel
theorem dX5_leader_29 : decode cX5_leader 29 = .ok (.if_icmp .le 7, 3) := by decide +kernel
theorem dX5_leader_32 : decode cX5_leader 32 = .ok (.iconst 0, 1) := by decide +kernel
theorem dX5_leader_33 : decode cX5_leader 33 = .ok (.goto 4, 3) := by decide +kernel
theorem dX5_leader_36 : decode cX5_leader 36 = .ok (.iconst 1, 1) := by decide +kernel
theorem dX5_leader_37 : decode cX5_leader 37 = .ok (.ireturn, 1) := by decide +kernel
theorem dX5_mayRun_0 : decode cX5_mayRun 0 = .ok (.aload_n 0, 1) := by decide +kernel
theorem dX5_mayRun_1 : decode cX5_mayRun 1 = .ok (.invokevirtual 108, 3) := by decide +kernel
theorem dX5_mayRun_4 : decode cX5_mayRun 4 = .ok (.ifCond .ne 35, 3) := by decide +kernel
theorem dX5_mayRun_7 : decode cX5_mayRun 7 = .ok (.aload_n 0, 1) := by decide +kernel
theorem dX5_mayRun_8 : decode cX5_mayRun 8 = .ok (.iload_n 1, 1) := by decide +kernel
theorem dX5_mayRun_9 : decode cX5_mayRun 9 = .ok (.invokevirtual 116, 3) := by decide +kernel
theorem dX5_mayRun_12 : decode cX5_mayRun 12 = .ok (.ifCond .eq 27, 3) := by decide +kernel
theorem dX5_mayRun_15 : decode cX5_mayRun 15 = .ok (.aload_n 0, 1) := by decide +kernel
theorem dX5_mayRun_16 : decode cX5_mayRun 16 = .ok (.iload_n 1, 1) := by decide +kernel
theorem dX5_mayRun_17 : decode cX5_mayRun 17 = .ok (.invokevirtual 104, 3) := by decide +kernel
theorem dX5_mayRun_20 : decode cX5_mayRun 20 = .ok (.ifCond .eq 19, 3) := by decide +kernel
theorem dX5_mayRun_23 : decode cX5_mayRun 23 = .ok (.aload_n 0, 1) := by decide +kernel
theorem dX5_mayRun_24 : decode cX5_mayRun 24 = .ok (.aload_n 0, 1) := by decide +kernel
theorem dX5_mayRun_25 : decode cX5_mayRun 25 = .ok (.getfield 63, 3) := by decide +kernel
theorem dX5_mayRun_28 : decode cX5_mayRun 28 = .ok (.iload_n 2, 1) := by decide +kernel
theorem dX5_mayRun_29 : decode cX5_mayRun 29 = .ok (.invokevirtual 119, 3) := by decide +kernel
theorem dX5_mayRun_32 : decode cX5_mayRun 32 = .ok (.ifCond .eq 7, 3) := by decide +kernel
theorem dX5_mayRun_35 : decode cX5_mayRun 35 = .ok (.iconst 1, 1) := by decide +kernel
theorem dX5_mayRun_36 : decode cX5_mayRun 36 = .ok (.goto 4, 3) := by decide +kernel
theorem dX5_mayRun_39 : decode cX5_mayRun 39 = .ok (.iconst 0, 1) := by decide +kernel
theorem dX5_mayRun_40 : decode cX5_mayRun 40 = .ok (.ireturn, 1) := by decide +kernel
theorem dX5_canEnd_0 : decode cX5_canEnd 0 = .ok (.aload_n 0, 1) := by decide +kernel
theorem dX5_canEnd_1 : decode cX5_canEnd 1 = .ok (.iload_n 1, 1) := by decide +kernel
theorem dX5_canEnd_2 : decode cX5_canEnd 2 = .ok (.aload_n 0, 1) := by decide +kernel
theorem dX5_canEnd_3 : decode cX5_canEnd 3 = .ok (.aload_n 0, 1) := by decide +kernel
theorem dX5_canEnd_4 : decode cX5_canEnd 4 = .ok (.getfield 63, 3) := by decide +kernel
theorem dX5_canEnd_7 : decode cX5_canEnd 7 = .ok (.iload_n 2, 1) := by decide +kernel
theorem dX5_canEnd_8 : decode cX5_canEnd 8 = .ok (.invokevirtual 82, 3) := by decide +kernel
theorem dX5_canEnd_11 : decode cX5_canEnd 11 = .ok (.invokevirtual 95, 3) := by decide +kernel
theorem dX5_canEnd_14 : decode cX5_canEnd 14 = .ok (.istore 4, 2) := by decide +kernel
theorem dX5_canEnd_16 : decode cX5_canEnd 16 = .ok (.iload_n 3, 1) := by decide +kernel
theorem dX5_canEnd_17 : decode cX5_canEnd 17 = .ok (.ifCond .ne 18, 3) := by decide +kernel
theorem dX5_canEnd_20 : decode cX5_canEnd 20 = .ok (.iload 4, 2) := by decide +kernel
theorem dX5_canEnd_22 : decode cX5_canEnd 22 = .ok (.ldc 94, 2) := by decide +kernel
theorem dX5_canEnd_24 : decode cX5_canEnd 24 = .ok (.if_icmp .ge 7, 3) := by decide +kernel
theorem dX5_canEnd_27 : decode cX5_canEnd 27 = .ok (.iconst 1, 1) := by decide +kernel
theorem dX5_canEnd_28 : decode cX5_canEnd 28 = .ok (.goto 17, 3) := by decide +kernel
theorem dX5_canEnd_31 : decode cX5_canEnd 31 = .ok (.iconst 0, 1) := by decide +kernel
theorem dX5_canEnd_32 : decode cX5_canEnd 32 = .ok (.goto 13, 3) := by decide +kernel
theorem dX5_canEnd_35 : decode cX5_canEnd 35 = .ok (.iload 4, 2) := by decide +kernel
theorem dX5_canEnd_37 : decode cX5_canEnd 37 = .ok (.ifCond .le 7, 3) := by decide +kernel
theorem dX5_canEnd_40 : decode cX5_canEnd 40 = .ok (.iconst 1, 1) := by decide +kernel
theorem dX5_canEnd_41 : decode cX5_canEnd 41 = .ok (.goto 4, 3) := by decide +kernel
theorem dX5_canEnd_44 : decode cX5_canEnd 44 = .ok (.iconst 0, 1) := by decide +kernel
theorem dX5_canEnd_45 : decode cX5_canEnd 45 = .ok (.ireturn, 1) := by decide +kernel
theorem dX5_comeToPass_0 : decode cX5_comeToPass 0 = .ok (.aload_n 0, 1) := by decide +kernel
theorem dX5_comeToPass_1 : decode cX5_comeToPass 1 = .ok (.getfield 32, 3) := by decide +kernel
theorem dX5_comeToPass_4 : decode cX5_comeToPass 4 = .ok (.aload_n 0, 1) := by decide +kernel
theorem dX5_comeToPass_5 : decode cX5_comeToPass 5 = .ok (.getfield 63, 3) := by decide +kernel
theorem dX5_comeToPass_8 : decode cX5_comeToPass 8 = .ok (.aaload, 1) := by decide +kernel
theorem dX5_comeToPass_9 : decode cX5_comeToPass 9 = .ok (.iload_n 2, 1) := by decide +kernel
theorem dX5_comeToPass_10 : decode cX5_comeToPass 10 = .ok (.iaload, 1) := by decide +kernel
theorem dX5_comeToPass_11 : decode cX5_comeToPass 11 = .ok (.istore 4, 2) := by decide +kernel
theorem dX5_comeToPass_13 : decode cX5_comeToPass 13 = .ok (.aload_n 0, 1) := by decide +kernel
theorem dX5_comeToPass_14 : decode cX5_comeToPass 14 = .ok (.getfield 32, 3) := by decide +kernel
theorem dX5_comeToPass_17 : decode cX5_comeToPass 17 = .ok (.aload_n 0, 1) := by decide +kernel
theorem dX5_comeToPass_18 : decode cX5_comeToPass 18 = .ok (.getfield 63, 3) := by decide +kernel
theorem dX5_comeToPass_21 : decode cX5_comeToPass 21 = .ok (.aaload, 1) := by decide +kernel
theorem dX5_comeToPass_22 : decode cX5_comeToPass 22 = .ok (.iload_n 2, 1) := by decide +kernel
theorem dX5_comeToPass_23 : decode cX5_comeToPass 23 = .ok (.iconst 1, 1) := by decide +kernel
theorem dX5_comeToPass_24 : decode cX5_comeToPass 24 = .ok (.iadd, 1) := by decide +kernel
theorem dX5_comeToPass_25 : decode cX5_comeToPass 25 = .ok (.iaload, 1) := by decide +kernel
theorem dX5_comeToPass_26 : decode cX5_comeToPass 26 = .ok (.istore 5, 2) := by decide +kernel
theorem dX5_comeToPass_28 : decode cX5_comeToPass 28 = .ok (.aload_n 0, 1) := by decide +kernel
theorem dX5_comeToPass_29 : decode cX5_comeToPass 29 = .ok (.iload 4, 2) := by decide +kernel
theorem dX5_comeToPass_31 : decode cX5_comeToPass 31 = .ok (.invokevirtual 123, 3) := by decide +kernel
theorem dX5_comeToPass_34 : decode cX5_comeToPass 34 = .ok (.aload_n 0, 1) := by decide +kernel
theorem dX5_comeToPass_35 : decode cX5_comeToPass 35 = .ok (.iload 5, 2) := by decide +kernel
theorem dX5_comeToPass_37 : decode cX5_comeToPass 37 = .ok (.invokevirtual 123, 3) := by decide +kernel
theorem dX5_comeToPass_40 : decode cX5_comeToPass 40 = .ok (.aload_n 0, 1) := by decide +kernel
theorem dX5_comeToPass_41 : decode cX5_comeToPass 41 = .ok (.iload_n 1, 1) := by decide +kernel
theorem dX5_comeToPass_42 : decode cX5_comeToPass 42 = .ok (.invokevirtual 127, 3) := by decide +kernel
theorem dX5_comeToPass_45 : decode cX5_comeToPass 45 = .ok (.iload_n 3, 1) := by decide +kernel
theorem dX5_comeToPass_46 : decode cX5_comeToPass 46 = .ok (.ifCond .ne 18, 3) := by decide +kernel
theorem dX5_comeToPass_49 : decode cX5_comeToPass 49 = .ok (.aload_n 0, 1) := by decide +kernel
theorem dX5_comeToPass_50 : decode cX5_comeToPass 50 = .ok (.iload_n 1, 1) := by decide +kernel
theorem dX5_comeToPass_51 : decode cX5_comeToPass 51 = .ok (.aload_n 0, 1) := by decide +kernel
theorem dX5_comeToPass_52 : decode cX5_comeToPass 52 = .ok (.getfield 63, 3) := by decide +kernel
theorem dX5_comeToPass_55 : decode cX5_comeToPass 55 = .ok (.iload_n 2, 1) := by decide +kernel
theorem dX5_comeToPass_56 : decode cX5_comeToPass 56 = .ok (.iconst 1, 1) := by decide +kernel
theorem dX5_comeToPass_57 : decode cX5_comeToPass 57 = .ok (.iadd, 1) := by decide +kernel
theorem dX5_comeToPass_58 : decode cX5_comeToPass 58 = .ok (.invokevirtual 69, 3) := by decide +kernel
theorem dX5_comeToPass_61 : decode cX5_comeToPass 61 = .ok (.goto 60, 3) := by decide +kernel
theorem dX5_comeToPass_64 : decode cX5_comeToPass 64 = .ok (.iconst 1, 1) := by decide +kernel
theorem dX5_comeToPass_65 : decode cX5_comeToPass 65 = .ok (.aload_n 0, 1) := by decide +kernel
theorem dX5_comeToPass_66 : decode cX5_comeToPass 66 = .ok (.getfield 63, 3) := by decide +kernel
theorem dX5_comeToPass_69 : decode cX5_comeToPass 69 = .ok (.isub, 1) := by decide +kernel
theorem dX5_comeToPass_70 : decode cX5_comeToPass 70 = .ok (.istore 6, 2) := by decide +kernel
theorem dX5_comeToPass_72 : decode cX5_comeToPass 72 = .ok (.iload_n 3, 1) := by decide +kernel
theorem dX5_comeToPass_73 : decode cX5_comeToPass 73 = .ok (.iconst 1, 1) := by decide +kernel
theorem dX5_comeToPass_74 : decode cX5_comeToPass 74 = .ok (.if_icmp .ne 8, 3) := by decide +kernel
theorem dX5_comeToPass_77 : decode cX5_comeToPass 77 = .ok (.iload 4, 2) := by decide +kernel
theorem dX5_comeToPass_79 : decode cX5_comeToPass 79 = .ok (.goto 5, 3) := by decide +kernel
theorem dX5_comeToPass_82 : decode cX5_comeToPass 82 = .ok (.iload 5, 2) := by decide +kernel
theorem dX5_comeToPass_84 : decode cX5_comeToPass 84 = .ok (.istore 7, 2) := by decide +kernel
theorem dX5_comeToPass_86 : decode cX5_comeToPass 86 = .ok (.aload_n 0, 1) := by decide +kernel
theorem dX5_comeToPass_87 : decode cX5_comeToPass 87 = .ok (.iload_n 1, 1) := by decide +kernel
theorem dX5_comeToPass_88 : decode cX5_comeToPass 88 = .ok (.iload 6, 2) := by decide +kernel
theorem dX5_comeToPass_90 : decode cX5_comeToPass 90 = .ok (.aload_n 0, 1) := by decide +kernel
theorem dX5_comeToPass_91 : decode cX5_comeToPass 91 = .ok (.getfield 35, 3) := by decide +kernel
theorem dX5_comeToPass_94 : decode cX5_comeToPass 94 = .ok (.iload 6, 2) := by decide +kernel
theorem dX5_comeToPass_96 : decode cX5_comeToPass 96 = .ok (.iaload, 1) := by decide +kernel
theorem dX5_comeToPass_97 : decode cX5_comeToPass 97 = .ok (.invokevirtual 69, 3) := by decide +kernel
theorem dX5_comeToPass_100 : decode cX5_comeToPass 100 = .ok (.aload_n 0, 1) := by decide +kernel
theorem dX5_comeToPass_101 : decode cX5_comeToPass 101 = .ok (.iload 7, 2) := by decide +kernel
theorem dX5_comeToPass_103 : decode cX5_comeToPass 103 = .ok (.invokevirtual 127, 3) := by decide +kernel
theorem dX5_comeToPass_106 : decode cX5_comeToPass 106 = .ok (.aload_n 0, 1) := by decide +kernel
theorem dX5_comeToPass_107 : decode cX5_comeToPass 107 = .ok (.iload 7, 2) := by decide +kernel
theorem dX5_comeToPass_109 : decode cX5_comeToPass 109 = .ok (.iload 6, 2) := by decide +kernel
theorem dX5_comeToPass_111 : decode cX5_comeToPass 111 = .ok (.aload_n 0, 1) := by decide +kernel
theorem dX5_comeToPass_112 : decode cX5_comeToPass 112 = .ok (.getfield 35, 3) := by decide +kernel
theorem dX5_comeToPass_115 : decode cX5_comeToPass 115 = .ok (.iload 6, 2) := by decide +kernel
theorem dX5_comeToPass_117 : decode cX5_comeToPass 117 = .ok (.iaload, 1) := by decide +kernel
theorem dX5_comeToPass_118 : decode cX5_comeToPass 118 = .ok (.invokevirtual 69, 3) := by decide +kernel
theorem dX5_comeToPass_121 : decode cX5_comeToPass 121 = .ok (.aload_n 0, 1) := by decide +kernel
theorem dX5_comeToPass_122 : decode cX5_comeToPass 122 = .ok (.iconst 1, 1) := by decide +kernel
theorem dX5_comeToPass_123 : decode cX5_comeToPass 123 = .ok (.aload_n 0, 1) := by decide +kernel
theorem dX5_comeToPass_124 : decode cX5_comeToPass 124 = .ok (.getfield 63, 3) := by decide +kernel
theorem dX5_comeToPass_127 : decode cX5_comeToPass 127 = .ok (.isub, 1) := by decide +kernel
theorem dX5_comeToPass_128 : decode cX5_comeToPass 128 = .ok (.putfield 63, 3) := by decide +kernel
theorem dX5_comeToPass_131 : decode cX5_comeToPass 131 = .ok (.aload_n 0, 1) := by decide +kernel
theorem dX5_comeToPass_132 : decode cX5_comeToPass 132 = .ok (.dup, 1) := by decide +kernel
theorem dX5_comeToPass_133 : decode cX5_comeToPass 133 = .ok (.getfield 66, 3) := by decide +kernel
theorem dX5_comeToPass_136 : decode cX5_comeToPass 136 = .ok (.iconst 1, 1) := by decide +kernel
theorem dX5_comeToPass_137 : decode cX5_comeToPass 137 = .ok (.iadd, 1) := by decide +kernel
theorem dX5_comeToPass_138 : decode cX5_comeToPass 138 = .ok (.putfield 66, 3) := by decide +kernel
theorem dX5_comeToPass_141 : decode cX5_comeToPass 141 = .ok (.return_, 1) := by decide +kernel
theorem dX5_runByDraw_0 : decode cX5_runByDraw 0 = .ok (.aload_n 0, 1) := by decide +kernel
theorem dX5_runByDraw_1 : decode cX5_runByDraw 1 = .ok (.iload_n 1, 1) := by decide +kernel
theorem dX5_runByDraw_2 : decode cX5_runByDraw 2 = .ok (.invokevirtual 90, 3) := by decide +kernel
theorem dX5_runByDraw_5 : decode cX5_runByDraw 5 = .ok (.aload_n 0, 1) := by decide +kernel
theorem dX5_runByDraw_6 : decode cX5_runByDraw 6 = .ok (.aload_n 0, 1) := by decide +kernel
theorem dX5_runByDraw_7 : decode cX5_runByDraw 7 = .ok (.getfield 42, 3) := by decide +kernel
theorem dX5_runByDraw_10 : decode cX5_runByDraw 10 = .ok (.invokevirtual 130, 3) := by decide +kernel
theorem dX5_runByDraw_13 : decode cX5_runByDraw 13 = .ok (.iadd, 1) := by decide +kernel
theorem dX5_runByDraw_14 : decode cX5_runByDraw 14 = .ok (.aload_n 0, 1) := by decide +kernel
theorem dX5_runByDraw_15 : decode cX5_runByDraw 15 = .ok (.aload_n 0, 1) := by decide +kernel
theorem dX5_runByDraw_16 : decode cX5_runByDraw 16 = .ok (.getfield 63, 3) := by decide +kernel
theorem dX5_runByDraw_19 : decode cX5_runByDraw 19 = .ok (.iload_n 2, 1) := by decide +kernel
theorem dX5_runByDraw_20 : decode cX5_runByDraw 20 = .ok (.invokevirtual 82, 3) := by decide +kernel
theorem dX5_runByDraw_23 : decode cX5_runByDraw 23 = .ok (.if_icmp .le 7, 3) := by decide +kernel
theorem dX5_runByDraw_26 : decode cX5_runByDraw 26 = .ok (.iconst 1, 1) := by decide +kernel
theorem dX5_runByDraw_27 : decode cX5_runByDraw 27 = .ok (.goto 4, 3) := by decide +kernel
theorem dX5_runByDraw_30 : decode cX5_runByDraw 30 = .ok (.iconst 0, 1) := by decide +kernel
theorem dX5_runByDraw_31 : decode cX5_runByDraw 31 = .ok (.istore 4, 2) := by decide +kernel
theorem dX5_runByDraw_33 : decode cX5_runByDraw 33 = .ok (.aload_n 0, 1) := by decide +kernel
theorem dX5_runByDraw_34 : decode cX5_runByDraw 34 = .ok (.iload_n 1, 1) := by decide +kernel
theorem dX5_runByDraw_35 : decode cX5_runByDraw 35 = .ok (.iload_n 2, 1) := by decide +kernel
theorem dX5_runByDraw_36 : decode cX5_runByDraw 36 = .ok (.iload 4, 2) := by decide +kernel
theorem dX5_runByDraw_38 : decode cX5_runByDraw 38 = .ok (.ifCond .eq 9, 3) := by decide +kernel
theorem dX5_runByDraw_41 : decode cX5_runByDraw 41 = .ok (.iconst 1, 1) := by decide +kernel
theorem dX5_runByDraw_42 : decode cX5_runByDraw 42 = .ok (.iload_n 3, 1) := by decide +kernel
theorem dX5_runByDraw_43 : decode cX5_runByDraw 43 = .ok (.iadd, 1) := by decide +kernel
theorem dX5_runByDraw_44 : decode cX5_runByDraw 44 = .ok (.goto 4, 3) := by decide +kernel
theorem dX5_runByDraw_47 : decode cX5_runByDraw 47 = .ok (.iconst 0, 1) := by decide +kernel
theorem dX5_runByDraw_48 : decode cX5_runByDraw 48 = .ok (.invokevirtual 133, 3) := by decide +kernel
theorem dX5_runByDraw_51 : decode cX5_runByDraw 51 = .ok (.iload 4, 2) := by decide +kernel
theorem dX5_runByDraw_53 : decode cX5_runByDraw 53 = .ok (.ireturn, 1) := by decide +kernel
theorem dX5_drawBelow_0 : decode cX5_drawBelow 0 = .ok (.aload_n 0, 1) := by decide +kernel
theorem dX5_drawBelow_1 : decode cX5_drawBelow 1 = .ok (.aload_n 0, 1) := by decide +kernel
theorem dX5_drawBelow_2 : decode cX5_drawBelow 2 = .ok (.getfield 48, 3) := by decide +kernel
theorem dX5_drawBelow_5 : decode cX5_drawBelow 5 = .ok (.ldc 136, 2) := by decide +kernel
theorem dX5_drawBelow_7 : decode cX5_drawBelow 7 = .ok (.imul, 1) := by decide +kernel
theorem dX5_drawBelow_8 : decode cX5_drawBelow 8 = .ok (.sipush 12345, 3) := by decide +kernel
theorem dX5_drawBelow_11 : decode cX5_drawBelow 11 = .ok (.iadd, 1) := by decide +kernel
theorem dX5_drawBelow_12 : decode cX5_drawBelow 12 = .ok (.putfield 48, 3) := by decide +kernel
theorem dX5_drawBelow_15 : decode cX5_drawBelow 15 = .ok (.iload_n 1, 1) := by decide +kernel
theorem dX5_drawBelow_16 : decode cX5_drawBelow 16 = .ok (.iconst 1, 1) := by decide +kernel
theorem dX5_drawBelow_17 : decode cX5_drawBelow 17 = .ok (.if_icmp .ge 7, 3) := by decide +kernel
theorem dX5_drawBelow_20 : decode cX5_drawBelow 20 = .ok (.iconst 0, 1) := by decide +kernel
theorem dX5_drawBelow_21 : decode cX5_drawBelow 21 = .ok (.goto 12, 3) := by decide +kernel
theorem dX5_drawBelow_24 : decode cX5_drawBelow 24 = .ok (.aload_n 0, 1) := by decide +kernel
theorem dX5_drawBelow_25 : decode cX5_drawBelow 25 = .ok (.getfield 48, 3) := by decide +kernel
theorem dX5_drawBelow_28 : decode cX5_drawBelow 28 = .ok (.bipush 16, 2) := by decide +kernel
theorem dX5_drawBelow_30 : decode cX5_drawBelow 30 = .ok (.iushr, 1) := by decide +kernel
theorem dX5_drawBelow_31 : decode cX5_drawBelow 31 = .ok (.iload_n 1, 1) := by decide +kernel
theorem dX5_drawBelow_32 : decode cX5_drawBelow 32 = .ok (.irem, 1) := by decide +kernel
theorem dX5_drawBelow_33 : decode cX5_drawBelow 33 = .ok (.ireturn, 1) := by decide +kernel
theorem dX5_tire_0 : decode cX5_tire 0 = .ok (.aload_n 0, 1) := by decide +kernel
theorem dX5_tire_1 : decode cX5_tire 1 = .ok (.getfield 21, 3) := by decide +kernel
theorem dX5_tire_4 : decode cX5_tire 4 = .ok (.iload_n 1, 1) := by decide +kernel
theorem dX5_tire_5 : decode cX5_tire 5 = .ok (.iaload, 1) := by decide +kernel
theorem dX5_tire_6 : decode cX5_tire 6 = .ok (.bipush 20, 2) := by decide +kernel
theorem dX5_tire_8 : decode cX5_tire 8 = .ok (.if_icmp .ge 13, 3) := by decide +kernel
theorem dX5_tire_11 : decode cX5_tire 11 = .ok (.aload_n 0, 1) := by decide +kernel
theorem dX5_tire_12 : decode cX5_tire 12 = .ok (.getfield 21, 3) := by decide +kernel
theorem dX5_tire_15 : decode cX5_tire 15 = .ok (.iload_n 1, 1) := by decide +kernel
theorem dX5_tire_16 : decode cX5_tire 16 = .ok (.dup2, 1) := by decide +kernel
theorem dX5_tire_17 : decode cX5_tire 17 = .ok (.iaload, 1) := by decide +kernel
theorem dX5_tire_18 : decode cX5_tire 18 = .ok (.iconst 1, 1) := by decide +kernel
theorem dX5_tire_19 : decode cX5_tire 19 = .ok (.iadd, 1) := by decide +kernel
theorem dX5_tire_20 : decode cX5_tire 20 = .ok (.iastore, 1) := by decide +kernel
theorem dX5_tire_21 : decode cX5_tire 21 = .ok (.return_, 1) := by decide +kernel
theorem dX5_restAll_0 : decode cX5_restAll 0 = .ok (.iconst 0, 1) := by decide +kernel
theorem dX5_restAll_1 : decode cX5_restAll 1 = .ok (.istore_n 2, 1) := by decide +kernel
theorem dX5_restAll_2 : decode cX5_restAll 2 = .ok (.iconst 0, 1) := by decide +kernel
theorem dX5_restAll_3 : decode cX5_restAll 3 = .ok (.istore_n 3, 1) := by decide +kernel
theorem dX5_restAll_4 : decode cX5_restAll 4 = .ok (.iload_n 3, 1) := by decide +kernel
theorem dX5_restAll_5 : decode cX5_restAll 5 = .ok (.aload_n 0, 1) := by decide +kernel
theorem dX5_restAll_6 : decode cX5_restAll 6 = .ok (.getfield 57, 3) := by decide +kernel
theorem dX5_restAll_9 : decode cX5_restAll 9 = .ok (.if_icmp .ge 39, 3) := by decide +kernel
theorem dX5_restAll_12 : decode cX5_restAll 12 = .ok (.aload_n 0, 1) := by decide +kernel
theorem dX5_restAll_13 : decode cX5_restAll 13 = .ok (.getfield 21, 3) := by decide +kernel
theorem dX5_restAll_16 : decode cX5_restAll 16 = .ok (.iload_n 3, 1) := by decide +kernel
theorem dX5_restAll_17 : decode cX5_restAll 17 = .ok (.iconst 0, 1) := by decide +kernel
theorem dX5_restAll_18 : decode cX5_restAll 18 = .ok (.aload_n 0, 1) := by decide +kernel
theorem dX5_restAll_19 : decode cX5_restAll 19 = .ok (.getfield 21, 3) := by decide +kernel
theorem dX5_restAll_22 : decode cX5_restAll 22 = .ok (.iload_n 3, 1) := by decide +kernel
theorem dX5_restAll_23 : decode cX5_restAll 23 = .ok (.iaload, 1) := by decide +kernel
theorem dX5_restAll_24 : decode cX5_restAll 24 = .ok (.iload_n 1, 1) := by decide +kernel
theorem dX5_restAll_25 : decode cX5_restAll 25 = .ok (.isub, 1) := by decide +kernel
theorem dX5_restAll_26 : decode cX5_restAll 26 = .ok (.invokestatic 137, 3) := by decide +kernel
theorem dX5_restAll_29 : decode cX5_restAll 29 = .ok (.iastore, 1) := by decide +kernel
theorem dX5_restAll_30 : decode cX5_restAll 30 = .ok (.aload_n 0, 1) := by decide +kernel
theorem dX5_restAll_31 : decode cX5_restAll 31 = .ok (.getfield 21, 3) := by decide +kernel
theorem dX5_restAll_34 : decode cX5_restAll 34 = .ok (.iload_n 3, 1) := by decide +kernel
theorem dX5_restAll_35 : decode cX5_restAll 35 = .ok (.iaload, 1) := by decide +kernel
theorem dX5_restAll_36 : decode cX5_restAll 36 = .ok (.ifCond .ne 6, 3) := by decide +kernel
theorem dX5_restAll_39 : decode cX5_restAll 39 = .ok (.iinc 2 1, 3) := by decide +kernel
theorem dX5_restAll_42 : decode cX5_restAll 42 = .ok (.iinc 3 1, 3) := by decide +kernel
theorem dX5_restAll_45 : decode cX5_restAll 45 = .ok (.goto (-41), 3) := by decide +kernel
theorem dX5_restAll_48 : decode cX5_restAll 48 = .ok (.iload_n 2, 1) := by decide +kernel
theorem dX5_restAll_49 : decode cX5_restAll 49 = .ok (.ireturn, 1) := by decide +kernel
theorem dX5_allTired_0 : decode cX5_allTired 0 = .ok (.iconst 0, 1) := by decide +kernel
theorem dX5_allTired_1 : decode cX5_allTired 1 = .ok (.istore_n 1, 1) := by decide +kernel
theorem dX5_allTired_2 : decode cX5_allTired 2 = .ok (.iconst 0, 1) := by decide +kernel
theorem dX5_allTired_3 : decode cX5_allTired 3 = .ok (.istore_n 2, 1) := by decide +kernel
theorem dX5_allTired_4 : decode cX5_allTired 4 = .ok (.iload_n 2, 1) := by decide +kernel
theorem dX5_allTired_5 : decode cX5_allTired 5 = .ok (.aload_n 0, 1) := by decide +kernel
theorem dX5_allTired_6 : decode cX5_allTired 6 = .ok (.getfield 57, 3) := by decide +kernel
theorem dX5_allTired_9 : decode cX5_allTired 9 = .ok (.if_icmp .ge 18, 3) := by decide +kernel
theorem dX5_allTired_12 : decode cX5_allTired 12 = .ok (.iload_n 1, 1) := by decide +kernel
theorem dX5_allTired_13 : decode cX5_allTired 13 = .ok (.aload_n 0, 1) := by decide +kernel
theorem dX5_allTired_14 : decode cX5_allTired 14 = .ok (.getfield 21, 3) := by decide +kernel
theorem dX5_allTired_17 : decode cX5_allTired 17 = .ok (.iload_n 2, 1) := by decide +kernel
theorem dX5_allTired_18 : decode cX5_allTired 18 = .ok (.iaload, 1) := by decide +kernel
theorem dX5_allTired_19 : decode cX5_allTired 19 = .ok (.iadd, 1) := by decide +kernel
theorem dX5_allTired_20 : decode cX5_allTired 20 = .ok (.istore_n 1, 1) := by decide +kernel
theorem dX5_allTired_21 : decode cX5_allTired 21 = .ok (.iinc 2 1, 3) := by decide +kernel
theorem dX5_allTired_24 : decode cX5_allTired 24 = .ok (.goto (-20), 3) := by decide +kernel
theorem dX5_allTired_27 : decode cX5_allTired 27 = .ok (.iload_n 1, 1) := by decide +kernel
theorem dX5_allTired_28 : decode cX5_allTired 28 = .ok (.ireturn, 1) := by decide +kernel
theorem dX5_mostTired_0 : decode cX5_mostTired 0 = .ok (.iconst 0, 1) := by decide +kernel
theorem dX5_mostTired_1 : decode cX5_mostTired 1 = .ok (.istore_n 1, 1) := by decide +kernel
theorem dX5_mostTired_2 : decode cX5_mostTired 2 = .ok (.iconst 1, 1) := by decide +kernel
theorem dX5_mostTired_3 : decode cX5_mostTired 3 = .ok (.istore_n 2, 1) := by decide +kernel
theorem dX5_mostTired_4 : decode cX5_mostTired 4 = .ok (.iload_n 2, 1) := by decide +kernel
theorem dX5_mostTired_5 : decode cX5_mostTired 5 = .ok (.aload_n 0, 1) := by decide +kernel
theorem dX5_mostTired_6 : decode cX5_mostTired 6 = .ok (.getfield 57, 3) := by decide +kernel
theorem dX5_mostTired_9 : decode cX5_mostTired 9 = .ok (.if_icmp .ge 26, 3) := by decide +kernel
theorem dX5_mostTired_12 : decode cX5_mostTired 12 = .ok (.aload_n 0, 1) := by decide +kernel
theorem dX5_mostTired_13 : decode cX5_mostTired 13 = .ok (.getfield 21, 3) := by decide +kernel
theorem dX5_mostTired_16 : decode cX5_mostTired 16 = .ok (.iload_n 2, 1) := by decide +kernel
theorem dX5_mostTired_17 : decode cX5_mostTired 17 = .ok (.iaload, 1) := by decide +kernel
theorem dX5_mostTired_18 : decode cX5_mostTired 18 = .ok (.aload_n 0, 1) := by decide +kernel
theorem dX5_mostTired_19 : decode cX5_mostTired 19 = .ok (.getfield 21, 3) := by decide +kernel
theorem dX5_mostTired_22 : decode cX5_mostTired 22 = .ok (.iload_n 1, 1) := by decide +kernel
theorem dX5_mostTired_23 : decode cX5_mostTired 23 = .ok (.iaload, 1) := by decide +kernel
theorem dX5_mostTired_24 : decode cX5_mostTired 24 = .ok (.if_icmp .le 5, 3) := by decide +kernel
theorem dX5_mostTired_27 : decode cX5_mostTired 27 = .ok (.iload_n 2, 1) := by decide +kernel
theorem dX5_mostTired_28 : decode cX5_mostTired 28 = .ok (.istore_n 1, 1) := by decide +kernel
theorem dX5_mostTired_29 : decode cX5_mostTired 29 = .ok (.iinc 2 1, 3) := by decide +kernel
theorem dX5_mostTired_32 : decode cX5_mostTired 32 = .ok (.goto (-28), 3) := by decide +kernel
theorem dX5_mostTired_35 : decode cX5_mostTired 35 = .ok (.iload_n 1, 1) := by decide +kernel
theorem dX5_mostTired_36 : decode cX5_mostTired 36 = .ok (.ireturn, 1) := by decide +kernel
theorem dX6_init_0 : decode cX6_init 0 = .ok (.aload_n 0, 1) := by decide +kernel
theorem dX6_init_1 : decode cX6_init 1 = .ok (.invokespecial 1, 3) := by decide +kernel
theorem dX6_init_4 : decode cX6_init 4 = .ok (.aload_n 0, 1) := by decide +kernel
theorem dX6_init_5 : decode cX6_init 5 = .ok (.new 7, 3) := by decide +kernel
theorem dX6_init_8 : decode cX6_init 8 = .ok (.dup, 1) := by decide +kernel
theorem dX6_init_9 : decode cX6_init 9 = .ok (.invokespecial 9, 3) := by decide +kernel
theorem dX6_init_12 : decode cX6_init 12 = .ok (.putfield 10, 3) := by decide +kernel
theorem dX6_init_15 : decode cX6_init 15 = .ok (.aload_n 0, 1) := by decide +kernel
theorem dX6_init_16 : decode cX6_init 16 = .ok (.new 7, 3) := by decide +kernel
theorem dX6_init_19 : decode cX6_init 19 = .ok (.dup, 1) := by decide +kernel
theorem dX6_init_20 : decode cX6_init 20 = .ok (.invokespecial 9, 3) := by decide +kernel
theorem dX6_init_23 : decode cX6_init 23 = .ok (.putfield 16, 3) := by decide +kernel
theorem dX6_init_26 : decode cX6_init 26 = .ok (.aload_n 0, 1) := by decide +kernel
theorem dX6_init_27 : decode cX6_init 27 = .ok (.new 7, 3) := by decide +kernel
theorem dX6_init_30 : decode cX6_init 30 = .ok (.dup, 1) := by decide +kernel
theorem dX6_init_31 : decode cX6_init 31 = .ok (.invokespecial 9, 3) := by decide +kernel
theorem dX6_init_34 : decode cX6_init 34 = .ok (.putfield 19, 3) := by decide +kernel
theorem dX6_init_37 : decode cX6_init 37 = .ok (.aload_n 0, 1) := by decide +kernel
theorem dX6_init_38 : decode cX6_init 38 = .ok (.new 22, 3) := by decide +kernel
theorem dX6_init_41 : decode cX6_init 41 = .ok (.dup, 1) := by decide +kernel
theorem dX6_init_42 : decode cX6_init 42 = .ok (.aload_n 0, 1) := by decide +kernel
theorem dX6_init_43 : decode cX6_init 43 = .ok (.getfield 19, 3) := by decide +kernel
theorem dX6_init_46 : decode cX6_init 46 = .ok (.invokespecial 24, 3) := by decide +kernel
theorem dX6_init_49 : decode cX6_init 49 = .ok (.putfield 27, 3) := by decide +kernel
theorem dX6_init_52 : decode cX6_init 52 = .ok (.aload_n 0, 1) := by decide +kernel
theorem dX6_init_53 : decode cX6_init 53 = .ok (.new 31, 3) := by decide +kernel
theorem dX6_init_56 : decode cX6_init 56 = .ok (.dup, 1) := by decide +kernel
theorem dX6_init_57 : decode cX6_init 57 = .ok (.aload_n 0, 1) := by decide +kernel
theorem dX6_init_58 : decode cX6_init 58 = .ok (.getfield 19, 3) := by decide +kernel
theorem dX6_init_61 : decode cX6_init 61 = .ok (.invokespecial 33, 3) := by decide +kernel
theorem dX6_init_64 : decode cX6_init 64 = .ok (.putfield 34, 3) := by decide +kernel
theorem dX6_init_67 : decode cX6_init 67 = .ok (.aload_n 0, 1) := by decide +kernel
theorem dX6_init_68 : decode cX6_init 68 = .ok (.new 38, 3) := by decide +kernel
theorem dX6_init_71 : decode cX6_init 71 = .ok (.dup, 1) := by decide +kernel
theorem dX6_init_72 : decode cX6_init 72 = .ok (.invokespecial 40, 3) := by decide +kernel
theorem dX6_init_75 : decode cX6_init 75 = .ok (.putfield 41, 3) := by decide +kernel
theorem dX6_init_78 : decode cX6_init 78 = .ok (.aload_n 0, 1) := by decide +kernel
theorem dX6_init_79 : decode cX6_init 79 = .ok (.new 45, 3) := by decide +kernel
theorem dX6_init_82 : decode cX6_init 82 = .ok (.dup, 1) := by decide +kernel
theorem dX6_init_83 : decode cX6_init 83 = .ok (.invokespecial 47, 3) := by decide +kernel
theorem dX6_init_86 : decode cX6_init 86 = .ok (.putfield 48, 3) := by decide +kernel
theorem dX6_init_89 : decode cX6_init 89 = .ok (.aload_n 0, 1) := by decide +kernel
theorem dX6_init_90 : decode cX6_init 90 = .ok (.bipush 8, 2) := by decide +kernel
theorem dX6_init_92 : decode cX6_init 92 = .ok (.anewarray 52, 3) := by decide +kernel
theorem dX6_init_95 : decode cX6_init 95 = .ok (.putfield 54, 3) := by decide +kernel
theorem dX6_init_98 : decode cX6_init 98 = .ok (.aload_n 0, 1) := by decide +kernel
theorem dX6_init_99 : decode cX6_init 99 = .ok (.iconst 5, 1) := by decide +kernel
theorem dX6_init_100 : decode cX6_init 100 = .ok (.newarray .int, 2) := by decide +kernel
theorem dX6_init_102 : decode cX6_init 102 = .ok (.putfield 58, 3) := by decide +kernel
theorem dX6_init_105 : decode cX6_init 105 = .ok (.iconst 0, 1) := by decide +kernel
theorem dX6_init_106 : decode cX6_init 106 = .ok (.istore_n 1, 1) := by decide +kernel
theorem dX6_init_107 : decode cX6_init 107 = .ok (.iload_n 1, 1) := by decide +kernel
theorem dX6_init_108 : decode cX6_init 108 = .ok (.bipush 8, 2) := by decide +kernel
theorem dX6_init_110 : decode cX6_init 110 = .ok (.if_icmp .ge 22, 3) := by decide +kernel
theorem dX6_init_113 : decode cX6_init 113 = .ok (.aload_n 0, 1) := by decide +kernel
theorem dX6_init_114 : decode cX6_init 114 = .ok (.getfield 54, 3) := by decide +kernel
theorem dX6_init_117 : decode cX6_init 117 = .ok (.iload_n 1, 1) := by decide +kernel
theorem dX6_init_118 : decode cX6_init 118 = .ok (.new 52, 3) := by decide +kernel
theorem dX6_init_121 : decode cX6_init 121 = .ok (.dup, 1) := by decide +kernel
theorem dX6_init_122 : decode cX6_init 122 = .ok (.invokespecial 62, 3) := by decide +kernel
theorem dX6_init_125 : decode cX6_init 125 = .ok (.aastore, 1) := by decide +kernel
theorem dX6_init_126 : decode cX6_init 126 = .ok (.iinc 1 1, 3) := by decide +kernel
theorem dX6_init_129 : decode cX6_init 129 = .ok (.goto (-22), 3) := by decide +kernel
theorem dX6_init_132 : decode cX6_init 132 = .ok (.return_, 1) := by decide +kernel
theorem dX6_row_0 : decode cX6_row 0 = .ok (.iload_n 1, 1) := by decide +kernel
theorem dX6_row_1 : decode cX6_row 1 = .ok (.invokestatic 63, 3) := by decide +kernel
theorem dX6_row_4 : decode cX6_row 4 = .ok (.ifCond .eq 22, 3) := by decide +kernel
theorem dX6_row_7 : decode cX6_row 7 = .ok (.iload_n 2, 1) := by decide +kernel
theorem dX6_row_8 : decode cX6_row 8 = .ok (.ifCond .lt 18, 3) := by decide +kernel
theorem dX6_row_11 : decode cX6_row 11 = .ok (.iload_n 2, 1) := by decide +kernel
theorem dX6_row_12 : decode cX6_row 12 = .ok (.iconst 5, 1) := by decide +kernel
theorem dX6_row_13 : decode cX6_row 13 = .ok (.if_icmp .ge 13, 3) := by decide +kernel
theorem dX6_row_16 : decode cX6_row 16 = .ok (.iload_n 3, 1) := by decide +kernel
theorem dX6_row_17 : decode cX6_row 17 = .ok (.ifCond .lt 9, 3) := by decide +kernel
theorem dX6_row_20 : decode cX6_row 20 = .ok (.iload_n 3, 1) := by decide +kernel
theorem dX6_row_21 : decode cX6_row 21 = .ok (.bipush 40, 2) := by decide +kernel
theorem dX6_row_23 : decode cX6_row 23 = .ok (.if_icmp .le 10, 3) := by decide +kernel
theorem dX6_row_26 : decode cX6_row 26 = .ok (.aload_n 0, 1) := by decide +kernel
theorem dX6_row_27 : decode cX6_row 27 = .ok (.bipush (-2), 2) := by decide +kernel
theorem dX6_row_29 : decode cX6_row 29 = .ok (.invokevirtual 67, 3) := by decide +kernel
theorem dX6_row_32 : decode cX6_row 32 = .ok (.ireturn, 1) := by decide +kernel
theorem dX6_row_33 : decode cX6_row 33 = .ok (.aload_n 0, 1) := by decide +kernel
theorem dX6_row_34 : decode cX6_row 34 = .ok (.getfield 54, 3) := by decide +kernel
theorem dX6_row_37 : decode cX6_row 37 = .ok (.iload_n 1, 1) := by decide +kernel
theorem dX6_row_38 : decode cX6_row 38 = .ok (.aaload, 1) := by decide +kernel
theorem dX6_row_39 : decode cX6_row 39 = .ok (.iload_n 2, 1) := by decide +kernel
theorem dX6_row_40 : decode cX6_row 40 = .ok (.iload_n 3, 1) := by decide +kernel
theorem dX6_row_41 : decode cX6_row 41 = .ok (.invokevirtual 71, 3) := by decide +kernel
theorem dX6_row_44 : decode cX6_row 44 = .ok (.iconst 1, 1) := by decide +kernel
theorem dX6_row_45 : decode cX6_row 45 = .ok (.ireturn, 1) := by decide +kernel
theorem dX6_set_0 : decode cX6_set 0 = .ok (.aload_n 0, 1) := by decide +kernel
theorem dX6_set_1 : decode cX6_set 1 = .ok (.iload_n 1, 1) := by decide +kernel
theorem dX6_set_2 : decode cX6_set 2 = .ok (.iconst 0, 1) := by decide +kernel
theorem dX6_set_3 : decode cX6_set 3 = .ok (.invokevirtual 75, 3) := by decide +kernel
theorem dX6_set_6 : decode cX6_set 6 = .ok (.istore 5, 2) := by decide +kernel
theorem dX6_set_8 : decode cX6_set 8 = .ok (.iload 5, 2) := by decide +kernel
theorem dX6_set_10 : decode cX6_set 10 = .ok (.ifCond .eq 10, 3) := by decide +kernel
theorem dX6_set_13 : decode cX6_set 13 = .ok (.aload_n 0, 1) := by decide +kernel
theorem dX6_set_14 : decode cX6_set 14 = .ok (.iload 5, 2) := by decide +kernel
theorem dX6_set_16 : decode cX6_set 16 = .ok (.invokevirtual 67, 3) := by decide +kernel
theorem dX6_set_19 : decode cX6_set 19 = .ok (.ireturn, 1) := by decide +kernel
theorem dX6_set_20 : decode cX6_set 20 = .ok (.iload_n 2, 1) := by decide +kernel
theorem dX6_set_21 : decode cX6_set 21 = .ok (.ifCond .lt 16, 3) := by decide +kernel
theorem dX6_set_24 : decode cX6_set 24 = .ok (.iload_n 2, 1) := by decide +kernel
theorem dX6_set_25 : decode cX6_set 25 = .ok (.aload_n 0, 1) := by decide +kernel
theorem dX6_set_26 : decode cX6_set 26 = .ok (.getfield 54, 3) := by decide +kernel
theorem dX6_set_29 : decode cX6_set 29 = .ok (.iload_n 1, 1) := by decide +kernel
theorem dX6_set_30 : decode cX6_set 30 = .ok (.aaload, 1) := by decide +kernel
theorem dX6_set_31 : decode cX6_set 31 = .ok (.getfield 79, 3) := by decide +kernel
theorem dX6_set_34 : decode cX6_set 34 = .ok (.if_icmp .lt 10, 3) := by decide +kernel
theorem dX6_set_37 : decode cX6_set 37 = .ok (.aload_n 0, 1) := by decide +kernel
theorem dX6_set_38 : decode cX6_set 38 = .ok (.bipush (-2), 2) := by decide +kernel
theorem dX6_set_40 : decode cX6_set 40 = .ok (.invokevirtual 67, 3) := by decide +kernel
theorem dX6_set_43 : decode cX6_set 43 = .ok (.ireturn, 1) := by decide +kernel
theorem dX6_set_44 : decode cX6_set 44 = .ok (.aload_n 0, 1) := by decide +kernel
theorem dX6_set_45 : decode cX6_set 45 = .ok (.getfield 54, 3) := by decide +kernel
theorem dX6_set_48 : decode cX6_set 48 = .ok (.iload_n 1, 1) := by decide +kernel
theorem dX6_set_49 : decode cX6_set 49 = .ok (.aaload, 1) := by decide +kernel
theorem dX6_set_50 : decode cX6_set 50 = .ok (.iload_n 2, 1) := by decide +kernel
theorem dX6_set_51 : decode cX6_set 51 = .ok (.lload_n 3, 1) := by decide +kernel
theorem dX6_set_52 : decode cX6_set 52 = .ok (.invokevirtual 83, 3) := by decide +kernel
theorem dX6_set_55 : decode cX6_set 55 = .ok (.iconst 1, 1) := by decide +kernel
theorem dX6_set_56 : decode cX6_set 56 = .ok (.ireturn, 1) := by decide +kernel
theorem dX6_copy_0 : decode cX6_copy 0 = .ok (.iload_n 1, 1) := by decide +kernel
theorem dX6_copy_1 : decode cX6_copy 1 = .ok (.invokestatic 63, 3) := by decide +kernel
theorem dX6_copy_4 : decode cX6_copy 4 = .ok (.ifCond .eq 10, 3) := by decide +kernel
theorem dX6_copy_7 : decode cX6_copy 7 = .ok (.iload_n 2, 1) := by decide +kernel
theorem dX6_copy_8 : decode cX6_copy 8 = .ok (.invokestatic 63, 3) := by decide +kernel
theorem dX6_copy_11 : decode cX6_copy 11 = .ok (.ifCond .ne 10, 3) := by decide +kernel
theorem dX6_copy_14 : decode cX6_copy 14 = .ok (.aload_n 0, 1) := by decide +kernel
theorem dX6_copy_15 : decode cX6_copy 15 = .ok (.bipush (-2), 2) := by decide +kernel
theorem dX6_copy_17 : decode cX6_copy 17 = .ok (.invokevirtual 67, 3) := by decide +kernel
theorem dX6_copy_20 : decode cX6_copy 20 = .ok (.ireturn, 1) := by decide +kernel
theorem dX6_copy_21 : decode cX6_copy 21 = .ok (.aload_n 0, 1) := by decide +kernel
theorem dX6_copy_22 : decode cX6_copy 22 = .ok (.getfield 54, 3) := by decide +kernel
theorem dX6_copy_25 : decode cX6_copy 25 = .ok (.iload_n 1, 1) := by decide +kernel
theorem dX6_copy_26 : decode cX6_copy 26 = .ok (.aaload, 1) := by decide +kernel
theorem dX6_copy_27 : decode cX6_copy 27 = .ok (.astore 6, 2) := by decide +kernel
theorem dX6_copy_29 : decode cX6_copy 29 = .ok (.aload_n 0, 1) := by decide +kernel
theorem dX6_copy_30 : decode cX6_copy 30 = .ok (.getfield 54, 3) := by decide +kernel
theorem dX6_copy_33 : decode cX6_copy 33 = .ok (.iload_n 2, 1) := by decide +kernel
theorem dX6_copy_34 : decode cX6_copy 34 = .ok (.aaload, 1) := by decide +kernel
theorem dX6_copy_35 : decode cX6_copy 35 = .ok (.astore 7, 2) := by decide +kernel
theorem dX6_copy_37 : decode cX6_copy 37 = .ok (.aload 6, 2) := by decide +kernel
theorem dX6_copy_39 : decode cX6_copy 39 = .ok (.getfield 87, 3) := by decide +kernel
theorem dX6_copy_42 : decode cX6_copy 42 = .ok (.iconst (-1), 1) := by decide +kernel
theorem dX6_copy_43 : decode cX6_copy 43 = .ok (.if_icmp .eq 12, 3) := by decide +kernel
theorem dX6_copy_46 : decode cX6_copy 46 = .ok (.aload 7, 2) := by decide +kernel
theorem dX6_copy_48 : decode cX6_copy 48 = .ok (.getfield 87, 3) := by decide +kernel
theorem dX6_copy_51 : decode cX6_copy 51 = .ok (.iconst (-1), 1) := by decide +kernel
theorem dX6_copy_52 : decode cX6_copy 52 = .ok (.if_icmp .ne 7, 3) := by decide +kernel
theorem dX6_copy_55 : decode cX6_copy 55 = .ok (.iconst 1, 1) := by decide +kernel
theorem dX6_copy_56 : decode cX6_copy 56 = .ok (.goto 4, 3) := by decide +kernel
theorem dX6_copy_59 : decode cX6_copy 59 = .ok (.iconst 0, 1) := by decide +kernel
theorem dX6_copy_60 : decode cX6_copy 60 = .ok (.istore 8, 2) := by decide +kernel
theorem dX6_copy_62 : decode cX6_copy 62 = .ok (.aload 6, 2) := by decide +kernel
theorem dX6_copy_64 : decode cX6_copy 64 = .ok (.invokevirtual 90, 3) := by decide +kernel
theorem dX6_copy_67 : decode cX6_copy 67 = .ok (.ifCond .ne 29, 3) := by decide +kernel
theorem dX6_copy_70 : decode cX6_copy 70 = .ok (.aload 7, 2) := by decide +kernel
theorem dX6_copy_72 : decode cX6_copy 72 = .ok (.invokevirtual 90, 3) := by decide +kernel
theorem dX6_copy_75 : decode cX6_copy 75 = .ok (.ifCond .ne 21, 3) := by decide +kernel
theorem dX6_copy_78 : decode cX6_copy 78 = .ok (.iload 8, 2) := by decide +kernel
theorem dX6_copy_80 : decode cX6_copy 80 = .ok (.ifCond .ne 23, 3) := by decide +kernel
theorem dX6_copy_83 : decode cX6_copy 83 = .ok (.aload 6, 2) := by decide +kernel
theorem dX6_copy_85 : decode cX6_copy 85 = .ok (.getfield 87, 3) := by decide +kernel
theorem dX6_copy_88 : decode cX6_copy 88 = .ok (.aload 7, 2) := by decide +kernel
theorem dX6_copy_90 : decode cX6_copy 90 = .ok (.getfield 87, 3) := by decide +kernel
theorem dX6_copy_93 : decode cX6_copy 93 = .ok (.if_icmp .eq 10, 3) := by decide +kernel
theorem dX6_copy_96 : decode cX6_copy 96 = .ok (.aload_n 0, 1) := by decide +kernel
theorem dX6_copy_97 : decode cX6_copy 97 = .ok (.bipush (-3), 2) := by decide +kernel
theorem dX6_copy_99 : decode cX6_copy 99 = .ok (.invokevirtual 67, 3) := by decide +kernel
theorem dX6_copy_102 : decode cX6_copy 102 = .ok (.ireturn, 1) := by decide +kernel
theorem dX6_copy_103 : decode cX6_copy 103 = .ok (.iload 8, 2) := by decide +kernel
theorem dX6_copy_105 : decode cX6_copy 105 = .ok (.ifCond .eq 10, 3) := by decide +kernel
theorem dX6_copy_108 : decode cX6_copy 108 = .ok (.aload_n 0, 1) := by decide +kernel
theorem dX6_copy_109 : decode cX6_copy 109 = .ok (.bipush (-4), 2) := by decide +kernel
theorem dX6_copy_111 : decode cX6_copy 111 = .ok (.invokevirtual 67, 3) := by decide +kernel
theorem dX6_copy_114 : decode cX6_copy 114 = .ok (.ireturn, 1) := by decide +kernel
theorem dX6_copy_115 : decode cX6_copy 115 = .ok (.aload 6, 2) := by decide +kernel
theorem dX6_copy_117 : decode cX6_copy 117 = .ok (.iload_n 3, 1) := by decide +kernel
theorem dX6_copy_118 : decode cX6_copy 118 = .ok (.iload 5, 2) := by decide +kernel
theorem dX6_copy_120 : decode cX6_copy 120 = .ok (.invokevirtual 94, 3) := by decide +kernel
theorem dX6_copy_123 : decode cX6_copy 123 = .ok (.ifCond .eq 15, 3) := by decide +kernel
theorem dX6_copy_126 : decode cX6_copy 126 = .ok (.aload 7, 2) := by decide +kernel
theorem dX6_copy_128 : decode cX6_copy 128 = .ok (.iload 4, 2) := by decide +kernel
theorem dX6_copy_130 : decode cX6_copy 130 = .ok (.iload 5, 2) := by decide +kernel
theorem dX6_copy_132 : decode cX6_copy 132 = .ok (.invokevirtual 94, 3) := by decide +kernel
theorem dX6_copy_135 : decode cX6_copy 135 = .ok (.ifCond .ne 10, 3) := by decide +kernel
theorem dX6_copy_138 : decode cX6_copy 138 = .ok (.aload_n 0, 1) := by decide +kernel
theorem dX6_copy_139 : decode cX6_copy 139 = .ok (.bipush (-2), 2) := by decide +kernel
theorem dX6_copy_141 : decode cX6_copy 141 = .ok (.invokevirtual 67, 3) := by decide +kernel
theorem dX6_copy_144 : decode cX6_copy 144 = .ok (.ireturn, 1) := by decide +kernel
theorem dX6_copy_145 : decode cX6_copy 145 = .ok (.aload 6, 2) := by decide +kernel
theorem dX6_copy_147 : decode cX6_copy 147 = .ok (.getfield 98, 3) := by decide +kernel
theorem dX6_copy_150 : decode cX6_copy 150 = .ok (.iload_n 3, 1) := by decide +kernel
theorem dX6_copy_151 : decode cX6_copy 151 = .ok (.aload 7, 2) := by decide +kernel
theorem dX6_copy_153 : decode cX6_copy 153 = .ok (.getfield 98, 3) := by decide +kernel
theorem dX6_copy_156 : decode cX6_copy 156 = .ok (.iload 4, 2) := by decide +kernel
theorem dX6_copy_158 : decode cX6_copy 158 = .ok (.iload 5, 2) := by decide +kernel
theorem dX6_copy_160 : decode cX6_copy 160 = .ok (.invokestatic 102, 3) := by decide +kernel
theorem dX6_copy_163 : decode cX6_copy 163 = .ok (.iload 5, 2) := by decide +kernel
theorem dX6_copy_165 : decode cX6_copy 165 = .ok (.ireturn, 1) := by decide +kernel
theorem dX6_element_0 : decode cX6_element 0 = .ok (.iload_n 1, 1) := by decide +kernel
theorem dX6_element_1 : decode cX6_element 1 = .ok (.invokestatic 63, 3) := by decide +kernel
theorem dX6_element_4 : decode cX6_element 4 = .ok (.ifCond .eq 32, 3) := by decide +kernel
theorem dX6_element_7 : decode cX6_element 7 = .ok (.aload_n 0, 1) := by decide +kernel
theorem dX6_element_8 : decode cX6_element 8 = .ok (.getfield 54, 3) := by decide +kernel
theorem dX6_element_11 : decode cX6_element 11 = .ok (.iload_n 1, 1) := by decide +kernel
theorem dX6_element_12 : decode cX6_element 12 = .ok (.aaload, 1) := by decide +kernel
theorem dX6_element_13 : decode cX6_element 13 = .ok (.invokevirtual 108, 3) := by decide +kernel
theorem dX6_element_16 : decode cX6_element 16 = .ok (.ifCond .eq 20, 3) := by decide +kernel
theorem dX6_element_19 : decode cX6_element 19 = .ok (.iload_n 2, 1) := by decide +kernel
theorem dX6_element_20 : decode cX6_element 20 = .ok (.ifCond .lt 16, 3) := by decide +kernel
theorem dX6_element_23 : decode cX6_element 23 = .ok (.iload_n 2, 1) := by decide +kernel
theorem dX6_element_24 : decode cX6_element 24 = .ok (.aload_n 0, 1) := by decide +kernel
theorem dX6_element_25 : decode cX6_element 25 = .ok (.getfield 54, 3) := by decide +kernel
theorem dX6_element_28 : decode cX6_element 28 = .ok (.iload_n 1, 1) := by decide +kernel
theorem dX6_element_29 : decode cX6_element 29 = .ok (.aaload, 1) := by decide +kernel
theorem dX6_element_30 : decode cX6_element 30 = .ok (.getfield 79, 3) := by decide +kernel
theorem dX6_element_33 : decode cX6_element 33 = .ok (.if_icmp .lt 5, 3) := by decide +kernel
theorem dX6_element_36 : decode cX6_element 36 = .ok (.lconst 0, 1) := by decide +kernel
theorem dX6_element_37 : decode cX6_element 37 = .ok (.lreturn, 1) := by decide +kernel
theorem dX6_element_38 : decode cX6_element 38 = .ok (.aload_n 0, 1) := by decide +kernel
theorem dX6_element_39 : decode cX6_element 39 = .ok (.getfield 54, 3) := by decide +kernel
theorem dX6_element_42 : decode cX6_element 42 = .ok (.iload_n 1, 1) := by decide +kernel
theorem dX6_element_43 : decode cX6_element 43 = .ok (.aaload, 1) := by decide +kernel
theorem dX6_element_44 : decode cX6_element 44 = .ok (.getfield 98, 3) := by decide +kernel
theorem dX6_element_47 : decode cX6_element 47 = .ok (.iload_n 2, 1) := by decide +kernel
theorem dX6_element_48 : decode cX6_element 48 = .ok (.laload, 1) := by decide +kernel
theorem dX6_element_49 : decode cX6_element 49 = .ok (.lreturn, 1) := by decide +kernel
theorem dX6_holds_0 : decode cX6_holds 0 = .ok (.iload_n 1, 1) := by decide +kernel
theorem dX6_holds_1 : decode cX6_holds 1 = .ok (.invokestatic 63, 3) := by decide +kernel
theorem dX6_holds_4 : decode cX6_holds 4 = .ok (.ifCond .eq 15, 3) := by decide +kernel
theorem dX6_holds_7 : decode cX6_holds 7 = .ok (.aload_n 0, 1) := by decide +kernel
theorem dX6_holds_8 : decode cX6_holds 8 = .ok (.getfield 54, 3) := by decide +kernel
theorem dX6_holds_11 : decode cX6_holds 11 = .ok (.iload_n 1, 1) := by decide +kernel
theorem dX6_holds_12 : decode cX6_holds 12 = .ok (.aaload, 1) := by decide +kernel
theorem dX6_holds_13 : decode cX6_holds 13 = .ok (.getfield 87, 3) := by decide +kernel
theorem dX6_holds_16 : decode cX6_holds 16 = .ok (.goto 4, 3) := by decide +kernel
theorem dX6_holds_19 : decode cX6_holds 19 = .ok (.iconst (-1), 1) := by decide +kernel
theorem dX6_holds_20 : decode cX6_holds 20 = .ok (.ireturn, 1) := by decide +kernel
theorem dX6_show_0 : decode cX6_show 0 = .ok (.iload_n 1, 1) := by decide +kernel
theorem dX6_show_1 : decode cX6_show 1 = .ok (.invokestatic 63, 3) := by decide +kernel
theorem dX6_show_4 : decode cX6_show 4 = .ok (.ifCond .eq 19, 3) := by decide +kernel
theorem dX6_show_7 : decode cX6_show 7 = .ok (.iload_n 2, 1) := by decide +kernel
theorem dX6_show_8 : decode cX6_show 8 = .ok (.iconst (-1), 1) := by decide +kernel
theorem dX6_show_9 : decode cX6_show 9 = .ok (.if_icmp .eq 21, 3) := by decide +kernel
theorem dX6_show_12 : decode cX6_show 12 = .ok (.aload_n 0, 1) := by decide +kernel
theorem dX6_show_13 : decode cX6_show 13 = .ok (.getfield 10, 3) := by decide +kernel
theorem dX6_show_16 : decode cX6_show 16 = .ok (.iload_n 2, 1) := by decide +kernel
theorem dX6_show_17 : decode cX6_show 17 = .ok (.invokevirtual 111, 3) := by decide +kernel
theorem dX6_show_20 : decode cX6_show 20 = .ok (.ifCond .ne 10, 3) := by decide +kernel
theorem dX6_show_23 : decode cX6_show 23 = .ok (.aload_n 0, 1) := by decide +kernel
theorem dX6_show_24 : decode cX6_show 24 = .ok (.bipush (-2), 2) := by decide +kernel
theorem dX6_show_26 : decode cX6_show 26 = .ok (.invokevirtual 67, 3) := by decide +kernel
theorem dX6_show_29 : decode cX6_show 29 = .ok (.ireturn, 1) := by decide +kernel
theorem dX6_show_30 : decode cX6_show 30 = .ok (.aload_n 0, 1) := by decide +kernel
theorem dX6_show_31 : decode cX6_show 31 = .ok (.getfield 54, 3) := by decide +kernel
theorem dX6_show_34 : decode cX6_show 34 = .ok (.iload_n 1, 1) := by decide +kernel
theorem dX6_show_35 : decode cX6_show 35 = .ok (.aaload, 1) := by decide +kernel
theorem dX6_show_36 : decode cX6_show 36 = .ok (.iload_n 2, 1) := by decide +kernel
theorem dX6_show_37 : decode cX6_show 37 = .ok (.iconst (-1), 1) := by decide +kernel
theorem dX6_show_38 : decode cX6_show 38 = .ok (.if_icmp .ne 7, 3) := by decide +kernel
theorem dX6_show_41 : decode cX6_show 41 = .ok (.iconst (-1), 1) := by decide +kernel
theorem dX6_show_42 : decode cX6_show 42 = .ok (.goto 7, 3) := by decide +kernel
theorem dX6_show_45 : decode cX6_show 45 = .ok (.bipush 10, 2) := by decide +kernel
theorem dX6_show_47 : decode cX6_show 47 = .ok (.iload_n 2, 1) := by decide +kernel
theorem dX6_show_48 : decode cX6_show 48 = .ok (.iadd, 1) := by decide +kernel
theorem dX6_show_49 : decode cX6_show 49 = .ok (.putfield 87, 3) := by decide +kernel
theorem dX6_show_52 : decode cX6_show 52 = .ok (.iconst 1, 1) := by decide +kernel
theorem dX6_show_53 : decode cX6_show 53 = .ok (.ireturn, 1) := by decide +kernel
theorem dX6_says_0 : decode cX6_says 0 = .ok (.iload_n 1, 1) := by decide +kernel
theorem dX6_says_1 : decode cX6_says 1 = .ok (.invokestatic 63, 3) := by decide +kernel
theorem dX6_says_4 : decode cX6_says 4 = .ok (.ifCond .eq 13, 3) := by decide +kernel
theorem dX6_says_7 : decode cX6_says 7 = .ok (.iload_n 2, 1) := by decide +kernel
theorem dX6_says_8 : decode cX6_says 8 = .ok (.ifCond .lt 9, 3) := by decide +kernel
theorem dX6_says_11 : decode cX6_says 11 = .ok (.iload_n 2, 1) := by decide +kernel
theorem dX6_says_12 : decode cX6_says 12 = .ok (.bipush 6, 2) := by decide +kernel
theorem dX6_says_14 : decode cX6_says 14 = .ok (.if_icmp .lt 10, 3) := by decide +kernel
theorem dX6_says_17 : decode cX6_says 17 = .ok (.aload_n 0, 1) := by decide +kernel
theorem dX6_says_18 : decode cX6_says 18 = .ok (.bipush (-2), 2) := by decide +kernel
