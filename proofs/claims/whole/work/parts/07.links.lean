theorem fl_X6_10 : FLk RX6 10 6 0 := ⟨_, rfl, by decide, inG (List.mem_of_getElem? (i := 222) (by decide +kernel)) rfl⟩
theorem fl_X6_16 : FLk RX6 16 6 1 := ⟨_, rfl, by decide, inG (List.mem_of_getElem? (i := 223) (by decide +kernel)) rfl⟩
theorem fl_X6_19 : FLk RX6 19 6 2 := ⟨_, rfl, by decide, inG (List.mem_of_getElem? (i := 224) (by decide +kernel)) rfl⟩
theorem fl_X6_27 : FLk RX6 27 6 3 := ⟨_, rfl, by decide, inG (List.mem_of_getElem? (i := 225) (by decide +kernel)) rfl⟩
theorem fl_X6_34 : FLk RX6 34 6 4 := ⟨_, rfl, by decide, inG (List.mem_of_getElem? (i := 226) (by decide +kernel)) rfl⟩
theorem fl_X6_41 : FLk RX6 41 6 5 := ⟨_, rfl, by decide, inG (List.mem_of_getElem? (i := 227) (by decide +kernel)) rfl⟩
theorem fl_X6_48 : FLk RX6 48 6 6 := ⟨_, rfl, by decide, inG (List.mem_of_getElem? (i := 228) (by decide +kernel)) rfl⟩
theorem fl_X6_54 : FLk RX6 54 6 7 := ⟨_, rfl, by decide, inG (List.mem_of_getElem? (i := 229) (by decide +kernel)) rfl⟩
theorem fl_X6_58 : FLk RX6 58 6 8 := ⟨_, rfl, by decide, inG (List.mem_of_getElem? (i := 230) (by decide +kernel)) rfl⟩
theorem fl_X6_79 : FLk RX6 79 3 2 := ⟨_, rfl, by decide, inG (List.mem_of_getElem? (i := 212) (by decide +kernel)) rfl⟩
theorem fl_X6_87 : FLk RX6 87 3 1 := ⟨_, rfl, by decide, inG (List.mem_of_getElem? (i := 211) (by decide +kernel)) rfl⟩
theorem fl_X6_98 : FLk RX6 98 3 0 := ⟨_, rfl, by decide, inG (List.mem_of_getElem? (i := 209) (by decide +kernel)) rfl⟩
theorem fl_X6_114 : FLk RX6 114 5 0 := ⟨_, rfl, by decide, inG (List.mem_of_getElem? (i := 32) (by decide +kernel)) rfl⟩
theorem fl_X6_120 : FLk RX6 120 5 5 := ⟨_, rfl, by decide, inG (List.mem_of_getElem? (i := 44) (by decide +kernel)) rfl⟩
theorem fl_X6_138 : FLk RX6 138 5 8 := ⟨_, rfl, by decide, inG (List.mem_of_getElem? (i := 57) (by decide +kernel)) rfl⟩
theorem fl_X6_145 : FLk RX6 145 5 1 := ⟨_, rfl, by decide, inG (List.mem_of_getElem? (i := 34) (by decide +kernel)) rfl⟩
theorem fl_X6_148 : FLk RX6 148 5 2 := ⟨_, rfl, by decide, inG (List.mem_of_getElem? (i := 36) (by decide +kernel)) rfl⟩
theorem fl_X6_151 : FLk RX6 151 5 3 := ⟨_, rfl, by decide, inG (List.mem_of_getElem? (i := 39) (by decide +kernel)) rfl⟩
theorem fl_X6_157 : FLk RX6 157 5 9 := ⟨_, rfl, by decide, inG (List.mem_of_getElem? (i := 60) (by decide +kernel)) rfl⟩
theorem fl_X6_160 : FLk RX6 160 5 10 := ⟨_, rfl, by decide, inG (List.mem_of_getElem? (i := 63) (by decide +kernel)) rfl⟩
theorem fl_X6_163 : FLk RX6 163 5 11 := ⟨_, rfl, by decide, inG (List.mem_of_getElem? (i := 66) (by decide +kernel)) rfl⟩
theorem fl_X6_166 : FLk RX6 166 5 12 := ⟨_, rfl, by decide, inG (List.mem_of_getElem? (i := 69) (by decide +kernel)) rfl⟩
theorem fl_X6_169 : FLk RX6 169 5 13 := ⟨_, rfl, by decide, inG (List.mem_of_getElem? (i := 73) (by decide +kernel)) rfl⟩
theorem fl_X6_172 : FLk RX6 172 4 1 := ⟨_, rfl, by decide, inG (List.mem_of_getElem? (i := 182) (by decide +kernel)) rfl⟩
theorem fl_X6_187 : FLk RX6 187 4 2 := ⟨_, rfl, by decide, inG (List.mem_of_getElem? (i := 184) (by decide +kernel)) rfl⟩
theorem fl_X6_190 : FLk RX6 190 5 4 := ⟨_, rfl, by decide, inG (List.mem_of_getElem? (i := 41) (by decide +kernel)) rfl⟩
theorem fl_X6_199 : FLk RX6 199 5 7 := ⟨_, rfl, by decide, inG (List.mem_of_getElem? (i := 52) (by decide +kernel)) rfl⟩
theorem fl_X6_201 : FLk RX6 201 5 6 := ⟨_, rfl, by decide, inG (List.mem_of_getElem? (i := 47) (by decide +kernel)) rfl⟩
theorem fl_X6_251 : FLk RX6 251 2 1 := ⟨_, rfl, by decide, inG (List.mem_of_getElem? (i := 120) (by decide +kernel)) rfl⟩
theorem fl_X6_258 : FLk RX6 258 1 0 := ⟨_, rfl, by decide, inG (List.mem_of_getElem? (i := 154) (by decide +kernel)) rfl⟩
theorem fl_X6_283 : FLk RX6 283 2 2 := ⟨_, rfl, by decide, inG (List.mem_of_getElem? (i := 122) (by decide +kernel)) rfl⟩
theorem fl_X6_289 : FLk RX6 289 0 1 := ⟨_, rfl, by decide, inG (List.mem_of_getElem? (i := 141) (by decide +kernel)) rfl⟩
theorem fl_X6_303 : FLk RX6 303 5 14 := ⟨_, rfl, by decide, inG (List.mem_of_getElem? (i := 75) (by decide +kernel)) rfl⟩
theorem fl_X6_317 : FLk RX6 317 5 15 := ⟨_, rfl, by decide, inG (List.mem_of_getElem? (i := 77) (by decide +kernel)) rfl⟩
theorem fl_X6_320 : FLk RX6 320 6 9 := ⟨_, rfl, by decide, inG (List.mem_of_getElem? (i := 231) (by decide +kernel)) rfl⟩
theorem fl_X0_11 : FLk RX0 11 0 0 := ⟨_, rfl, by decide, inG (List.mem_of_getElem? (i := 139) (by decide +kernel)) rfl⟩
theorem fl_X0_30 : FLk RX0 30 5 7 := ⟨_, rfl, by decide, inG (List.mem_of_getElem? (i := 50) (by decide +kernel)) rfl⟩
theorem fl_X0_34 : FLk RX0 34 5 13 := ⟨_, rfl, by decide, inG (List.mem_of_getElem? (i := 71) (by decide +kernel)) rfl⟩
theorem fl_X0_38 : FLk RX0 38 5 8 := ⟨_, rfl, by decide, inG (List.mem_of_getElem? (i := 55) (by decide +kernel)) rfl⟩
theorem fl_X0_49 : FLk RX0 49 0 1 := ⟨_, rfl, by decide, inG (List.mem_of_getElem? (i := 140) (by decide +kernel)) rfl⟩
theorem fl_X1_9 : FLk RX1 9 1 0 := ⟨_, rfl, by decide, inG (List.mem_of_getElem? (i := 153) (by decide +kernel)) rfl⟩
theorem fl_X1_15 : FLk RX1 15 1 1 := ⟨_, rfl, by decide, inG (List.mem_of_getElem? (i := 155) (by decide +kernel)) rfl⟩
theorem fl_X1_18 : FLk RX1 18 1 2 := ⟨_, rfl, by decide, inG (List.mem_of_getElem? (i := 156) (by decide +kernel)) rfl⟩
theorem fl_X1_22 : FLk RX1 22 5 6 := ⟨_, rfl, by decide, inG (List.mem_of_getElem? (i := 46) (by decide +kernel)) rfl⟩
theorem fl_X1_34 : FLk RX1 34 5 7 := ⟨_, rfl, by decide, inG (List.mem_of_getElem? (i := 49) (by decide +kernel)) rfl⟩
theorem fl_X1_37 : FLk RX1 37 1 3 := ⟨_, rfl, by decide, inG (List.mem_of_getElem? (i := 157) (by decide +kernel)) rfl⟩
theorem fl_X1_41 : FLk RX1 41 1 4 := ⟨_, rfl, by decide, inG (List.mem_of_getElem? (i := 158) (by decide +kernel)) rfl⟩
theorem fl_X1_45 : FLk RX1 45 1 5 := ⟨_, rfl, by decide, inG (List.mem_of_getElem? (i := 159) (by decide +kernel)) rfl⟩
theorem fl_X1_53 : FLk RX1 53 5 8 := ⟨_, rfl, by decide, inG (List.mem_of_getElem? (i := 54) (by decide +kernel)) rfl⟩
theorem fl_X1_56 : FLk RX1 56 5 5 := ⟨_, rfl, by decide, inG (List.mem_of_getElem? (i := 43) (by decide +kernel)) rfl⟩
theorem fl_X2_9 : FLk RX2 9 2 0 := ⟨_, rfl, by decide, inG (List.mem_of_getElem? (i := 118) (by decide +kernel)) rfl⟩
theorem fl_X2_21 : FLk RX2 21 2 1 := ⟨_, rfl, by decide, inG (List.mem_of_getElem? (i := 119) (by decide +kernel)) rfl⟩
theorem fl_X2_25 : FLk RX2 25 2 2 := ⟨_, rfl, by decide, inG (List.mem_of_getElem? (i := 121) (by decide +kernel)) rfl⟩
theorem fl_X3_9 : FLk RX3 9 3 0 := ⟨_, rfl, by decide, inG (List.mem_of_getElem? (i := 208) (by decide +kernel)) rfl⟩
theorem fl_X3_15 : FLk RX3 15 3 1 := ⟨_, rfl, by decide, inG (List.mem_of_getElem? (i := 210) (by decide +kernel)) rfl⟩
theorem fl_X3_19 : FLk RX3 19 3 2 := ⟨_, rfl, by decide, inG (List.mem_of_getElem? (i := 213) (by decide +kernel)) rfl⟩
theorem fl_X4_9 : FLk RX4 9 4 0 := ⟨_, rfl, by decide, inG (List.mem_of_getElem? (i := 180) (by decide +kernel)) rfl⟩
theorem fl_X4_15 : FLk RX4 15 4 2 := ⟨_, rfl, by decide, inG (List.mem_of_getElem? (i := 183) (by decide +kernel)) rfl⟩
theorem fl_X4_19 : FLk RX4 19 4 1 := ⟨_, rfl, by decide, inG (List.mem_of_getElem? (i := 181) (by decide +kernel)) rfl⟩
theorem fl_X4_22 : FLk RX4 22 4 5 := ⟨_, rfl, by decide, inG (List.mem_of_getElem? (i := 187) (by decide +kernel)) rfl⟩
theorem fl_X4_32 : FLk RX4 32 4 3 := ⟨_, rfl, by decide, inG (List.mem_of_getElem? (i := 185) (by decide +kernel)) rfl⟩
theorem fl_X4_35 : FLk RX4 35 4 4 := ⟨_, rfl, by decide, inG (List.mem_of_getElem? (i := 186) (by decide +kernel)) rfl⟩
theorem fl_X4_63 : FLk RX4 63 5 9 := ⟨_, rfl, by decide, inG (List.mem_of_getElem? (i := 59) (by decide +kernel)) rfl⟩
theorem fl_X4_69 : FLk RX4 69 5 10 := ⟨_, rfl, by decide, inG (List.mem_of_getElem? (i := 62) (by decide +kernel)) rfl⟩
theorem fl_X4_73 : FLk RX4 73 5 11 := ⟨_, rfl, by decide, inG (List.mem_of_getElem? (i := 65) (by decide +kernel)) rfl⟩
theorem fl_X4_77 : FLk RX4 77 5 12 := ⟨_, rfl, by decide, inG (List.mem_of_getElem? (i := 68) (by decide +kernel)) rfl⟩
theorem fl_X4_79 : FLk RX4 79 5 8 := ⟨_, rfl, by decide, inG (List.mem_of_getElem? (i := 56) (by decide +kernel)) rfl⟩
theorem fl_X4_89 : FLk RX4 89 5 3 := ⟨_, rfl, by decide, inG (List.mem_of_getElem? (i := 38) (by decide +kernel)) rfl⟩
theorem fl_X4_99 : FLk RX4 99 5 7 := ⟨_, rfl, by decide, inG (List.mem_of_getElem? (i := 51) (by decide +kernel)) rfl⟩
theorem fl_X4_101 : FLk RX4 101 5 13 := ⟨_, rfl, by decide, inG (List.mem_of_getElem? (i := 72) (by decide +kernel)) rfl⟩
theorem fl_X5_9 : FLk RX5 9 5 0 := ⟨_, rfl, by decide, inG (List.mem_of_getElem? (i := 31) (by decide +kernel)) rfl⟩
theorem fl_X5_15 : FLk RX5 15 5 1 := ⟨_, rfl, by decide, inG (List.mem_of_getElem? (i := 33) (by decide +kernel)) rfl⟩
theorem fl_X5_18 : FLk RX5 18 5 2 := ⟨_, rfl, by decide, inG (List.mem_of_getElem? (i := 35) (by decide +kernel)) rfl⟩
theorem fl_X5_21 : FLk RX5 21 5 3 := ⟨_, rfl, by decide, inG (List.mem_of_getElem? (i := 37) (by decide +kernel)) rfl⟩
theorem fl_X5_24 : FLk RX5 24 5 4 := ⟨_, rfl, by decide, inG (List.mem_of_getElem? (i := 40) (by decide +kernel)) rfl⟩
theorem fl_X5_27 : FLk RX5 27 5 5 := ⟨_, rfl, by decide, inG (List.mem_of_getElem? (i := 42) (by decide +kernel)) rfl⟩
theorem fl_X5_32 : FLk RX5 32 5 6 := ⟨_, rfl, by decide, inG (List.mem_of_getElem? (i := 45) (by decide +kernel)) rfl⟩
theorem fl_X5_35 : FLk RX5 35 5 7 := ⟨_, rfl, by decide, inG (List.mem_of_getElem? (i := 48) (by decide +kernel)) rfl⟩
theorem fl_X5_38 : FLk RX5 38 5 9 := ⟨_, rfl, by decide, inG (List.mem_of_getElem? (i := 58) (by decide +kernel)) rfl⟩
theorem fl_X5_42 : FLk RX5 42 5 10 := ⟨_, rfl, by decide, inG (List.mem_of_getElem? (i := 61) (by decide +kernel)) rfl⟩
theorem fl_X5_45 : FLk RX5 45 5 12 := ⟨_, rfl, by decide, inG (List.mem_of_getElem? (i := 67) (by decide +kernel)) rfl⟩
theorem fl_X5_48 : FLk RX5 48 5 15 := ⟨_, rfl, by decide, inG (List.mem_of_getElem? (i := 76) (by decide +kernel)) rfl⟩
theorem fl_X5_57 : FLk RX5 57 5 8 := ⟨_, rfl, by decide, inG (List.mem_of_getElem? (i := 53) (by decide +kernel)) rfl⟩
theorem fl_X5_60 : FLk RX5 60 5 11 := ⟨_, rfl, by decide, inG (List.mem_of_getElem? (i := 64) (by decide +kernel)) rfl⟩
theorem fl_X5_63 : FLk RX5 63 5 13 := ⟨_, rfl, by decide, inG (List.mem_of_getElem? (i := 70) (by decide +kernel)) rfl⟩
theorem fl_X5_66 : FLk RX5 66 5 14 := ⟨_, rfl, by decide, inG (List.mem_of_getElem? (i := 74) (by decide +kernel)) rfl⟩
theorem fl_X7_7 : FLk RX7 7 7 0 := ⟨_, rfl, by decide, inG (List.mem_of_getElem? (i := 878) (by decide +kernel)) rfl⟩
theorem fl_X7_13 : FLk RX7 13 7 1 := ⟨_, rfl, by decide, inG (List.mem_of_getElem? (i := 879) (by decide +kernel)) rfl⟩
theorem fl_X7_16 : FLk RX7 16 7 2 := ⟨_, rfl, by decide, inG (List.mem_of_getElem? (i := 880) (by decide +kernel)) rfl⟩
theorem fl_X7_21 : FLk RX7 21 7 3 := ⟨_, rfl, by decide, inG (List.mem_of_getElem? (i := 881) (by decide +kernel)) rfl⟩
theorem fl_X7_24 : FLk RX7 24 7 4 := ⟨_, rfl, by decide, inG (List.mem_of_getElem? (i := 882) (by decide +kernel)) rfl⟩
theorem fl_X7_28 : FLk RX7 28 7 5 := ⟨_, rfl, by decide, inG (List.mem_of_getElem? (i := 883) (by decide +kernel)) rfl⟩
theorem fl_X7_31 : FLk RX7 31 7 6 := ⟨_, rfl, by decide, inG (List.mem_of_getElem? (i := 884) (by decide +kernel)) rfl⟩
theorem fl_X7_34 : FLk RX7 34 7 8 := ⟨_, rfl, by decide, inG (List.mem_of_getElem? (i := 886) (by decide +kernel)) rfl⟩
theorem fl_X7_37 : FLk RX7 37 7 10 := ⟨_, rfl, by decide, inG (List.mem_of_getElem? (i := 888) (by decide +kernel)) rfl⟩
theorem fl_X7_40 : FLk RX7 40 7 11 := ⟨_, rfl, by decide, inG (List.mem_of_getElem? (i := 889) (by decide +kernel)) rfl⟩
theorem fl_X7_43 : FLk RX7 43 7 12 := ⟨_, rfl, by decide, inG (List.mem_of_getElem? (i := 890) (by decide +kernel)) rfl⟩
theorem fl_X7_46 : FLk RX7 46 7 13 := ⟨_, rfl, by decide, inG (List.mem_of_getElem? (i := 891) (by decide +kernel)) rfl⟩
theorem fl_X7_49 : FLk RX7 49 7 14 := ⟨_, rfl, by decide, inG (List.mem_of_getElem? (i := 892) (by decide +kernel)) rfl⟩
theorem fl_X7_54 : FLk RX7 54 7 15 := ⟨_, rfl, by decide, inG (List.mem_of_getElem? (i := 893) (by decide +kernel)) rfl⟩
theorem fl_X7_57 : FLk RX7 57 7 16 := ⟨_, rfl, by decide, inG (List.mem_of_getElem? (i := 894) (by decide +kernel)) rfl⟩
theorem fl_X7_60 : FLk RX7 60 7 17 := ⟨_, rfl, by decide, inG (List.mem_of_getElem? (i := 895) (by decide +kernel)) rfl⟩
theorem fl_X7_64 : FLk RX7 64 7 18 := ⟨_, rfl, by decide, inG (List.mem_of_getElem? (i := 896) (by decide +kernel)) rfl⟩
theorem fl_X7_67 : FLk RX7 67 7 20 := ⟨_, rfl, by decide, inG (List.mem_of_getElem? (i := 898) (by decide +kernel)) rfl⟩
theorem fl_X7_70 : FLk RX7 70 7 23 := ⟨_, rfl, by decide, inG (List.mem_of_getElem? (i := 901) (by decide +kernel)) rfl⟩
theorem fl_X7_73 : FLk RX7 73 7 32 := ⟨_, rfl, by decide, inG (List.mem_of_getElem? (i := 910) (by decide +kernel)) rfl⟩
theorem fl_X7_76 : FLk RX7 76 7 34 := ⟨_, rfl, by decide, inG (List.mem_of_getElem? (i := 912) (by decide +kernel)) rfl⟩
theorem fl_X7_79 : FLk RX7 79 7 35 := ⟨_, rfl, by decide, inG (List.mem_of_getElem? (i := 913) (by decide +kernel)) rfl⟩
theorem fl_X7_82 : FLk RX7 82 7 9 := ⟨_, rfl, by decide, inG (List.mem_of_getElem? (i := 887) (by decide +kernel)) rfl⟩
theorem fl_X7_145 : FLk RX7 145 7 19 := ⟨_, rfl, by decide, inG (List.mem_of_getElem? (i := 897) (by decide +kernel)) rfl⟩
theorem fl_X7_148 : FLk RX7 148 7 21 := ⟨_, rfl, by decide, inG (List.mem_of_getElem? (i := 899) (by decide +kernel)) rfl⟩
theorem fl_X7_163 : FLk RX7 163 7 7 := ⟨_, rfl, by decide, inG (List.mem_of_getElem? (i := 885) (by decide +kernel)) rfl⟩
theorem fl_X7_166 : FLk RX7 166 7 27 := ⟨_, rfl, by decide, inG (List.mem_of_getElem? (i := 905) (by decide +kernel)) rfl⟩
theorem fl_X7_169 : FLk RX7 169 7 29 := ⟨_, rfl, by decide, inG (List.mem_of_getElem? (i := 907) (by decide +kernel)) rfl⟩
theorem fl_X7_172 : FLk RX7 172 7 30 := ⟨_, rfl, by decide, inG (List.mem_of_getElem? (i := 908) (by decide +kernel)) rfl⟩
theorem fl_X7_175 : FLk RX7 175 7 28 := ⟨_, rfl, by decide, inG (List.mem_of_getElem? (i := 906) (by decide +kernel)) rfl⟩
theorem fl_X7_184 : FLk RX7 184 7 31 := ⟨_, rfl, by decide, inG (List.mem_of_getElem? (i := 909) (by decide +kernel)) rfl⟩
theorem fl_X7_244 : FLk RX7 244 7 33 := ⟨_, rfl, by decide, inG (List.mem_of_getElem? (i := 911) (by decide +kernel)) rfl⟩
theorem fl_X7_274 : FLk RX7 274 7 22 := ⟨_, rfl, by decide, inG (List.mem_of_getElem? (i := 900) (by decide +kernel)) rfl⟩
theorem fl_X7_299 : FLk RX7 299 7 25 := ⟨_, rfl, by decide, inG (List.mem_of_getElem? (i := 903) (by decide +kernel)) rfl⟩
theorem fl_X7_308 : FLk RX7 308 7 36 := ⟨_, rfl, by decide, inG (List.mem_of_getElem? (i := 914) (by decide +kernel)) rfl⟩
theorem fl_X7_324 : FLk RX7 324 7 26 := ⟨_, rfl, by decide, inG (List.mem_of_getElem? (i := 904) (by decide +kernel)) rfl⟩
theorem fl_X7_330 : FLk RX7 330 7 37 := ⟨_, rfl, by decide, inG (List.mem_of_getElem? (i := 915) (by decide +kernel)) rfl⟩
theorem fl_X7_364 : FLk RX7 364 7 24 := ⟨_, rfl, by decide, inG (List.mem_of_getElem? (i := 902) (by decide +kernel)) rfl⟩
def mX6_init : MD := (yX6_init, cX6_init, 2, none, 0)
theorem okX6_init : MDok mX6_init := ⟨by decide +kernel, ⟨by decide +kernel, by decide +kernel, by decide +kernel⟩, by decide, inG (List.mem_of_getElem? (i := 19) (by decide +kernel)) rfl, inG (List.mem_of_getElem? (i := 1) (by decide +kernel)) rfl⟩
def mX6_again : MD := (yX6_again, cX6_again, 2, (some .int), 0)
theorem okX6_again : MDok mX6_again := ⟨by decide +kernel, ⟨by decide +kernel, by decide +kernel, by decide +kernel⟩, by decide, inG (List.mem_of_getElem? (i := 844) (by decide +kernel)) rfl, inG (List.mem_of_getElem? (i := 1) (by decide +kernel)) rfl⟩
def mX6_ask : MD := (yX6_ask, cX6_ask, 4, (some .int), 2)
theorem okX6_ask : MDok mX6_ask := ⟨by decide +kernel, ⟨by decide +kernel, by decide +kernel, by decide +kernel⟩, by decide, inG (List.mem_of_getElem? (i := 361) (by decide +kernel)) rfl, inG (List.mem_of_getElem? (i := 1) (by decide +kernel)) rfl⟩
def mX6_at : MD := (yX6_at, cX6_at, 2, (some .int), 1)
theorem okX6_at : MDok mX6_at := ⟨by decide +kernel, ⟨by decide +kernel, by decide +kernel, by decide +kernel⟩, by decide, inG (List.mem_of_getElem? (i := 595) (by decide +kernel)) rfl, inG (List.mem_of_getElem? (i := 1) (by decide +kernel)) rfl⟩
def mX6_back : MD := (yX6_back, cX6_back, 2, (some .int), 0)
theorem okX6_back : MDok mX6_back := ⟨by decide +kernel, ⟨by decide +kernel, by decide +kernel, by decide +kernel⟩, by decide, inG (List.mem_of_getElem? (i := 856) (by decide +kernel)) rfl, inG (List.mem_of_getElem? (i := 1) (by decide +kernel)) rfl⟩
def mX6_behind : MD := (yX6_behind, cX6_behind, 5, (some .int), 3)
theorem okX6_behind : MDok mX6_behind := ⟨by decide +kernel, ⟨by decide +kernel, by decide +kernel, by decide +kernel⟩, by decide, inG (List.mem_of_getElem? (i := 797) (by decide +kernel)) rfl, inG (List.mem_of_getElem? (i := 1) (by decide +kernel)) rfl⟩
def mX6_best : MD := (yX6_best, cX6_best, 3, (some .int), 1)
theorem okX6_best : MDok mX6_best := ⟨by decide +kernel, ⟨by decide +kernel, by decide +kernel, by decide +kernel⟩, by decide, inG (List.mem_of_getElem? (i := 813) (by decide +kernel)) rfl, inG (List.mem_of_getElem? (i := 1) (by decide +kernel)) rfl⟩
def mX6_booked : MD := (yX6_booked, cX6_booked, 4, (some .int), 2)
theorem okX6_booked : MDok mX6_booked := ⟨by decide +kernel, ⟨by decide +kernel, by decide +kernel, by decide +kernel⟩, by decide, inG (List.mem_of_getElem? (i := 801) (by decide +kernel)) rfl, inG (List.mem_of_getElem? (i := 1) (by decide +kernel)) rfl⟩
def mX6_call : MD := (yX6_call, cX6_call, 1, (some .int), 0)
theorem okX6_call : MDok mX6_call := ⟨by decide +kernel, ⟨by decide +kernel, by decide +kernel, by decide +kernel⟩, by decide, inG (List.mem_of_getElem? (i := 613) (by decide +kernel)) rfl, inG (List.mem_of_getElem? (i := 1) (by decide +kernel)) rfl⟩
def mX6_chainOf : MD := (yX6_chainOf, cX6_chainOf, 3, (some .int), 2)
theorem okX6_chainOf : MDok mX6_chainOf := ⟨by decide +kernel, ⟨by decide +kernel, by decide +kernel, by decide +kernel⟩, by decide, inG (List.mem_of_getElem? (i := 540) (by decide +kernel)) rfl, inG (List.mem_of_getElem? (i := 1) (by decide +kernel)) rfl⟩
def mX6_copy : MD := (yX6_copy, cX6_copy, 9, (some .int), 5)
theorem okX6_copy : MDok mX6_copy := ⟨by decide +kernel, ⟨by decide +kernel, by decide +kernel, by decide +kernel⟩, by decide, inG (List.mem_of_getElem? (i := 291) (by decide +kernel)) rfl, inG (List.mem_of_getElem? (i := 1) (by decide +kernel)) rfl⟩
def mX6_could : MD := (yX6_could, cX6_could, 6, (some .int), 2)
theorem okX6_could : MDok mX6_could := ⟨by decide +kernel, ⟨by decide +kernel, by decide +kernel, by decide +kernel⟩, by decide, inG (List.mem_of_getElem? (i := 775) (by decide +kernel)) rfl, inG (List.mem_of_getElem? (i := 1) (by decide +kernel)) rfl⟩
def mX6_element : MD := (yX6_element, cX6_element, 3, (some .long), 2)
theorem okX6_element : MDok mX6_element := ⟨by decide +kernel, ⟨by decide +kernel, by decide +kernel, by decide +kernel⟩, by decide, inG (List.mem_of_getElem? (i := 302) (by decide +kernel)) rfl, inG (List.mem_of_getElem? (i := 1) (by decide +kernel)) rfl⟩
def mX6_faultOfRow : MD := (yX6_faultOfRow, cX6_faultOfRow, 3, (some .int), 2)
theorem okX6_faultOfRow : MDok mX6_faultOfRow := ⟨by decide +kernel, ⟨by decide +kernel, by decide +kernel, by decide +kernel⟩, by decide, inG (List.mem_of_getElem? (i := 275) (by decide +kernel)) rfl, inG (List.mem_of_getElem? (i := 1) (by decide +kernel)) rfl⟩
def mX6_faultOfRunner : MD := (yX6_faultOfRunner, cX6_faultOfRunner, 3, (some .int), 2)
theorem okX6_faultOfRunner : MDok mX6_faultOfRunner := ⟨by decide +kernel, ⟨by decide +kernel, by decide +kernel, by decide +kernel⟩, by decide, inG (List.mem_of_getElem? (i := 586) (by decide +kernel)) rfl, inG (List.mem_of_getElem? (i := 1) (by decide +kernel)) rfl⟩
def mX6_feed : MD := (yX6_feed, cX6_feed, 2, (some .int), 1)
theorem okX6_feed : MDok mX6_feed := ⟨by decide +kernel, ⟨by decide +kernel, by decide +kernel, by decide +kernel⟩, by decide, inG (List.mem_of_getElem? (i := 368) (by decide +kernel)) rfl, inG (List.mem_of_getElem? (i := 1) (by decide +kernel)) rfl⟩
def mX6_first : MD := (yX6_first, cX6_first, 2, (some .int), 1)
theorem okX6_first : MDok mX6_first := ⟨by decide +kernel, ⟨by decide +kernel, by decide +kernel, by decide +kernel⟩, by decide, inG (List.mem_of_getElem? (i := 756) (by decide +kernel)) rfl, inG (List.mem_of_getElem? (i := 1) (by decide +kernel)) rfl⟩
def mX6_followBook : MD := (yX6_followBook, cX6_followBook, 9, (some .int), 2)
theorem okX6_followBook : MDok mX6_followBook := ⟨by decide +kernel, ⟨by decide +kernel, by decide +kernel, by decide +kernel⟩, by decide, inG (List.mem_of_getElem? (i := 784) (by decide +kernel)) rfl, inG (List.mem_of_getElem? (i := 1) (by decide +kernel)) rfl⟩
def mX6_game : MD := (yX6_game, cX6_game, 2, (some .int), 1)
theorem okX6_game : MDok mX6_game := ⟨by decide +kernel, ⟨by decide +kernel, by decide +kernel, by decide +kernel⟩, by decide, inG (List.mem_of_getElem? (i := 729) (by decide +kernel)) rfl, inG (List.mem_of_getElem? (i := 1) (by decide +kernel)) rfl⟩
def mX6_hardest : MD := (yX6_hardest, cX6_hardest, 2, (some .int), 1)
theorem okX6_hardest : MDok mX6_hardest := ⟨by decide +kernel, ⟨by decide +kernel, by decide +kernel, by decide +kernel⟩, by decide, inG (List.mem_of_getElem? (i := 574) (by decide +kernel)) rfl, inG (List.mem_of_getElem? (i := 1) (by decide +kernel)) rfl⟩
def mX6_holds : MD := (yX6_holds, cX6_holds, 2, (some .int), 1)
theorem okX6_holds : MDok mX6_holds := ⟨by decide +kernel, ⟨by decide +kernel, by decide +kernel, by decide +kernel⟩, by decide, inG (List.mem_of_getElem? (i := 306) (by decide +kernel)) rfl, inG (List.mem_of_getElem? (i := 1) (by decide +kernel)) rfl⟩
def mX6_image : MD := (yX6_image, cX6_image, 1, (some .int), 0)
theorem okX6_image : MDok mX6_image := ⟨by decide +kernel, ⟨by decide +kernel, by decide +kernel, by decide +kernel⟩, by decide, inG (List.mem_of_getElem? (i := 852) (by decide +kernel)) rfl, inG (List.mem_of_getElem? (i := 1) (by decide +kernel)) rfl⟩
def mX6_isChain : MD := (yX6_isChain, cX6_isChain, 1, (some .boolean), 1)
theorem okX6_isChain : MDok mX6_isChain := ⟨by decide +kernel, ⟨by decide +kernel, by decide +kernel, by decide +kernel⟩, by decide, inG (List.mem_of_getElem? (i := 342) (by decide +kernel)) rfl, inG (List.mem_of_getElem? (i := 1) (by decide +kernel)) rfl⟩
def mX6_isLevel : MD := (yX6_isLevel, cX6_isLevel, 1, (some .boolean), 1)
theorem okX6_isLevel : MDok mX6_isLevel := ⟨by decide +kernel, ⟨by decide +kernel, by decide +kernel, by decide +kernel⟩, by decide, inG (List.mem_of_getElem? (i := 345) (by decide +kernel)) rfl, inG (List.mem_of_getElem? (i := 1) (by decide +kernel)) rfl⟩
def mX6_isOrderOf : MD := (yX6_isOrderOf, cX6_isOrderOf, 8, (some .boolean), 2)
theorem okX6_isOrderOf : MDok mX6_isOrderOf := ⟨by decide +kernel, ⟨by decide +kernel, by decide +kernel, by decide +kernel⟩, by decide, inG (List.mem_of_getElem? (i := 809) (by decide +kernel)) rfl, inG (List.mem_of_getElem? (i := 1) (by decide +kernel)) rfl⟩
def mX6_isRule : MD := (yX6_isRule, cX6_isRule, 1, (some .boolean), 1)
theorem okX6_isRule : MDok mX6_isRule := ⟨by decide +kernel, ⟨by decide +kernel, by decide +kernel, by decide +kernel⟩, by decide, inG (List.mem_of_getElem? (i := 649) (by decide +kernel)) rfl, inG (List.mem_of_getElem? (i := 1) (by decide +kernel)) rfl⟩
def mX6_isShelf : MD := (yX6_isShelf, cX6_isShelf, 1, (some .boolean), 1)
theorem okX6_isShelf : MDok mX6_isShelf := ⟨by decide +kernel, ⟨by decide +kernel, by decide +kernel, by decide +kernel⟩, by decide, inG (List.mem_of_getElem? (i := 259) (by decide +kernel)) rfl, inG (List.mem_of_getElem? (i := 1) (by decide +kernel)) rfl⟩
def mX6_isUnder : MD := (yX6_isUnder, cX6_isUnder, 4, (some .boolean), 2)
theorem okX6_isUnder : MDok mX6_isUnder := ⟨by decide +kernel, ⟨by decide +kernel, by decide +kernel, by decide +kernel⟩, by decide, inG (List.mem_of_getElem? (i := 321) (by decide +kernel)) rfl, inG (List.mem_of_getElem? (i := 1) (by decide +kernel)) rfl⟩
def mX6_judge : MD := (yX6_judge, cX6_judge, 4, (some .int), 2)
theorem okX6_judge : MDok mX6_judge := ⟨by decide +kernel, ⟨by decide +kernel, by decide +kernel, by decide +kernel⟩, by decide, inG (List.mem_of_getElem? (i := 780) (by decide +kernel)) rfl, inG (List.mem_of_getElem? (i := 1) (by decide +kernel)) rfl⟩
def mX6_leads : MD := (yX6_leads, cX6_leads, 2, (some .int), 1)
theorem okX6_leads : MDok mX6_leads := ⟨by decide +kernel, ⟨by decide +kernel, by decide +kernel, by decide +kernel⟩, by decide, inG (List.mem_of_getElem? (i := 725) (by decide +kernel)) rfl, inG (List.mem_of_getElem? (i := 1) (by decide +kernel)) rfl⟩
def mX6_mayBeAsked : MD := (yX6_mayBeAsked, cX6_mayBeAsked, 2, (some .boolean), 2)
theorem okX6_mayBeAsked : MDok mX6_mayBeAsked := ⟨by decide +kernel, ⟨by decide +kernel, by decide +kernel, by decide +kernel⟩, by decide, inG (List.mem_of_getElem? (i := 364) (by decide +kernel)) rfl, inG (List.mem_of_getElem? (i := 1) (by decide +kernel)) rfl⟩
def mX6_move : MD := (yX6_move, cX6_move, 5, (some .int), 2)
theorem okX6_move : MDok mX6_move := ⟨by decide +kernel, ⟨by decide +kernel, by decide +kernel, by decide +kernel⟩, by decide, inG (List.mem_of_getElem? (i := 692) (by decide +kernel)) rfl, inG (List.mem_of_getElem? (i := 1) (by decide +kernel)) rfl⟩
def mX6_odds : MD := (yX6_odds, cX6_odds, 4, (some .int), 2)
theorem okX6_odds : MDok mX6_odds := ⟨by decide +kernel, ⟨by decide +kernel, by decide +kernel, by decide +kernel⟩, by decide, inG (List.mem_of_getElem? (i := 582) (by decide +kernel)) rfl, inG (List.mem_of_getElem? (i := 1) (by decide +kernel)) rfl⟩
def mX6_one : MD := (yX6_one, cX6_one, 6, (some .int), 5)
theorem okX6_one : MDok mX6_one := ⟨by decide +kernel, ⟨by decide +kernel, by decide +kernel, by decide +kernel⟩, by decide, inG (List.mem_of_getElem? (i := 339) (by decide +kernel)) rfl, inG (List.mem_of_getElem? (i := 1) (by decide +kernel)) rfl⟩
def mX6_oneOf : MD := (yX6_oneOf, cX6_oneOf, 3, (some .int), 2)
theorem okX6_oneOf : MDok mX6_oneOf := ⟨by decide +kernel, ⟨by decide +kernel, by decide +kernel, by decide +kernel⟩, by decide, inG (List.mem_of_getElem? (i := 532) (by decide +kernel)) rfl, inG (List.mem_of_getElem? (i := 1) (by decide +kernel)) rfl⟩
def mX6_order : MD := (yX6_order, cX6_order, 6, (some .int), 2)
theorem okX6_order : MDok mX6_order := ⟨by decide +kernel, ⟨by decide +kernel, by decide +kernel, by decide +kernel⟩, by decide, inG (List.mem_of_getElem? (i := 805) (by decide +kernel)) rfl, inG (List.mem_of_getElem? (i := 1) (by decide +kernel)) rfl⟩
def mX6_ordersTogether : MD := (yX6_ordersTogether, cX6_ordersTogether, 6, (some .int), 2)
theorem okX6_ordersTogether : MDok mX6_ordersTogether := ⟨by decide +kernel, ⟨by decide +kernel, by decide +kernel, by decide +kernel⟩, by decide, inG (List.mem_of_getElem? (i := 763) (by decide +kernel)) rfl, inG (List.mem_of_getElem? (i := 1) (by decide +kernel)) rfl⟩
def mX6_over : MD := (yX6_over, cX6_over, 1, (some .int), 0)
theorem okX6_over : MDok mX6_over := ⟨by decide +kernel, ⟨by decide +kernel, by decide +kernel, by decide +kernel⟩, by decide, inG (List.mem_of_getElem? (i := 642) (by decide +kernel)) rfl, inG (List.mem_of_getElem? (i := 1) (by decide +kernel)) rfl⟩
def mX6_pair : MD := (yX6_pair, cX6_pair, 1, (some .int), 0)
theorem okX6_pair : MDok mX6_pair := ⟨by decide +kernel, ⟨by decide +kernel, by decide +kernel, by decide +kernel⟩, by decide, inG (List.mem_of_getElem? (i := 698) (by decide +kernel)) rfl, inG (List.mem_of_getElem? (i := 1) (by decide +kernel)) rfl⟩
def mX6_play : MD := (yX6_play, cX6_play, 3, (some .int), 2)
theorem okX6_play : MDok mX6_play := ⟨by decide +kernel, ⟨by decide +kernel, by decide +kernel, by decide +kernel⟩, by decide, inG (List.mem_of_getElem? (i := 646) (by decide +kernel)) rfl, inG (List.mem_of_getElem? (i := 1) (by decide +kernel)) rfl⟩
def mX6_refuse : MD := (yX6_refuse, cX6_refuse, 3, (some .int), 1)
theorem okX6_refuse : MDok mX6_refuse := ⟨by decide +kernel, ⟨by decide +kernel, by decide +kernel, by decide +kernel⟩, by decide, inG (List.mem_of_getElem? (i := 263) (by decide +kernel)) rfl, inG (List.mem_of_getElem? (i := 1) (by decide +kernel)) rfl⟩
def mX6_rest : MD := (yX6_rest, cX6_rest, 2, (some .int), 1)
theorem okX6_rest : MDok mX6_rest := ⟨by decide +kernel, ⟨by decide +kernel, by decide +kernel, by decide +kernel⟩, by decide, inG (List.mem_of_getElem? (i := 835) (by decide +kernel)) rfl, inG (List.mem_of_getElem? (i := 1) (by decide +kernel)) rfl⟩
def mX6_row : MD := (yX6_row, cX6_row, 4, (some .int), 3)
theorem okX6_row : MDok mX6_row := ⟨by decide +kernel, ⟨by decide +kernel, by decide +kernel, by decide +kernel⟩, by decide, inG (List.mem_of_getElem? (i := 256) (by decide +kernel)) rfl, inG (List.mem_of_getElem? (i := 1) (by decide +kernel)) rfl⟩
def mX6_run : MD := (yX6_run, cX6_run, 4, (some .int), 3)
theorem okX6_run : MDok mX6_run := ⟨by decide +kernel, ⟨by decide +kernel, by decide +kernel, by decide +kernel⟩, by decide, inG (List.mem_of_getElem? (i := 817) (by decide +kernel)) rfl, inG (List.mem_of_getElem? (i := 1) (by decide +kernel)) rfl⟩
def mX6_runs : MD := (yX6_runs, cX6_runs, 6, (some .int), 1)
theorem okX6_runs : MDok mX6_runs := ⟨by decide +kernel, ⟨by decide +kernel, by decide +kernel, by decide +kernel⟩, by decide, inG (List.mem_of_getElem? (i := 831) (by decide +kernel)) rfl, inG (List.mem_of_getElem? (i := 1) (by decide +kernel)) rfl⟩
def mX6_says : MD := (yX6_says, cX6_says, 4, (some .int), 2)
theorem okX6_says : MDok mX6_says := ⟨by decide +kernel, ⟨by decide +kernel, by decide +kernel, by decide +kernel⟩, by decide, inG (List.mem_of_getElem? (i := 318) (by decide +kernel)) rfl, inG (List.mem_of_getElem? (i := 1) (by decide +kernel)) rfl⟩
def mX6_seed : MD := (yX6_seed, cX6_seed, 3, (some .int), 1)
theorem okX6_seed : MDok mX6_seed := ⟨by decide +kernel, ⟨by decide +kernel, by decide +kernel, by decide +kernel⟩, by decide, inG (List.mem_of_getElem? (i := 848) (by decide +kernel)) rfl, inG (List.mem_of_getElem? (i := 1) (by decide +kernel)) rfl⟩
def mX6_set : MD := (yX6_set, cX6_set, 6, (some .int), 3)
theorem okX6_set : MDok mX6_set := ⟨by decide +kernel, ⟨by decide +kernel, by decide +kernel, by decide +kernel⟩, by decide, inG (List.mem_of_getElem? (i := 271) (by decide +kernel)) rfl, inG (List.mem_of_getElem? (i := 1) (by decide +kernel)) rfl⟩
def mX6_shelvesInUse : MD := (yX6_shelvesInUse, cX6_shelvesInUse, 3, (some .int), 0)
theorem okX6_shelvesInUse : MDok mX6_shelvesInUse := ⟨by decide +kernel, ⟨by decide +kernel, by decide +kernel, by decide +kernel⟩, by decide, inG (List.mem_of_getElem? (i := 868) (by decide +kernel)) rfl, inG (List.mem_of_getElem? (i := 1) (by decide +kernel)) rfl⟩
def mX6_show : MD := (yX6_show, cX6_show, 3, (some .int), 2)
theorem okX6_show : MDok mX6_show := ⟨by decide +kernel, ⟨by decide +kernel, by decide +kernel, by decide +kernel⟩, by decide, inG (List.mem_of_getElem? (i := 310) (by decide +kernel)) rfl, inG (List.mem_of_getElem? (i := 1) (by decide +kernel)) rfl⟩
def mX6_spreadFor : MD := (yX6_spreadFor, cX6_spreadFor, 5, (some .int), 2)
theorem okX6_spreadFor : MDok mX6_spreadFor := ⟨by decide +kernel, ⟨by decide +kernel, by decide +kernel, by decide +kernel⟩, by decide, inG (List.mem_of_getElem? (i := 714) (by decide +kernel)) rfl, inG (List.mem_of_getElem? (i := 1) (by decide +kernel)) rfl⟩
def mX6_stand : MD := (yX6_stand, cX6_stand, 4, (some .int), 2)
theorem okX6_stand : MDok mX6_stand := ⟨by decide +kernel, ⟨by decide +kernel, by decide +kernel, by decide +kernel⟩, by decide, inG (List.mem_of_getElem? (i := 666) (by decide +kernel)) rfl, inG (List.mem_of_getElem? (i := 1) (by decide +kernel)) rfl⟩
def mX6_status : MD := (yX6_status, cX6_status, 2, (some .int), 1)
theorem okX6_status : MDok mX6_status := ⟨by decide +kernel, ⟨by decide +kernel, by decide +kernel, by decide +kernel⟩, by decide, inG (List.mem_of_getElem? (i := 860) (by decide +kernel)) rfl, inG (List.mem_of_getElem? (i := 1) (by decide +kernel)) rfl⟩
def mX6_strength : MD := (yX6_strength, cX6_strength, 3, (some .int), 2)
theorem okX6_strength : MDok mX6_strength := ⟨by decide +kernel, ⟨by decide +kernel, by decide +kernel, by decide +kernel⟩, by decide, inG (List.mem_of_getElem? (i := 548) (by decide +kernel)) rfl, inG (List.mem_of_getElem? (i := 1) (by decide +kernel)) rfl⟩
def mX6_strongest : MD := (yX6_strongest, cX6_strongest, 2, (some .int), 1)
theorem okX6_strongest : MDok mX6_strongest := ⟨by decide +kernel, ⟨by decide +kernel, by decide +kernel, by decide +kernel⟩, by decide, inG (List.mem_of_getElem? (i := 566) (by decide +kernel)) rfl, inG (List.mem_of_getElem? (i := 1) (by decide +kernel)) rfl⟩
def mX6_swap : MD := (yX6_swap, cX6_swap, 7, (some .int), 2)
theorem okX6_swap : MDok mX6_swap := ⟨by decide +kernel, ⟨by decide +kernel, by decide +kernel, by decide +kernel⟩, by decide, inG (List.mem_of_getElem? (i := 767) (by decide +kernel)) rfl, inG (List.mem_of_getElem? (i := 1) (by decide +kernel)) rfl⟩
def mX6_take : MD := (yX6_take, cX6_take, 2, (some .int), 1)
theorem okX6_take : MDok mX6_take := ⟨by decide +kernel, ⟨by decide +kernel, by decide +kernel, by decide +kernel⟩, by decide, inG (List.mem_of_getElem? (i := 605) (by decide +kernel)) rfl, inG (List.mem_of_getElem? (i := 1) (by decide +kernel)) rfl⟩
def mX6_tell : MD := (yX6_tell, cX6_tell, 6, (some .int), 3)
theorem okX6_tell : MDok mX6_tell := ⟨by decide +kernel, ⟨by decide +kernel, by decide +kernel, by decide +kernel⟩, by decide, inG (List.mem_of_getElem? (i := 357) (by decide +kernel)) rfl, inG (List.mem_of_getElem? (i := 1) (by decide +kernel)) rfl⟩
def mX6_tiredest : MD := (yX6_tiredest, cX6_tiredest, 1, (some .int), 0)
theorem okX6_tiredest : MDok mX6_tiredest := ⟨by decide +kernel, ⟨by decide +kernel, by decide +kernel, by decide +kernel⟩, by decide, inG (List.mem_of_getElem? (i := 706) (by decide +kernel)) rfl, inG (List.mem_of_getElem? (i := 1) (by decide +kernel)) rfl⟩
def mX6_together : MD := (yX6_together, cX6_together, 2, (some .int), 1)
theorem okX6_together : MDok mX6_together := ⟨by decide +kernel, ⟨by decide +kernel, by decide +kernel, by decide +kernel⟩, by decide, inG (List.mem_of_getElem? (i := 760) (by decide +kernel)) rfl, inG (List.mem_of_getElem? (i := 1) (by decide +kernel)) rfl⟩
def mX6_weakest : MD := (yX6_weakest, cX6_weakest, 2, (some .int), 1)
theorem okX6_weakest : MDok mX6_weakest := ⟨by decide +kernel, ⟨by decide +kernel, by decide +kernel, by decide +kernel⟩, by decide, inG (List.mem_of_getElem? (i := 557) (by decide +kernel)) rfl, inG (List.mem_of_getElem? (i := 1) (by decide +kernel)) rfl⟩
def mX6_wipe : MD := (yX6_wipe, cX6_wipe, 1, (some .int), 0)
theorem okX6_wipe : MDok mX6_wipe := ⟨by decide +kernel, ⟨by decide +kernel, by decide +kernel, by decide +kernel⟩, by decide, inG (List.mem_of_getElem? (i := 376) (by decide +kernel)) rfl, inG (List.mem_of_getElem? (i := 1) (by decide +kernel)) rfl⟩
def mX6_won : MD := (yX6_won, cX6_won, 1, (some .int), 0)
theorem okX6_won : MDok mX6_won := ⟨by decide +kernel, ⟨by decide +kernel, by decide +kernel, by decide +kernel⟩, by decide, inG (List.mem_of_getElem? (i := 629) (by decide +kernel)) rfl, inG (List.mem_of_getElem? (i := 1) (by decide +kernel)) rfl⟩
def mX6_worth : MD := (yX6_worth, cX6_worth, 2, (some .int), 1)
theorem okX6_worth : MDok mX6_worth := ⟨by decide +kernel, ⟨by decide +kernel, by decide +kernel, by decide +kernel⟩, by decide, inG (List.mem_of_getElem? (i := 687) (by decide +kernel)) rfl, inG (List.mem_of_getElem? (i := 1) (by decide +kernel)) rfl⟩
def mX6_yard : MD := (yX6_yard, cX6_yard, 2, (some .int), 0)
theorem okX6_yard : MDok mX6_yard := ⟨by decide +kernel, ⟨by decide +kernel, by decide +kernel, by decide +kernel⟩, by decide, inG (List.mem_of_getElem? (i := 384) (by decide +kernel)) rfl, inG (List.mem_of_getElem? (i := 1) (by decide +kernel)) rfl⟩
def mX6_yardsFor : MD := (yX6_yardsFor, cX6_yardsFor, 6, (some .int), 2)
theorem okX6_yardsFor : MDok mX6_yardsFor := ⟨by decide +kernel, ⟨by decide +kernel, by decide +kernel, by decide +kernel⟩, by decide, inG (List.mem_of_getElem? (i := 721) (by decide +kernel)) rfl, inG (List.mem_of_getElem? (i := 1) (by decide +kernel)) rfl⟩
def mX0_init : MD := (yX0_init, cX0_init, 3, none, 1)
theorem okX0_init : MDok mX0_init := ⟨by decide +kernel, ⟨by decide +kernel, by decide +kernel, by decide +kernel⟩, by decide, inG (List.mem_of_getElem? (i := 134) (by decide +kernel)) rfl, inG (List.mem_of_getElem? (i := 4) (by decide +kernel)) rfl⟩
def mX0_leastByRun : MD := (yX0_leastByRun, cX0_leastByRun, 7, (some .int), 2)
theorem okX0_leastByRun : MDok mX0_leastByRun := ⟨by decide +kernel, ⟨by decide +kernel, by decide +kernel, by decide +kernel⟩, by decide, inG (List.mem_of_getElem? (i := 744) (by decide +kernel)) rfl, inG (List.mem_of_getElem? (i := 4) (by decide +kernel)) rfl⟩
def mX0_mostByCall : MD := (yX0_mostByCall, cX0_mostByCall, 7, (some .int), 1)
theorem okX0_mostByCall : MDok mX0_mostByCall := ⟨by decide +kernel, ⟨by decide +kernel, by decide +kernel, by decide +kernel⟩, by decide, inG (List.mem_of_getElem? (i := 738) (by decide +kernel)) rfl, inG (List.mem_of_getElem? (i := 4) (by decide +kernel)) rfl⟩
def mX0_valueBehind : MD := (yX0_valueBehind, cX0_valueBehind, 5, (some .int), 4)
theorem okX0_valueBehind : MDok mX0_valueBehind := ⟨by decide +kernel, ⟨by decide +kernel, by decide +kernel, by decide +kernel⟩, by decide, inG (List.mem_of_getElem? (i := 750) (by decide +kernel)) rfl, inG (List.mem_of_getElem? (i := 4) (by decide +kernel)) rfl⟩
def mX0_valueFrom : MD := (yX0_valueFrom, cX0_valueFrom, 3, (some .int), 2)
theorem okX0_valueFrom : MDok mX0_valueFrom := ⟨by decide +kernel, ⟨by decide +kernel, by decide +kernel, by decide +kernel⟩, by decide, inG (List.mem_of_getElem? (i := 733) (by decide +kernel)) rfl, inG (List.mem_of_getElem? (i := 4) (by decide +kernel)) rfl⟩
def mX1_init : MD := (yX1_init, cX1_init, 1, none, 0)
theorem okX1_init : MDok mX1_init := ⟨by decide +kernel, ⟨by decide +kernel, by decide +kernel, by decide +kernel⟩, by decide, inG (List.mem_of_getElem? (i := 151) (by decide +kernel)) rfl, inG (List.mem_of_getElem? (i := 5) (by decide +kernel)) rfl⟩
def mX1_fillFrom : MD := (yX1_fillFrom, cX1_fillFrom, 6, none, 2)
theorem okX1_fillFrom : MDok mX1_fillFrom := ⟨by decide +kernel, ⟨by decide +kernel, by decide +kernel, by decide +kernel⟩, by decide, inG (List.mem_of_getElem? (i := 676) (by decide +kernel)) rfl, inG (List.mem_of_getElem? (i := 5) (by decide +kernel)) rfl⟩
def mX1_findBest : MD := (yX1_findBest, cX1_findBest, 4, (some .int), 2)
theorem okX1_findBest : MDok mX1_findBest := ⟨by decide +kernel, ⟨by decide +kernel, by decide +kernel, by decide +kernel⟩, by decide, inG (List.mem_of_getElem? (i := 670) (by decide +kernel)) rfl, inG (List.mem_of_getElem? (i := 5) (by decide +kernel)) rfl⟩
def mX1_strengthBehind : MD := (yX1_strengthBehind, cX1_strengthBehind, 5, (some .int), 2)
theorem okX1_strengthBehind : MDok mX1_strengthBehind := ⟨by decide +kernel, ⟨by decide +kernel, by decide +kernel, by decide +kernel⟩, by decide, inG (List.mem_of_getElem? (i := 680) (by decide +kernel)) rfl, inG (List.mem_of_getElem? (i := 5) (by decide +kernel)) rfl⟩
def mX2_init : MD := (yX2_init, cX2_init, 2, none, 1)
theorem okX2_init : MDok mX2_init := ⟨by decide +kernel, ⟨by decide +kernel, by decide +kernel, by decide +kernel⟩, by decide, inG (List.mem_of_getElem? (i := 116) (by decide +kernel)) rfl, inG (List.mem_of_getElem? (i := 3) (by decide +kernel)) rfl⟩
def mX2_playFrom : MD := (yX2_playFrom, cX2_playFrom, 9, none, 2)
theorem okX2_playFrom : MDok mX2_playFrom := ⟨by decide +kernel, ⟨by decide +kernel, by decide +kernel, by decide +kernel⟩, by decide, inG (List.mem_of_getElem? (i := 653) (by decide +kernel)) rfl, inG (List.mem_of_getElem? (i := 3) (by decide +kernel)) rfl⟩
def mX3_init : MD := (yX3_init, cX3_init, 1, none, 0)
theorem okX3_init : MDok mX3_init := ⟨by decide +kernel, ⟨by decide +kernel, by decide +kernel, by decide +kernel⟩, by decide, inG (List.mem_of_getElem? (i := 206) (by decide +kernel)) rfl, inG (List.mem_of_getElem? (i := 7) (by decide +kernel)) rfl⟩
def mX3_hasStretch : MD := (yX3_hasStretch, cX3_hasStretch, 3, (some .boolean), 2)
theorem okX3_hasStretch : MDok mX3_hasStretch := ⟨by decide +kernel, ⟨by decide +kernel, by decide +kernel, by decide +kernel⟩, by decide, inG (List.mem_of_getElem? (i := 295) (by decide +kernel)) rfl, inG (List.mem_of_getElem? (i := 7) (by decide +kernel)) rfl⟩
def mX3_isRow : MD := (yX3_isRow, cX3_isRow, 1, (some .boolean), 0)
theorem okX3_isRow : MDok mX3_isRow := ⟨by decide +kernel, ⟨by decide +kernel, by decide +kernel, by decide +kernel⟩, by decide, inG (List.mem_of_getElem? (i := 283) (by decide +kernel)) rfl, inG (List.mem_of_getElem? (i := 7) (by decide +kernel)) rfl⟩
def mX3_isSomebody : MD := (yX3_isSomebody, cX3_isSomebody, 1, (some .boolean), 0)
theorem okX3_isSomebody : MDok mX3_isSomebody := ⟨by decide +kernel, ⟨by decide +kernel, by decide +kernel, by decide +kernel⟩, by decide, inG (List.mem_of_getElem? (i := 279) (by decide +kernel)) rfl, inG (List.mem_of_getElem? (i := 7) (by decide +kernel)) rfl⟩
def mX3_putElement : MD := (yX3_putElement, cX3_putElement, 4, none, 2)
theorem okX3_putElement : MDok mX3_putElement := ⟨by decide +kernel, ⟨by decide +kernel, by decide +kernel, by decide +kernel⟩, by decide, inG (List.mem_of_getElem? (i := 287) (by decide +kernel)) rfl, inG (List.mem_of_getElem? (i := 7) (by decide +kernel)) rfl⟩
def mX3_putRow : MD := (yX3_putRow, cX3_putRow, 4, none, 2)
theorem okX3_putRow : MDok mX3_putRow := ⟨by decide +kernel, ⟨by decide +kernel, by decide +kernel, by decide +kernel⟩, by decide, inG (List.mem_of_getElem? (i := 267) (by decide +kernel)) rfl, inG (List.mem_of_getElem? (i := 7) (by decide +kernel)) rfl⟩
def mX4_init : MD := (yX4_init, cX4_init, 1, none, 0)
theorem okX4_init : MDok mX4_init := ⟨by decide +kernel, ⟨by decide +kernel, by decide +kernel, by decide +kernel⟩, by decide, inG (List.mem_of_getElem? (i := 178) (by decide +kernel)) rfl, inG (List.mem_of_getElem? (i := 6) (by decide +kernel)) rfl⟩
def mX4_append : MD := (yX4_append, cX4_append, 2, (some .int), 1)
theorem okX4_append : MDok mX4_append := ⟨by decide +kernel, ⟨by decide +kernel, by decide +kernel, by decide +kernel⟩, by decide, inG (List.mem_of_getElem? (i := 372) (by decide +kernel)) rfl, inG (List.mem_of_getElem? (i := 6) (by decide +kernel)) rfl⟩
def mX4_clear : MD := (yX4_clear, cX4_clear, 2, (some .int), 0)
theorem okX4_clear : MDok mX4_clear := ⟨by decide +kernel, ⟨by decide +kernel, by decide +kernel, by decide +kernel⟩, by decide, inG (List.mem_of_getElem? (i := 380) (by decide +kernel)) rfl, inG (List.mem_of_getElem? (i := 6) (by decide +kernel)) rfl⟩
def mX4_isWord : MD := (yX4_isWord, cX4_isWord, 3, (some .boolean), 1)
theorem okX4_isWord : MDok mX4_isWord := ⟨by decide +kernel, ⟨by decide +kernel, by decide +kernel, by decide +kernel⟩, by decide, inG (List.mem_of_getElem? (i := 409) (by decide +kernel)) rfl, inG (List.mem_of_getElem? (i := 6) (by decide +kernel)) rfl⟩
def mX4_number : MD := (yX4_number, cX4_number, 4, (some .int), 2)
theorem okX4_number : MDok mX4_number := ⟨by decide +kernel, ⟨by decide +kernel, by decide +kernel, by decide +kernel⟩, by decide, inG (List.mem_of_getElem? (i := 465) (by decide +kernel)) rfl, inG (List.mem_of_getElem? (i := 6) (by decide +kernel)) rfl⟩
def mX4_numberBehindWord : MD := (yX4_numberBehindWord, cX4_numberBehindWord, 3, (some .int), 2)
theorem okX4_numberBehindWord : MDok mX4_numberBehindWord := ⟨by decide +kernel, ⟨by decide +kernel, by decide +kernel, by decide +kernel⟩, by decide, inG (List.mem_of_getElem? (i := 524) (by decide +kernel)) rfl, inG (List.mem_of_getElem? (i := 6) (by decide +kernel)) rfl⟩
def mX4_readInto : MD := (yX4_readInto, cX4_readInto, 3, (some .int), 1)
theorem okX4_readInto : MDok mX4_readInto := ⟨by decide +kernel, ⟨by decide +kernel, by decide +kernel, by decide +kernel⟩, by decide, inG (List.mem_of_getElem? (i := 393) (by decide +kernel)) rfl, inG (List.mem_of_getElem? (i := 6) (by decide +kernel)) rfl⟩
def mX4_readOne : MD := (yX4_readOne, cX4_readOne, 7, none, 1)
theorem okX4_readOne : MDok mX4_readOne := ⟨by decide +kernel, ⟨by decide +kernel, by decide +kernel, by decide +kernel⟩, by decide, inG (List.mem_of_getElem? (i := 461) (by decide +kernel)) rfl, inG (List.mem_of_getElem? (i := 6) (by decide +kernel)) rfl⟩
def mX4_readRun : MD := (yX4_readRun, cX4_readRun, 7, none, 1)
theorem okX4_readRun : MDok mX4_readRun := ⟨by decide +kernel, ⟨by decide +kernel, by decide +kernel, by decide +kernel⟩, by decide, inG (List.mem_of_getElem? (i := 480) (by decide +kernel)) rfl, inG (List.mem_of_getElem? (i := 6) (by decide +kernel)) rfl⟩
def mX4_readStatement : MD := (yX4_readStatement, cX4_readStatement, 2, none, 1)
theorem okX4_readStatement : MDok mX4_readStatement := ⟨by decide +kernel, ⟨by decide +kernel, by decide +kernel, by decide +kernel⟩, by decide, inG (List.mem_of_getElem? (i := 404) (by decide +kernel)) rfl, inG (List.mem_of_getElem? (i := 6) (by decide +kernel)) rfl⟩
def mX4_readTired : MD := (yX4_readTired, cX4_readTired, 4, none, 1)
theorem okX4_readTired : MDok mX4_readTired := ⟨by decide +kernel, ⟨by decide +kernel, by decide +kernel, by decide +kernel⟩, by decide, inG (List.mem_of_getElem? (i := 475) (by decide +kernel)) rfl, inG (List.mem_of_getElem? (i := 6) (by decide +kernel)) rfl⟩
def mX4_sortOf : MD := (yX4_sortOf, cX4_sortOf, 1, (some .int), 1)
theorem okX4_sortOf : MDok mX4_sortOf := ⟨by decide +kernel, ⟨by decide +kernel, by decide +kernel, by decide +kernel⟩, by decide, inG (List.mem_of_getElem? (i := 400) (by decide +kernel)) rfl, inG (List.mem_of_getElem? (i := 6) (by decide +kernel)) rfl⟩
def mX4_toNextToken : MD := (yX4_toNextToken, cX4_toNextToken, 1, none, 0)
theorem okX4_toNextToken : MDok mX4_toNextToken := ⟨by decide +kernel, ⟨by decide +kernel, by decide +kernel, by decide +kernel⟩, by decide, inG (List.mem_of_getElem? (i := 397) (by decide +kernel)) rfl, inG (List.mem_of_getElem? (i := 6) (by decide +kernel)) rfl⟩
def mX4_valueOfToken : MD := (yX4_valueOfToken, cX4_valueOfToken, 3, (some .int), 0)
theorem okX4_valueOfToken : MDok mX4_valueOfToken := ⟨by decide +kernel, ⟨by decide +kernel, by decide +kernel, by decide +kernel⟩, by decide, inG (List.mem_of_getElem? (i := 469) (by decide +kernel)) rfl, inG (List.mem_of_getElem? (i := 6) (by decide +kernel)) rfl⟩
def mX5_init : MD := (yX5_init, cX5_init, 1, none, 0)
theorem okX5_init : MDok mX5_init := ⟨by decide +kernel, ⟨by decide +kernel, by decide +kernel, by decide +kernel⟩, by decide, inG (List.mem_of_getElem? (i := 27) (by decide +kernel)) rfl, inG (List.mem_of_getElem? (i := 2) (by decide +kernel)) rfl⟩
def mX5_add : MD := (yX5_add, cX5_add, 7, (some .int), 5)
theorem okX5_add : MDok mX5_add := ⟨by decide +kernel, ⟨by decide +kernel, by decide +kernel, by decide +kernel⟩, by decide, inG (List.mem_of_getElem? (i := 349) (by decide +kernel)) rfl, inG (List.mem_of_getElem? (i := 2) (by decide +kernel)) rfl⟩
def mX5_allTired : MD := (yX5_allTired, cX5_allTired, 3, (some .int), 0)
theorem okX5_allTired : MDok mX5_allTired := ⟨by decide +kernel, ⟨by decide +kernel, by decide +kernel, by decide +kernel⟩, by decide, inG (List.mem_of_getElem? (i := 864) (by decide +kernel)) rfl, inG (List.mem_of_getElem? (i := 2) (by decide +kernel)) rfl⟩
def mX5_becomeAs : MD := (yX5_becomeAs, cX5_becomeAs, 2, none, 1)
theorem okX5_becomeAs : MDok mX5_becomeAs := ⟨by decide +kernel, ⟨by decide +kernel, by decide +kernel, by decide +kernel⟩, by decide, inG (List.mem_of_getElem? (i := 388) (by decide +kernel)) rfl, inG (List.mem_of_getElem? (i := 2) (by decide +kernel)) rfl⟩
def mX5_canEnd : MD := (yX5_canEnd, cX5_canEnd, 5, (some .boolean), 3)
theorem okX5_canEnd : MDok mX5_canEnd := ⟨by decide +kernel, ⟨by decide +kernel, by decide +kernel, by decide +kernel⟩, by decide, inG (List.mem_of_getElem? (i := 492) (by decide +kernel)) rfl, inG (List.mem_of_getElem? (i := 2) (by decide +kernel)) rfl⟩
def mX5_changePlaces : MD := (yX5_changePlaces, cX5_changePlaces, 5, none, 2)
theorem okX5_changePlaces : MDok mX5_changePlaces := ⟨by decide +kernel, ⟨by decide +kernel, by decide +kernel, by decide +kernel⟩, by decide, inG (List.mem_of_getElem? (i := 771) (by decide +kernel)) rfl, inG (List.mem_of_getElem? (i := 2) (by decide +kernel)) rfl⟩
def mX5_comeToPass : MD := (yX5_comeToPass, cX5_comeToPass, 8, none, 3)
theorem okX5_comeToPass : MDok mX5_comeToPass := ⟨by decide +kernel, ⟨by decide +kernel, by decide +kernel, by decide +kernel⟩, by decide, inG (List.mem_of_getElem? (i := 511) (by decide +kernel)) rfl, inG (List.mem_of_getElem? (i := 2) (by decide +kernel)) rfl⟩
def mX5_drawBelow : MD := (yX5_drawBelow, cX5_drawBelow, 2, (some .int), 1)
theorem okX5_drawBelow : MDok mX5_drawBelow := ⟨by decide +kernel, ⟨by decide +kernel, by decide +kernel, by decide +kernel⟩, by decide, inG (List.mem_of_getElem? (i := 825) (by decide +kernel)) rfl, inG (List.mem_of_getElem? (i := 2) (by decide +kernel)) rfl⟩
def mX5_enter : MD := (yX5_enter, cX5_enter, 6, none, 3)
theorem okX5_enter : MDok mX5_enter := ⟨by decide +kernel, ⟨by decide +kernel, by decide +kernel, by decide +kernel⟩, by decide, inG (List.mem_of_getElem? (i := 353) (by decide +kernel)) rfl, inG (List.mem_of_getElem? (i := 2) (by decide +kernel)) rfl⟩
def mX5_firmestPair : MD := (yX5_firmestPair, cX5_firmestPair, 6, (some .int), 0)
theorem okX5_firmestPair : MDok mX5_firmestPair := ⟨by decide +kernel, ⟨by decide +kernel, by decide +kernel, by decide +kernel⟩, by decide, inG (List.mem_of_getElem? (i := 702) (by decide +kernel)) rfl, inG (List.mem_of_getElem? (i := 2) (by decide +kernel)) rfl⟩
def mX5_forceOf : MD := (yX5_forceOf, cX5_forceOf, 3, (some .int), 1)
theorem okX5_forceOf : MDok mX5_forceOf := ⟨by decide +kernel, ⟨by decide +kernel, by decide +kernel, by decide +kernel⟩, by decide, inG (List.mem_of_getElem? (i := 335) (by decide +kernel)) rfl, inG (List.mem_of_getElem? (i := 2) (by decide +kernel)) rfl⟩
def mX5_has : MD := (yX5_has, cX5_has, 2, (some .boolean), 1)
theorem okX5_has : MDok mX5_has := ⟨by decide +kernel, ⟨by decide +kernel, by decide +kernel, by decide +kernel⟩, by decide, inG (List.mem_of_getElem? (i := 314) (by decide +kernel)) rfl, inG (List.mem_of_getElem? (i := 2) (by decide +kernel)) rfl⟩
def mX5_hasJoint : MD := (yX5_hasJoint, cX5_hasJoint, 3, (some .boolean), 2)
theorem okX5_hasJoint : MDok mX5_hasJoint := ⟨by decide +kernel, ⟨by decide +kernel, by decide +kernel, by decide +kernel⟩, by decide, inG (List.mem_of_getElem? (i := 552) (by decide +kernel)) rfl, inG (List.mem_of_getElem? (i := 2) (by decide +kernel)) rfl⟩
def mX5_hasPlace : MD := (yX5_hasPlace, cX5_hasPlace, 3, (some .boolean), 2)
theorem okX5_hasPlace : MDok mX5_hasPlace := ⟨by decide +kernel, ⟨by decide +kernel, by decide +kernel, by decide +kernel⟩, by decide, inG (List.mem_of_getElem? (i := 544) (by decide +kernel)) rfl, inG (List.mem_of_getElem? (i := 2) (by decide +kernel)) rfl⟩
def mX5_holdOf : MD := (yX5_holdOf, cX5_holdOf, 4, (some .int), 2)
theorem okX5_holdOf : MDok mX5_holdOf := ⟨by decide +kernel, ⟨by decide +kernel, by decide +kernel, by decide +kernel⟩, by decide, inG (List.mem_of_getElem? (i := 327) (by decide +kernel)) rfl, inG (List.mem_of_getElem? (i := 2) (by decide +kernel)) rfl⟩
def mX5_isCalled : MD := (yX5_isCalled, cX5_isCalled, 2, (some .boolean), 1)
theorem okX5_isCalled : MDok mX5_isCalled := ⟨by decide +kernel, ⟨by decide +kernel, by decide +kernel, by decide +kernel⟩, by decide, inG (List.mem_of_getElem? (i := 488) (by decide +kernel)) rfl, inG (List.mem_of_getElem? (i := 2) (by decide +kernel)) rfl⟩
def mX5_isOver : MD := (yX5_isOver, cX5_isOver, 1, (some .boolean), 0)
theorem okX5_isOver : MDok mX5_isOver := ⟨by decide +kernel, ⟨by decide +kernel, by decide +kernel, by decide +kernel⟩, by decide, inG (List.mem_of_getElem? (i := 484) (by decide +kernel)) rfl, inG (List.mem_of_getElem? (i := 2) (by decide +kernel)) rfl⟩
def mX5_jointFor : MD := (yX5_jointFor, cX5_jointFor, 6, (some .int), 1)
theorem okX5_jointFor : MDok mX5_jointFor := ⟨by decide +kernel, ⟨by decide +kernel, by decide +kernel, by decide +kernel⟩, by decide, inG (List.mem_of_getElem? (i := 600) (by decide +kernel)) rfl, inG (List.mem_of_getElem? (i := 2) (by decide +kernel)) rfl⟩
def mX5_leader : MD := (yX5_leader, cX5_leader, 1, (some .int), 0)
theorem okX5_leader : MDok mX5_leader := ⟨by decide +kernel, ⟨by decide +kernel, by decide +kernel, by decide +kernel⟩, by decide, inG (List.mem_of_getElem? (i := 638) (by decide +kernel)) rfl, inG (List.mem_of_getElem? (i := 2) (by decide +kernel)) rfl⟩
def mX5_leastStrength : MD := (yX5_leastStrength, cX5_leastStrength, 4, (some .int), 1)
theorem okX5_leastStrength : MDok mX5_leastStrength := ⟨by decide +kernel, ⟨by decide +kernel, by decide +kernel, by decide +kernel⟩, by decide, inG (List.mem_of_getElem? (i := 621) (by decide +kernel)) rfl, inG (List.mem_of_getElem? (i := 2) (by decide +kernel)) rfl⟩
def mX5_leave : MD := (yX5_leave, cX5_leave, 6, none, 1)
theorem okX5_leave : MDok mX5_leave := ⟨by decide +kernel, ⟨by decide +kernel, by decide +kernel, by decide +kernel⟩, by decide, inG (List.mem_of_getElem? (i := 519) (by decide +kernel)) rfl, inG (List.mem_of_getElem? (i := 2) (by decide +kernel)) rfl⟩
def mX5_mayRun : MD := (yX5_mayRun, cX5_mayRun, 3, (some .boolean), 2)
theorem okX5_mayRun : MDok mX5_mayRun := ⟨by decide +kernel, ⟨by decide +kernel, by decide +kernel, by decide +kernel⟩, by decide, inG (List.mem_of_getElem? (i := 789) (by decide +kernel)) rfl, inG (List.mem_of_getElem? (i := 2) (by decide +kernel)) rfl⟩
def mX5_mostForceful : MD := (yX5_mostForceful, cX5_mostForceful, 4, (some .int), 1)
theorem okX5_mostForceful : MDok mX5_mostForceful := ⟨by decide +kernel, ⟨by decide +kernel, by decide +kernel, by decide +kernel⟩, by decide, inG (List.mem_of_getElem? (i := 578) (by decide +kernel)) rfl, inG (List.mem_of_getElem? (i := 2) (by decide +kernel)) rfl⟩
def mX5_mostTired : MD := (yX5_mostTired, cX5_mostTired, 3, (some .int), 0)
theorem okX5_mostTired : MDok mX5_mostTired := ⟨by decide +kernel, ⟨by decide +kernel, by decide +kernel, by decide +kernel⟩, by decide, inG (List.mem_of_getElem? (i := 710) (by decide +kernel)) rfl, inG (List.mem_of_getElem? (i := 2) (by decide +kernel)) rfl⟩
def mX5_oddsAgainst : MD := (yX5_oddsAgainst, cX5_oddsAgainst, 4, (some .int), 2)
theorem okX5_oddsAgainst : MDok mX5_oddsAgainst := ⟨by decide +kernel, ⟨by decide +kernel, by decide +kernel, by decide +kernel⟩, by decide, inG (List.mem_of_getElem? (i := 505) (by decide +kernel)) rfl, inG (List.mem_of_getElem? (i := 2) (by decide +kernel)) rfl⟩
def mX5_oddsOf : MD := (yX5_oddsOf, cX5_oddsOf, 3, (some .int), 2)
theorem okX5_oddsOf : MDok mX5_oddsOf := ⟨by decide +kernel, ⟨by decide +kernel, by decide +kernel, by decide +kernel⟩, by decide, inG (List.mem_of_getElem? (i := 591) (by decide +kernel)) rfl, inG (List.mem_of_getElem? (i := 2) (by decide +kernel)) rfl⟩
def mX5_placeOf : MD := (yX5_placeOf, cX5_placeOf, 4, (some .int), 1)
theorem okX5_placeOf : MDok mX5_placeOf := ⟨by decide +kernel, ⟨by decide +kernel, by decide +kernel, by decide +kernel⟩, by decide, inG (List.mem_of_getElem? (i := 536) (by decide +kernel)) rfl, inG (List.mem_of_getElem? (i := 2) (by decide +kernel)) rfl⟩
def mX5_restAll : MD := (yX5_restAll, cX5_restAll, 4, (some .int), 1)
theorem okX5_restAll : MDok mX5_restAll := ⟨by decide +kernel, ⟨by decide +kernel, by decide +kernel, by decide +kernel⟩, by decide, inG (List.mem_of_getElem? (i := 839) (by decide +kernel)) rfl, inG (List.mem_of_getElem? (i := 2) (by decide +kernel)) rfl⟩
def mX5_runByDraw : MD := (yX5_runByDraw, cX5_runByDraw, 5, (some .boolean), 3)
theorem okX5_runByDraw : MDok mX5_runByDraw := ⟨by decide +kernel, ⟨by decide +kernel, by decide +kernel, by decide +kernel⟩, by decide, inG (List.mem_of_getElem? (i := 821) (by decide +kernel)) rfl, inG (List.mem_of_getElem? (i := 2) (by decide +kernel)) rfl⟩
def mX5_sideTaken : MD := (yX5_sideTaken, cX5_sideTaken, 4, (some .int), 1)
theorem okX5_sideTaken : MDok mX5_sideTaken := ⟨by decide +kernel, ⟨by decide +kernel, by decide +kernel, by decide +kernel⟩, by decide, inG (List.mem_of_getElem? (i := 609) (by decide +kernel)) rfl, inG (List.mem_of_getElem? (i := 2) (by decide +kernel)) rfl⟩
def mX5_sistersIn : MD := (yX5_sistersIn, cX5_sistersIn, 4, (some .int), 1)
theorem okX5_sistersIn : MDok mX5_sistersIn := ⟨by decide +kernel, ⟨by decide +kernel, by decide +kernel, by decide +kernel⟩, by decide, inG (List.mem_of_getElem? (i := 331) (by decide +kernel)) rfl, inG (List.mem_of_getElem? (i := 2) (by decide +kernel)) rfl⟩
def mX5_strengthAt : MD := (yX5_strengthAt, cX5_strengthAt, 5, (some .int), 2)
theorem okX5_strengthAt : MDok mX5_strengthAt := ⟨by decide +kernel, ⟨by decide +kernel, by decide +kernel, by decide +kernel⟩, by decide, inG (List.mem_of_getElem? (i := 496) (by decide +kernel)) rfl, inG (List.mem_of_getElem? (i := 2) (by decide +kernel)) rfl⟩
def mX5_strengthBy : MD := (yX5_strengthBy, cX5_strengthBy, 4, (some .int), 2)
theorem okX5_strengthBy : MDok mX5_strengthBy := ⟨by decide +kernel, ⟨by decide +kernel, by decide +kernel, by decide +kernel⟩, by decide, inG (List.mem_of_getElem? (i := 501) (by decide +kernel)) rfl, inG (List.mem_of_getElem? (i := 2) (by decide +kernel)) rfl⟩
def mX5_strongestJoint : MD := (yX5_strongestJoint, cX5_strongestJoint, 6, (some .int), 1)
theorem okX5_strongestJoint : MDok mX5_strongestJoint := ⟨by decide +kernel, ⟨by decide +kernel, by decide +kernel, by decide +kernel⟩, by decide, inG (List.mem_of_getElem? (i := 570) (by decide +kernel)) rfl, inG (List.mem_of_getElem? (i := 2) (by decide +kernel)) rfl⟩
def mX5_tire : MD := (yX5_tire, cX5_tire, 2, none, 1)
theorem okX5_tire : MDok mX5_tire := ⟨by decide +kernel, ⟨by decide +kernel, by decide +kernel, by decide +kernel⟩, by decide, inG (List.mem_of_getElem? (i := 515) (by decide +kernel)) rfl, inG (List.mem_of_getElem? (i := 2) (by decide +kernel)) rfl⟩
def mX5_weakestJoint : MD := (yX5_weakestJoint, cX5_weakestJoint, 6, (some .int), 1)
theorem okX5_weakestJoint : MDok mX5_weakestJoint := ⟨by decide +kernel, ⟨by decide +kernel, by decide +kernel, by decide +kernel⟩, by decide, inG (List.mem_of_getElem? (i := 561) (by decide +kernel)) rfl, inG (List.mem_of_getElem? (i := 2) (by decide +kernel)) rfl⟩
def mX5_whoIsCalled : MD := (yX5_whoIsCalled, cX5_whoIsCalled, 7, (some .int), 1)
theorem okX5_whoIsCalled : MDok mX5_whoIsCalled := ⟨by decide +kernel, ⟨by decide +kernel, by decide +kernel, by decide +kernel⟩, by decide, inG (List.mem_of_getElem? (i := 617) (by decide +kernel)) rfl, inG (List.mem_of_getElem? (i := 2) (by decide +kernel)) rfl⟩
def mX5_winner : MD := (yX5_winner, cX5_winner, 1, (some .int), 0)
theorem okX5_winner : MDok mX5_winner := ⟨by decide +kernel, ⟨by decide +kernel, by decide +kernel, by decide +kernel⟩, by decide, inG (List.mem_of_getElem? (i := 633) (by decide +kernel)) rfl, inG (List.mem_of_getElem? (i := 2) (by decide +kernel)) rfl⟩
def mX7_init : MD := (yX7_init, cX7_init, 1, none, 0)
theorem okX7_init : MDok mX7_init := ⟨by decide +kernel, ⟨by decide +kernel, by decide +kernel, by decide +kernel⟩, by decide, inG (List.mem_of_getElem? (i := 873) (by decide +kernel)) rfl, inG (List.mem_of_getElem? (i := 8) (by decide +kernel)) rfl⟩
def mX7_addOne : MD := (yX7_addOne, cX7_addOne, 6, none, 5)
theorem okX7_addOne : MDok mX7_addOne := ⟨by decide +kernel, ⟨by decide +kernel, by decide +kernel, by decide +kernel⟩, by decide, inG (List.mem_of_getElem? (i := 1071) (by decide +kernel)) rfl, inG (List.mem_of_getElem? (i := 8) (by decide +kernel)) rfl⟩
def mX7_again : MD := (yX7_again, cX7_again, 3, (some .int), 0)
theorem okX7_again : MDok mX7_again := ⟨by decide +kernel, ⟨by decide +kernel, by decide +kernel, by decide +kernel⟩, by decide, inG (List.mem_of_getElem? (i := 1422) (by decide +kernel)) rfl, inG (List.mem_of_getElem? (i := 8) (by decide +kernel)) rfl⟩
def mX7_ask : MD := (yX7_ask, cX7_ask, 4, (some .int), 2)
theorem okX7_ask : MDok mX7_ask := ⟨by decide +kernel, ⟨by decide +kernel, by decide +kernel, by decide +kernel⟩, by decide, inG (List.mem_of_getElem? (i := 1080) (by decide +kernel)) rfl, inG (List.mem_of_getElem? (i := 8) (by decide +kernel)) rfl⟩
def mX7_asked : MD := (yX7_asked, cX7_asked, 2, (some .int), 1)
theorem okX7_asked : MDok mX7_asked := ⟨by decide +kernel, ⟨by decide +kernel, by decide +kernel, by decide +kernel⟩, by decide, inG (List.mem_of_getElem? (i := 1090) (by decide +kernel)) rfl, inG (List.mem_of_getElem? (i := 8) (by decide +kernel)) rfl⟩
def mX7_asks : MD := (yX7_asks, cX7_asks, 2, (some .boolean), 1)
theorem okX7_asks : MDok mX7_asks := ⟨by decide +kernel, ⟨by decide +kernel, by decide +kernel, by decide +kernel⟩, by decide, inG (List.mem_of_getElem? (i := 1163) (by decide +kernel)) rfl, inG (List.mem_of_getElem? (i := 8) (by decide +kernel)) rfl⟩
def mX7_at : MD := (yX7_at, cX7_at, 2, (some .int), 1)
theorem okX7_at : MDok mX7_at := ⟨by decide +kernel, ⟨by decide +kernel, by decide +kernel, by decide +kernel⟩, by decide, inG (List.mem_of_getElem? (i := 1273) (by decide +kernel)) rfl, inG (List.mem_of_getElem? (i := 8) (by decide +kernel)) rfl⟩
def mX7_atOf : MD := (yX7_atOf, cX7_atOf, 4, (some .int), 1)
theorem okX7_atOf : MDok mX7_atOf := ⟨by decide +kernel, ⟨by decide +kernel, by decide +kernel, by decide +kernel⟩, by decide, inG (List.mem_of_getElem? (i := 1277) (by decide +kernel)) rfl, inG (List.mem_of_getElem? (i := 8) (by decide +kernel)) rfl⟩
def mX7_back : MD := (yX7_back, cX7_back, 2, (some .int), 0)
theorem okX7_back : MDok mX7_back := ⟨by decide +kernel, ⟨by decide +kernel, by decide +kernel, by decide +kernel⟩, by decide, inG (List.mem_of_getElem? (i := 1434) (by decide +kernel)) rfl, inG (List.mem_of_getElem? (i := 8) (by decide +kernel)) rfl⟩
def mX7_becomes : MD := (yX7_becomes, cX7_becomes, 3, none, 2)
theorem okX7_becomes : MDok mX7_becomes := ⟨by decide +kernel, ⟨by decide +kernel, by decide +kernel, by decide +kernel⟩, by decide, inG (List.mem_of_getElem? (i := 1094) (by decide +kernel)) rfl, inG (List.mem_of_getElem? (i := 8) (by decide +kernel)) rfl⟩
def mX7_behind : MD := (yX7_behind, cX7_behind, 5, (some .int), 3)
theorem okX7_behind : MDok mX7_behind := ⟨by decide +kernel, ⟨by decide +kernel, by decide +kernel, by decide +kernel⟩, by decide, inG (List.mem_of_getElem? (i := 1381) (by decide +kernel)) rfl, inG (List.mem_of_getElem? (i := 8) (by decide +kernel)) rfl⟩
def mX7_below : MD := (yX7_below, cX7_below, 2, (some .int), 1)
theorem okX7_below : MDok mX7_below := ⟨by decide +kernel, ⟨by decide +kernel, by decide +kernel, by decide +kernel⟩, by decide, inG (List.mem_of_getElem? (i := 1409) (by decide +kernel)) rfl, inG (List.mem_of_getElem? (i := 8) (by decide +kernel)) rfl⟩
def mX7_best : MD := (yX7_best, cX7_best, 3, (some .int), 1)
theorem okX7_best : MDok mX7_best := ⟨by decide +kernel, ⟨by decide +kernel, by decide +kernel, by decide +kernel⟩, by decide, inG (List.mem_of_getElem? (i := 1397) (by decide +kernel)) rfl, inG (List.mem_of_getElem? (i := 8) (by decide +kernel)) rfl⟩
def mX7_booked : MD := (yX7_booked, cX7_booked, 4, (some .int), 2)
theorem okX7_booked : MDok mX7_booked := ⟨by decide +kernel, ⟨by decide +kernel, by decide +kernel, by decide +kernel⟩, by decide, inG (List.mem_of_getElem? (i := 1385) (by decide +kernel)) rfl, inG (List.mem_of_getElem? (i := 8) (by decide +kernel)) rfl⟩
def mX7_call : MD := (yX7_call, cX7_call, 1, (some .int), 0)
theorem okX7_call : MDok mX7_call := ⟨by decide +kernel, ⟨by decide +kernel, by decide +kernel, by decide +kernel⟩, by decide, inG (List.mem_of_getElem? (i := 1289) (by decide +kernel)) rfl, inG (List.mem_of_getElem? (i := 8) (by decide +kernel)) rfl⟩
def mX7_callBy : MD := (yX7_callBy, cX7_callBy, 6, (some .int), 1)
theorem okX7_callBy : MDok mX7_callBy := ⟨by decide +kernel, ⟨by decide +kernel, by decide +kernel, by decide +kernel⟩, by decide, inG (List.mem_of_getElem? (i := 1293) (by decide +kernel)) rfl, inG (List.mem_of_getElem? (i := 8) (by decide +kernel)) rfl⟩
def mX7_chainAt : MD := (yX7_chainAt, cX7_chainAt, 2, (some .int), 1)
theorem okX7_chainAt : MDok mX7_chainAt := ⟨by decide +kernel, ⟨by decide +kernel, by decide +kernel, by decide +kernel⟩, by decide, inG (List.mem_of_getElem? (i := 1049) (by decide +kernel)) rfl, inG (List.mem_of_getElem? (i := 8) (by decide +kernel)) rfl⟩
def mX7_chainOf : MD := (yX7_chainOf, cX7_chainOf, 3, (some .int), 2)
theorem okX7_chainOf : MDok mX7_chainOf := ⟨by decide +kernel, ⟨by decide +kernel, by decide +kernel, by decide +kernel⟩, by decide, inG (List.mem_of_getElem? (i := 1212) (by decide +kernel)) rfl, inG (List.mem_of_getElem? (i := 8) (by decide +kernel)) rfl⟩
def mX7_changes : MD := (yX7_changes, cX7_changes, 4, none, 2)
theorem okX7_changes : MDok mX7_changes := ⟨by decide +kernel, ⟨by decide +kernel, by decide +kernel, by decide +kernel⟩, by decide, inG (List.mem_of_getElem? (i := 1338) (by decide +kernel)) rfl, inG (List.mem_of_getElem? (i := 8) (by decide +kernel)) rfl⟩
def mX7_copied : MD := (yX7_copied, cX7_copied, 3, none, 2)
theorem okX7_copied : MDok mX7_copied := ⟨by decide +kernel, ⟨by decide +kernel, by decide +kernel, by decide +kernel⟩, by decide, inG (List.mem_of_getElem? (i := 1120) (by decide +kernel)) rfl, inG (List.mem_of_getElem? (i := 8) (by decide +kernel)) rfl⟩
def mX7_copy : MD := (yX7_copy, cX7_copy, 7, (some .int), 5)
theorem okX7_copy : MDok mX7_copy := ⟨by decide +kernel, ⟨by decide +kernel, by decide +kernel, by decide +kernel⟩, by decide, inG (List.mem_of_getElem? (i := 1021) (by decide +kernel)) rfl, inG (List.mem_of_getElem? (i := 8) (by decide +kernel)) rfl⟩
def mX7_could : MD := (yX7_could, cX7_could, 6, (some .int), 2)
theorem okX7_could : MDok mX7_could := ⟨by decide +kernel, ⟨by decide +kernel, by decide +kernel, by decide +kernel⟩, by decide, inG (List.mem_of_getElem? (i := 1358) (by decide +kernel)) rfl, inG (List.mem_of_getElem? (i := 8) (by decide +kernel)) rfl⟩
def mX7_element : MD := (yX7_element, cX7_element, 3, (some .long), 2)
theorem okX7_element : MDok mX7_element := ⟨by decide +kernel, ⟨by decide +kernel, by decide +kernel, by decide +kernel⟩, by decide, inG (List.mem_of_getElem? (i := 1025) (by decide +kernel)) rfl, inG (List.mem_of_getElem? (i := 8) (by decide +kernel)) rfl⟩
def mX7_ends : MD := (yX7_ends, cX7_ends, 1, none, 0)
theorem okX7_ends : MDok mX7_ends := ⟨by decide +kernel, ⟨by decide +kernel, by decide +kernel, by decide +kernel⟩, by decide, inG (List.mem_of_getElem? (i := 1200) (by decide +kernel)) rfl, inG (List.mem_of_getElem? (i := 8) (by decide +kernel)) rfl⟩
def mX7_feed : MD := (yX7_feed, cX7_feed, 2, (some .int), 1)
theorem okX7_feed : MDok mX7_feed := ⟨by decide +kernel, ⟨by decide +kernel, by decide +kernel, by decide +kernel⟩, by decide, inG (List.mem_of_getElem? (i := 1098) (by decide +kernel)) rfl, inG (List.mem_of_getElem? (i := 8) (by decide +kernel)) rfl⟩
def mX7_findStand : MD := (yX7_findStand, cX7_findStand, 3, none, 1)
theorem okX7_findStand : MDok mX7_findStand := ⟨by decide +kernel, ⟨by decide +kernel, by decide +kernel, by decide +kernel⟩, by decide, inG (List.mem_of_getElem? (i := 1314) (by decide +kernel)) rfl, inG (List.mem_of_getElem? (i := 8) (by decide +kernel)) rfl⟩
def mX7_first : MD := (yX7_first, cX7_first, 2, (some .int), 1)
theorem okX7_first : MDok mX7_first := ⟨by decide +kernel, ⟨by decide +kernel, by decide +kernel, by decide +kernel⟩, by decide, inG (List.mem_of_getElem? (i := 1354) (by decide +kernel)) rfl, inG (List.mem_of_getElem? (i := 8) (by decide +kernel)) rfl⟩
def mX7_fit : MD := (yX7_fit, cX7_fit, 3, (some .long), 2)
theorem okX7_fit : MDok mX7_fit := ⟨by decide +kernel, ⟨by decide +kernel, by decide +kernel, by decide +kernel⟩, by decide, inG (List.mem_of_getElem? (i := 1017) (by decide +kernel)) rfl, inG (List.mem_of_getElem? (i := 8) (by decide +kernel)) rfl⟩
def mX7_force : MD := (yX7_force, cX7_force, 3, (some .int), 1)
theorem okX7_force : MDok mX7_force := ⟨by decide +kernel, ⟨by decide +kernel, by decide +kernel, by decide +kernel⟩, by decide, inG (List.mem_of_getElem? (i := 1061) (by decide +kernel)) rfl, inG (List.mem_of_getElem? (i := 8) (by decide +kernel)) rfl⟩
def mX7_fresh : MD := (yX7_fresh, cX7_fresh, 1, (some (.object RX7)), 0)
theorem okX7_fresh : MDok mX7_fresh := ⟨by decide +kernel, ⟨by decide +kernel, by decide +kernel, by decide +kernel⟩, by decide, inG (List.mem_of_getElem? (i := 1111) (by decide +kernel)) rfl, inG (List.mem_of_getElem? (i := 8) (by decide +kernel)) rfl⟩
def mX7_game : MD := (yX7_game, cX7_game, 2, (some .int), 1)
theorem okX7_game : MDok mX7_game := ⟨by decide +kernel, ⟨by decide +kernel, by decide +kernel, by decide +kernel⟩, by decide, inG (List.mem_of_getElem? (i := 1342) (by decide +kernel)) rfl, inG (List.mem_of_getElem? (i := 8) (by decide +kernel)) rfl⟩
def mX7_gameOf : MD := (yX7_gameOf, cX7_gameOf, 6, (some .int), 1)
theorem okX7_gameOf : MDok mX7_gameOf := ⟨by decide +kernel, ⟨by decide +kernel, by decide +kernel, by decide +kernel⟩, by decide, inG (List.mem_of_getElem? (i := 1346) (by decide +kernel)) rfl, inG (List.mem_of_getElem? (i := 8) (by decide +kernel)) rfl⟩
def mX7_goesOut : MD := (yX7_goesOut, cX7_goesOut, 4, none, 2)
theorem okX7_goesOut : MDok mX7_goesOut := ⟨by decide +kernel, ⟨by decide +kernel, by decide +kernel, by decide +kernel⟩, by decide, inG (List.mem_of_getElem? (i := 1196) (by decide +kernel)) rfl, inG (List.mem_of_getElem? (i := 8) (by decide +kernel)) rfl⟩
def mX7_goesRun : MD := (yX7_goesRun, cX7_goesRun, 5, (some .boolean), 3)
theorem okX7_goesRun : MDok mX7_goesRun := ⟨by decide +kernel, ⟨by decide +kernel, by decide +kernel, by decide +kernel⟩, by decide, inG (List.mem_of_getElem? (i := 1405) (by decide +kernel)) rfl, inG (List.mem_of_getElem? (i := 8) (by decide +kernel)) rfl⟩
def mX7_goesTold : MD := (yX7_goesTold, cX7_goesTold, 7, (some .boolean), 1)
theorem okX7_goesTold : MDok mX7_goesTold := ⟨by decide +kernel, ⟨by decide +kernel, by decide +kernel, by decide +kernel⟩, by decide, inG (List.mem_of_getElem? (i := 1374) (by decide +kernel)) rfl, inG (List.mem_of_getElem? (i := 8) (by decide +kernel)) rfl⟩
def mX7_hardest : MD := (yX7_hardest, cX7_hardest, 4, (some .int), 1)
theorem okX7_hardest : MDok mX7_hardest := ⟨by decide +kernel, ⟨by decide +kernel, by decide +kernel, by decide +kernel⟩, by decide, inG (List.mem_of_getElem? (i := 1237) (by decide +kernel)) rfl, inG (List.mem_of_getElem? (i := 8) (by decide +kernel)) rfl⟩
def mX7_hold : MD := (yX7_hold, cX7_hold, 4, (some .int), 2)
theorem okX7_hold : MDok mX7_hold := ⟨by decide +kernel, ⟨by decide +kernel, by decide +kernel, by decide +kernel⟩, by decide, inG (List.mem_of_getElem? (i := 1057) (by decide +kernel)) rfl, inG (List.mem_of_getElem? (i := 8) (by decide +kernel)) rfl⟩
def mX7_holds : MD := (yX7_holds, cX7_holds, 2, (some .int), 1)
theorem okX7_holds : MDok mX7_holds := ⟨by decide +kernel, ⟨by decide +kernel, by decide +kernel, by decide +kernel⟩, by decide, inG (List.mem_of_getElem? (i := 1029) (by decide +kernel)) rfl, inG (List.mem_of_getElem? (i := 8) (by decide +kernel)) rfl⟩
def mX7_image : MD := (yX7_image, cX7_image, 1, (some .int), 0)
theorem okX7_image : MDok mX7_image := ⟨by decide +kernel, ⟨by decide +kernel, by decide +kernel, by decide +kernel⟩, by decide, inG (List.mem_of_getElem? (i := 1430) (by decide +kernel)) rfl, inG (List.mem_of_getElem? (i := 8) (by decide +kernel)) rfl⟩
def mX7_in : MD := (yX7_in, cX7_in, 6, (some .boolean), 3)
theorem okX7_in : MDok mX7_in := ⟨by decide +kernel, ⟨by decide +kernel, by decide +kernel, by decide +kernel⟩, by decide, inG (List.mem_of_getElem? (i := 1000) (by decide +kernel)) rfl, inG (List.mem_of_getElem? (i := 8) (by decide +kernel)) rfl⟩
def mX7_isDigit : MD := (yX7_isDigit, cX7_isDigit, 1, (some .boolean), 1)
theorem okX7_isDigit : MDok mX7_isDigit := ⟨by decide +kernel, ⟨by decide +kernel, by decide +kernel, by decide +kernel⟩, by decide, inG (List.mem_of_getElem? (i := 1134) (by decide +kernel)) rfl, inG (List.mem_of_getElem? (i := 8) (by decide +kernel)) rfl⟩
def mX7_isJoint : MD := (yX7_isJoint, cX7_isJoint, 3, (some .boolean), 2)
theorem okX7_isJoint : MDok mX7_isJoint := ⟨by decide +kernel, ⟨by decide +kernel, by decide +kernel, by decide +kernel⟩, by decide, inG (List.mem_of_getElem? (i := 1221) (by decide +kernel)) rfl, inG (List.mem_of_getElem? (i := 8) (by decide +kernel)) rfl⟩
def mX7_isLetter : MD := (yX7_isLetter, cX7_isLetter, 1, (some .boolean), 1)
theorem okX7_isLetter : MDok mX7_isLetter := ⟨by decide +kernel, ⟨by decide +kernel, by decide +kernel, by decide +kernel⟩, by decide, inG (List.mem_of_getElem? (i := 1131) (by decide +kernel)) rfl, inG (List.mem_of_getElem? (i := 8) (by decide +kernel)) rfl⟩
def mX7_isOne : MD := (yX7_isOne, cX7_isOne, 2, (some .boolean), 1)
theorem okX7_isOne : MDok mX7_isOne := ⟨by decide +kernel, ⟨by decide +kernel, by decide +kernel, by decide +kernel⟩, by decide, inG (List.mem_of_getElem? (i := 1037) (by decide +kernel)) rfl, inG (List.mem_of_getElem? (i := 8) (by decide +kernel)) rfl⟩
def mX7_isOver : MD := (yX7_isOver, cX7_isOver, 1, (some .boolean), 0)
theorem okX7_isOver : MDok mX7_isOver := ⟨by decide +kernel, ⟨by decide +kernel, by decide +kernel, by decide +kernel⟩, by decide, inG (List.mem_of_getElem? (i := 1175) (by decide +kernel)) rfl, inG (List.mem_of_getElem? (i := 8) (by decide +kernel)) rfl⟩
def mX7_isUnder : MD := (yX7_isUnder, cX7_isUnder, 2, (some .boolean), 2)
theorem okX7_isUnder : MDok mX7_isUnder := ⟨by decide +kernel, ⟨by decide +kernel, by decide +kernel, by decide +kernel⟩, by decide, inG (List.mem_of_getElem? (i := 1045) (by decide +kernel)) rfl, inG (List.mem_of_getElem? (i := 8) (by decide +kernel)) rfl⟩
def mX7_isWord : MD := (yX7_isWord, cX7_isWord, 3, (some .boolean), 1)
theorem okX7_isWord : MDok mX7_isWord := ⟨by decide +kernel, ⟨by decide +kernel, by decide +kernel, by decide +kernel⟩, by decide, inG (List.mem_of_getElem? (i := 1143) (by decide +kernel)) rfl, inG (List.mem_of_getElem? (i := 8) (by decide +kernel)) rfl⟩
def mX7_judge : MD := (yX7_judge, cX7_judge, 4, (some .int), 2)
theorem okX7_judge : MDok mX7_judge := ⟨by decide +kernel, ⟨by decide +kernel, by decide +kernel, by decide +kernel⟩, by decide, inG (List.mem_of_getElem? (i := 1362) (by decide +kernel)) rfl, inG (List.mem_of_getElem? (i := 8) (by decide +kernel)) rfl⟩
def mX7_leads : MD := (yX7_leads, cX7_leads, 6, (some .int), 1)
theorem okX7_leads : MDok mX7_leads := ⟨by decide +kernel, ⟨by decide +kernel, by decide +kernel, by decide +kernel⟩, by decide, inG (List.mem_of_getElem? (i := 1297) (by decide +kernel)) rfl, inG (List.mem_of_getElem? (i := 8) (by decide +kernel)) rfl⟩
def mX7_leastBy : MD := (yX7_leastBy, cX7_leastBy, 9, (some .int), 2)
theorem okX7_leastBy : MDok mX7_leastBy := ⟨by decide +kernel, ⟨by decide +kernel, by decide +kernel, by decide +kernel⟩, by decide, inG (List.mem_of_getElem? (i := 1350) (by decide +kernel)) rfl, inG (List.mem_of_getElem? (i := 8) (by decide +kernel)) rfl⟩
def mX7_leastOf : MD := (yX7_leastOf, cX7_leastOf, 6, (some .int), 2)
theorem okX7_leastOf : MDok mX7_leastOf := ⟨by decide +kernel, ⟨by decide +kernel, by decide +kernel, by decide +kernel⟩, by decide, inG (List.mem_of_getElem? (i := 1229) (by decide +kernel)) rfl, inG (List.mem_of_getElem? (i := 8) (by decide +kernel)) rfl⟩
def mX7_look : MD := (yX7_look, cX7_look, 1, none, 0)
theorem okX7_look : MDok mX7_look := ⟨by decide +kernel, ⟨by decide +kernel, by decide +kernel, by decide +kernel⟩, by decide, inG (List.mem_of_getElem? (i := 1128) (by decide +kernel)) rfl, inG (List.mem_of_getElem? (i := 8) (by decide +kernel)) rfl⟩
def mX7_mayAsk : MD := (yX7_mayAsk, cX7_mayAsk, 2, (some .boolean), 2)
theorem okX7_mayAsk : MDok mX7_mayAsk := ⟨by decide +kernel, ⟨by decide +kernel, by decide +kernel, by decide +kernel⟩, by decide, inG (List.mem_of_getElem? (i := 1083) (by decide +kernel)) rfl, inG (List.mem_of_getElem? (i := 8) (by decide +kernel)) rfl⟩
def mX7_move : MD := (yX7_move, cX7_move, 6, (some .int), 2)
theorem okX7_move : MDok mX7_move := ⟨by decide +kernel, ⟨by decide +kernel, by decide +kernel, by decide +kernel⟩, by decide, inG (List.mem_of_getElem? (i := 1389) (by decide +kernel)) rfl, inG (List.mem_of_getElem? (i := 8) (by decide +kernel)) rfl⟩
def mX7_noBook : MD := (yX7_noBook, cX7_noBook, 4, (some .int), 2)
theorem okX7_noBook : MDok mX7_noBook := ⟨by decide +kernel, ⟨by decide +kernel, by decide +kernel, by decide +kernel⟩, by decide, inG (List.mem_of_getElem? (i := 1366) (by decide +kernel)) rfl, inG (List.mem_of_getElem? (i := 8) (by decide +kernel)) rfl⟩
def mX7_noRow : MD := (yX7_noRow, cX7_noRow, 2, (some .int), 1)
theorem okX7_noRow : MDok mX7_noRow := ⟨by decide +kernel, ⟨by decide +kernel, by decide +kernel, by decide +kernel⟩, by decide, inG (List.mem_of_getElem? (i := 1014) (by decide +kernel)) rfl, inG (List.mem_of_getElem? (i := 8) (by decide +kernel)) rfl⟩
def mX7_number : MD := (yX7_number, cX7_number, 4, (some .boolean), 3)
theorem okX7_number : MDok mX7_number := ⟨by decide +kernel, ⟨by decide +kernel, by decide +kernel, by decide +kernel⟩, by decide, inG (List.mem_of_getElem? (i := 1153) (by decide +kernel)) rfl, inG (List.mem_of_getElem? (i := 8) (by decide +kernel)) rfl⟩
def mX7_odds : MD := (yX7_odds, cX7_odds, 3, (some .int), 2)
theorem okX7_odds : MDok mX7_odds := ⟨by decide +kernel, ⟨by decide +kernel, by decide +kernel, by decide +kernel⟩, by decide, inG (List.mem_of_getElem? (i := 1257) (by decide +kernel)) rfl, inG (List.mem_of_getElem? (i := 8) (by decide +kernel)) rfl⟩
def mX7_oddsOf : MD := (yX7_oddsOf, cX7_oddsOf, 5, (some .int), 2)
theorem okX7_oddsOf : MDok mX7_oddsOf := ⟨by decide +kernel, ⟨by decide +kernel, by decide +kernel, by decide +kernel⟩, by decide, inG (List.mem_of_getElem? (i := 1179) (by decide +kernel)) rfl, inG (List.mem_of_getElem? (i := 8) (by decide +kernel)) rfl⟩
def mX7_one : MD := (yX7_one, cX7_one, 6, (some .int), 5)
theorem okX7_one : MDok mX7_one := ⟨by decide +kernel, ⟨by decide +kernel, by decide +kernel, by decide +kernel⟩, by decide, inG (List.mem_of_getElem? (i := 1065) (by decide +kernel)) rfl, inG (List.mem_of_getElem? (i := 8) (by decide +kernel)) rfl⟩
def mX7_oneOf : MD := (yX7_oneOf, cX7_oneOf, 3, (some .int), 2)
theorem okX7_oneOf : MDok mX7_oneOf := ⟨by decide +kernel, ⟨by decide +kernel, by decide +kernel, by decide +kernel⟩, by decide, inG (List.mem_of_getElem? (i := 1208) (by decide +kernel)) rfl, inG (List.mem_of_getElem? (i := 8) (by decide +kernel)) rfl⟩
def mX7_order : MD := (yX7_order, cX7_order, 8, (some .int), 2)
theorem okX7_order : MDok mX7_order := ⟨by decide +kernel, ⟨by decide +kernel, by decide +kernel, by decide +kernel⟩, by decide, inG (List.mem_of_getElem? (i := 1393) (by decide +kernel)) rfl, inG (List.mem_of_getElem? (i := 8) (by decide +kernel)) rfl⟩
def mX7_over : MD := (yX7_over, cX7_over, 1, (some .int), 0)
theorem okX7_over : MDok mX7_over := ⟨by decide +kernel, ⟨by decide +kernel, by decide +kernel, by decide +kernel⟩, by decide, inG (List.mem_of_getElem? (i := 1269) (by decide +kernel)) rfl, inG (List.mem_of_getElem? (i := 8) (by decide +kernel)) rfl⟩
def mX7_pair : MD := (yX7_pair, cX7_pair, 6, (some .int), 0)
theorem okX7_pair : MDok mX7_pair := ⟨by decide +kernel, ⟨by decide +kernel, by decide +kernel, by decide +kernel⟩, by decide, inG (List.mem_of_getElem? (i := 1241) (by decide +kernel)) rfl, inG (List.mem_of_getElem? (i := 8) (by decide +kernel)) rfl⟩
def mX7_placeOf : MD := (yX7_placeOf, cX7_placeOf, 4, (some .int), 1)
theorem okX7_placeOf : MDok mX7_placeOf := ⟨by decide +kernel, ⟨by decide +kernel, by decide +kernel, by decide +kernel⟩, by decide, inG (List.mem_of_getElem? (i := 1053) (by decide +kernel)) rfl, inG (List.mem_of_getElem? (i := 8) (by decide +kernel)) rfl⟩
def mX7_play : MD := (yX7_play, cX7_play, 4, (some .int), 2)
theorem okX7_play : MDok mX7_play := ⟨by decide +kernel, ⟨by decide +kernel, by decide +kernel, by decide +kernel⟩, by decide, inG (List.mem_of_getElem? (i := 1306) (by decide +kernel)) rfl, inG (List.mem_of_getElem? (i := 8) (by decide +kernel)) rfl⟩
def mX7_plays : MD := (yX7_plays, cX7_plays, 4, none, 1)
theorem okX7_plays : MDok mX7_plays := ⟨by decide +kernel, ⟨by decide +kernel, by decide +kernel, by decide +kernel⟩, by decide, inG (List.mem_of_getElem? (i := 1301) (by decide +kernel)) rfl, inG (List.mem_of_getElem? (i := 8) (by decide +kernel)) rfl⟩
def mX7_readAll : MD := (yX7_readAll, cX7_readAll, 1, (some .boolean), 0)
theorem okX7_readAll : MDok mX7_readAll := ⟨by decide +kernel, ⟨by decide +kernel, by decide +kernel, by decide +kernel⟩, by decide, inG (List.mem_of_getElem? (i := 1124) (by decide +kernel)) rfl, inG (List.mem_of_getElem? (i := 8) (by decide +kernel)) rfl⟩
def mX7_refuse : MD := (yX7_refuse, cX7_refuse, 2, (some .int), 1)
theorem okX7_refuse : MDok mX7_refuse := ⟨by decide +kernel, ⟨by decide +kernel, by decide +kernel, by decide +kernel⟩, by decide, inG (List.mem_of_getElem? (i := 1006) (by decide +kernel)) rfl, inG (List.mem_of_getElem? (i := 8) (by decide +kernel)) rfl⟩
def mX7_rest : MD := (yX7_rest, cX7_rest, 4, (some .int), 1)
theorem okX7_rest : MDok mX7_rest := ⟨by decide +kernel, ⟨by decide +kernel, by decide +kernel, by decide +kernel⟩, by decide, inG (List.mem_of_getElem? (i := 1418) (by decide +kernel)) rfl, inG (List.mem_of_getElem? (i := 8) (by decide +kernel)) rfl⟩
def mX7_row : MD := (yX7_row, cX7_row, 5, (some .int), 3)
theorem okX7_row : MDok mX7_row := ⟨by decide +kernel, ⟨by decide +kernel, by decide +kernel, by decide +kernel⟩, by decide, inG (List.mem_of_getElem? (i := 996) (by decide +kernel)) rfl, inG (List.mem_of_getElem? (i := 8) (by decide +kernel)) rfl⟩
def mX7_run : MD := (yX7_run, cX7_run, 4, (some .int), 3)
theorem okX7_run : MDok mX7_run := ⟨by decide +kernel, ⟨by decide +kernel, by decide +kernel, by decide +kernel⟩, by decide, inG (List.mem_of_getElem? (i := 1401) (by decide +kernel)) rfl, inG (List.mem_of_getElem? (i := 8) (by decide +kernel)) rfl⟩
def mX7_runTold : MD := (yX7_runTold, cX7_runTold, 2, (some .boolean), 0)
theorem okX7_runTold : MDok mX7_runTold := ⟨by decide +kernel, ⟨by decide +kernel, by decide +kernel, by decide +kernel⟩, by decide, inG (List.mem_of_getElem? (i := 1171) (by decide +kernel)) rfl, inG (List.mem_of_getElem? (i := 8) (by decide +kernel)) rfl⟩
def mX7_runs : MD := (yX7_runs, cX7_runs, 6, (some .int), 1)
theorem okX7_runs : MDok mX7_runs := ⟨by decide +kernel, ⟨by decide +kernel, by decide +kernel, by decide +kernel⟩, by decide, inG (List.mem_of_getElem? (i := 1414) (by decide +kernel)) rfl, inG (List.mem_of_getElem? (i := 8) (by decide +kernel)) rfl⟩
def mX7_runsHeld : MD := (yX7_runsHeld, cX7_runsHeld, 4, none, 2)
theorem okX7_runsHeld : MDok mX7_runsHeld := ⟨by decide +kernel, ⟨by decide +kernel, by decide +kernel, by decide +kernel⟩, by decide, inG (List.mem_of_getElem? (i := 1204) (by decide +kernel)) rfl, inG (List.mem_of_getElem? (i := 8) (by decide +kernel)) rfl⟩
def mX7_runsTorn : MD := (yX7_runsTorn, cX7_runsTorn, 6, none, 3)
theorem okX7_runsTorn : MDok mX7_runsTorn := ⟨by decide +kernel, ⟨by decide +kernel, by decide +kernel, by decide +kernel⟩, by decide, inG (List.mem_of_getElem? (i := 1188) (by decide +kernel)) rfl, inG (List.mem_of_getElem? (i := 8) (by decide +kernel)) rfl⟩
def mX7_says : MD := (yX7_says, cX7_says, 7, (some .int), 2)
theorem okX7_says : MDok mX7_says := ⟨by decide +kernel, ⟨by decide +kernel, by decide +kernel, by decide +kernel⟩, by decide, inG (List.mem_of_getElem? (i := 1041) (by decide +kernel)) rfl, inG (List.mem_of_getElem? (i := 8) (by decide +kernel)) rfl⟩
def mX7_seed : MD := (yX7_seed, cX7_seed, 3, (some .int), 1)
theorem okX7_seed : MDok mX7_seed := ⟨by decide +kernel, ⟨by decide +kernel, by decide +kernel, by decide +kernel⟩, by decide, inG (List.mem_of_getElem? (i := 1426) (by decide +kernel)) rfl, inG (List.mem_of_getElem? (i := 8) (by decide +kernel)) rfl⟩
def mX7_seekStand : MD := (yX7_seekStand, cX7_seekStand, 6, none, 3)
theorem okX7_seekStand : MDok mX7_seekStand := ⟨by decide +kernel, ⟨by decide +kernel, by decide +kernel, by decide +kernel⟩, by decide, inG (List.mem_of_getElem? (i := 1318) (by decide +kernel)) rfl, inG (List.mem_of_getElem? (i := 8) (by decide +kernel)) rfl⟩
def mX7_set : MD := (yX7_set, cX7_set, 6, (some .int), 3)
theorem okX7_set : MDok mX7_set := ⟨by decide +kernel, ⟨by decide +kernel, by decide +kernel, by decide +kernel⟩, by decide, inG (List.mem_of_getElem? (i := 1010) (by decide +kernel)) rfl, inG (List.mem_of_getElem? (i := 8) (by decide +kernel)) rfl⟩
def mX7_show : MD := (yX7_show, cX7_show, 3, (some .int), 2)
theorem okX7_show : MDok mX7_show := ⟨by decide +kernel, ⟨by decide +kernel, by decide +kernel, by decide +kernel⟩, by decide, inG (List.mem_of_getElem? (i := 1033) (by decide +kernel)) rfl, inG (List.mem_of_getElem? (i := 8) (by decide +kernel)) rfl⟩
def mX7_spreadFor : MD := (yX7_spreadFor, cX7_spreadFor, 5, (some .int), 2)
theorem okX7_spreadFor : MDok mX7_spreadFor := ⟨by decide +kernel, ⟨by decide +kernel, by decide +kernel, by decide +kernel⟩, by decide, inG (List.mem_of_getElem? (i := 1249) (by decide +kernel)) rfl, inG (List.mem_of_getElem? (i := 8) (by decide +kernel)) rfl⟩
def mX7_stand : MD := (yX7_stand, cX7_stand, 3, (some .int), 2)
theorem okX7_stand : MDok mX7_stand := ⟨by decide +kernel, ⟨by decide +kernel, by decide +kernel, by decide +kernel⟩, by decide, inG (List.mem_of_getElem? (i := 1310) (by decide +kernel)) rfl, inG (List.mem_of_getElem? (i := 8) (by decide +kernel)) rfl⟩
def mX7_statement : MD := (yX7_statement, cX7_statement, 1, (some .boolean), 0)
theorem okX7_statement : MDok mX7_statement := ⟨by decide +kernel, ⟨by decide +kernel, by decide +kernel, by decide +kernel⟩, by decide, inG (List.mem_of_getElem? (i := 1138) (by decide +kernel)) rfl, inG (List.mem_of_getElem? (i := 8) (by decide +kernel)) rfl⟩
def mX7_status : MD := (yX7_status, cX7_status, 4, (some .int), 1)
theorem okX7_status : MDok mX7_status := ⟨by decide +kernel, ⟨by decide +kernel, by decide +kernel, by decide +kernel⟩, by decide, inG (List.mem_of_getElem? (i := 1438) (by decide +kernel)) rfl, inG (List.mem_of_getElem? (i := 8) (by decide +kernel)) rfl⟩
def mX7_strength : MD := (yX7_strength, cX7_strength, 3, (some .int), 2)
theorem okX7_strength : MDok mX7_strength := ⟨by decide +kernel, ⟨by decide +kernel, by decide +kernel, by decide +kernel⟩, by decide, inG (List.mem_of_getElem? (i := 1217) (by decide +kernel)) rfl, inG (List.mem_of_getElem? (i := 8) (by decide +kernel)) rfl⟩
def mX7_strengthOf : MD := (yX7_strengthOf, cX7_strengthOf, 5, (some .int), 3)
theorem okX7_strengthOf : MDok mX7_strengthOf := ⟨by decide +kernel, ⟨by decide +kernel, by decide +kernel, by decide +kernel⟩, by decide, inG (List.mem_of_getElem? (i := 1183) (by decide +kernel)) rfl, inG (List.mem_of_getElem? (i := 8) (by decide +kernel)) rfl⟩
def mX7_strongest : MD := (yX7_strongest, cX7_strongest, 4, (some .int), 1)
theorem okX7_strongest : MDok mX7_strongest := ⟨by decide +kernel, ⟨by decide +kernel, by decide +kernel, by decide +kernel⟩, by decide, inG (List.mem_of_getElem? (i := 1233) (by decide +kernel)) rfl, inG (List.mem_of_getElem? (i := 8) (by decide +kernel)) rfl⟩
def mX7_swap : MD := (yX7_swap, cX7_swap, 8, (some .int), 2)
theorem okX7_swap : MDok mX7_swap := ⟨by decide +kernel, ⟨by decide +kernel, by decide +kernel, by decide +kernel⟩, by decide, inG (List.mem_of_getElem? (i := 1334) (by decide +kernel)) rfl, inG (List.mem_of_getElem? (i := 8) (by decide +kernel)) rfl⟩
def mX7_take : MD := (yX7_take, cX7_take, 2, (some .int), 1)
theorem okX7_take : MDok mX7_take := ⟨by decide +kernel, ⟨by decide +kernel, by decide +kernel, by decide +kernel⟩, by decide, inG (List.mem_of_getElem? (i := 1281) (by decide +kernel)) rfl, inG (List.mem_of_getElem? (i := 8) (by decide +kernel)) rfl⟩
def mX7_takeAt : MD := (yX7_takeAt, cX7_takeAt, 4, (some .int), 1)
theorem okX7_takeAt : MDok mX7_takeAt := ⟨by decide +kernel, ⟨by decide +kernel, by decide +kernel, by decide +kernel⟩, by decide, inG (List.mem_of_getElem? (i := 1285) (by decide +kernel)) rfl, inG (List.mem_of_getElem? (i := 8) (by decide +kernel)) rfl⟩
def mX7_takeFrom : MD := (yX7_takeFrom, cX7_takeFrom, 2, none, 1)
theorem okX7_takeFrom : MDok mX7_takeFrom := ⟨by decide +kernel, ⟨by decide +kernel, by decide +kernel, by decide +kernel⟩, by decide, inG (List.mem_of_getElem? (i := 1117) (by decide +kernel)) rfl, inG (List.mem_of_getElem? (i := 8) (by decide +kernel)) rfl⟩
def mX7_tell : MD := (yX7_tell, cX7_tell, 6, (some .int), 3)
theorem okX7_tell : MDok mX7_tell := ⟨by decide +kernel, ⟨by decide +kernel, by decide +kernel, by decide +kernel⟩, by decide, inG (List.mem_of_getElem? (i := 1075) (by decide +kernel)) rfl, inG (List.mem_of_getElem? (i := 8) (by decide +kernel)) rfl⟩
def mX7_tells : MD := (yX7_tells, cX7_tells, 3, (some .boolean), 2)
theorem okX7_tells : MDok mX7_tells := ⟨by decide +kernel, ⟨by decide +kernel, by decide +kernel, by decide +kernel⟩, by decide, inG (List.mem_of_getElem? (i := 1149) (by decide +kernel)) rfl, inG (List.mem_of_getElem? (i := 8) (by decide +kernel)) rfl⟩
def mX7_tiredest : MD := (yX7_tiredest, cX7_tiredest, 3, (some .int), 0)
theorem okX7_tiredest : MDok mX7_tiredest := ⟨by decide +kernel, ⟨by decide +kernel, by decide +kernel, by decide +kernel⟩, by decide, inG (List.mem_of_getElem? (i := 1245) (by decide +kernel)) rfl, inG (List.mem_of_getElem? (i := 8) (by decide +kernel)) rfl⟩
def mX7_tires : MD := (yX7_tires, cX7_tires, 4, none, 1)
theorem okX7_tires : MDok mX7_tires := ⟨by decide +kernel, ⟨by decide +kernel, by decide +kernel, by decide +kernel⟩, by decide, inG (List.mem_of_getElem? (i := 1192) (by decide +kernel)) rfl, inG (List.mem_of_getElem? (i := 8) (by decide +kernel)) rfl⟩
def mX7_together : MD := (yX7_together, cX7_together, 2, (some .int), 1)
theorem okX7_together : MDok mX7_together := ⟨by decide +kernel, ⟨by decide +kernel, by decide +kernel, by decide +kernel⟩, by decide, inG (List.mem_of_getElem? (i := 1326) (by decide +kernel)) rfl, inG (List.mem_of_getElem? (i := 8) (by decide +kernel)) rfl⟩
def mX7_togetherIn : MD := (yX7_togetherIn, cX7_togetherIn, 8, (some .int), 4)
theorem okX7_togetherIn : MDok mX7_togetherIn := ⟨by decide +kernel, ⟨by decide +kernel, by decide +kernel, by decide +kernel⟩, by decide, inG (List.mem_of_getElem? (i := 1330) (by decide +kernel)) rfl, inG (List.mem_of_getElem? (i := 8) (by decide +kernel)) rfl⟩
def mX7_weakest : MD := (yX7_weakest, cX7_weakest, 3, (some .int), 1)
theorem okX7_weakest : MDok mX7_weakest := ⟨by decide +kernel, ⟨by decide +kernel, by decide +kernel, by decide +kernel⟩, by decide, inG (List.mem_of_getElem? (i := 1225) (by decide +kernel)) rfl, inG (List.mem_of_getElem? (i := 8) (by decide +kernel)) rfl⟩
def mX7_wipe : MD := (yX7_wipe, cX7_wipe, 2, (some .int), 0)
theorem okX7_wipe : MDok mX7_wipe := ⟨by decide +kernel, ⟨by decide +kernel, by decide +kernel, by decide +kernel⟩, by decide, inG (List.mem_of_getElem? (i := 1103) (by decide +kernel)) rfl, inG (List.mem_of_getElem? (i := 8) (by decide +kernel)) rfl⟩
def mX7_won : MD := (yX7_won, cX7_won, 1, (some .int), 0)
theorem okX7_won : MDok mX7_won := ⟨by decide +kernel, ⟨by decide +kernel, by decide +kernel, by decide +kernel⟩, by decide, inG (List.mem_of_getElem? (i := 1261) (by decide +kernel)) rfl, inG (List.mem_of_getElem? (i := 8) (by decide +kernel)) rfl⟩
def mX7_wonNow : MD := (yX7_wonNow, cX7_wonNow, 1, (some .int), 0)
theorem okX7_wonNow : MDok mX7_wonNow := ⟨by decide +kernel, ⟨by decide +kernel, by decide +kernel, by decide +kernel⟩, by decide, inG (List.mem_of_getElem? (i := 1265) (by decide +kernel)) rfl, inG (List.mem_of_getElem? (i := 8) (by decide +kernel)) rfl⟩
def mX7_worth : MD := (yX7_worth, cX7_worth, 2, (some .int), 1)
theorem okX7_worth : MDok mX7_worth := ⟨by decide +kernel, ⟨by decide +kernel, by decide +kernel, by decide +kernel⟩, by decide, inG (List.mem_of_getElem? (i := 1322) (by decide +kernel)) rfl, inG (List.mem_of_getElem? (i := 8) (by decide +kernel)) rfl⟩
def mX7_wrong : MD := (yX7_wrong, cX7_wrong, 1, (some .boolean), 0)
theorem okX7_wrong : MDok mX7_wrong := ⟨by decide +kernel, ⟨by decide +kernel, by decide +kernel, by decide +kernel⟩, by decide, inG (List.mem_of_getElem? (i := 1157) (by decide +kernel)) rfl, inG (List.mem_of_getElem? (i := 8) (by decide +kernel)) rfl⟩
def mX7_wrongIn : MD := (yX7_wrongIn, cX7_wrongIn, 5, (some .int), 2)
theorem okX7_wrongIn : MDok mX7_wrongIn := ⟨by decide +kernel, ⟨by decide +kernel, by decide +kernel, by decide +kernel⟩, by decide, inG (List.mem_of_getElem? (i := 1370) (by decide +kernel)) rfl, inG (List.mem_of_getElem? (i := 8) (by decide +kernel)) rfl⟩
def mX7_yard : MD := (yX7_yard, cX7_yard, 3, (some .int), 0)
theorem okX7_yard : MDok mX7_yard := ⟨by decide +kernel, ⟨by decide +kernel, by decide +kernel, by decide +kernel⟩, by decide, inG (List.mem_of_getElem? (i := 1107) (by decide +kernel)) rfl, inG (List.mem_of_getElem? (i := 8) (by decide +kernel)) rfl⟩
def mX7_yardsFor : MD := (yX7_yardsFor, cX7_yardsFor, 5, (some .int), 2)
theorem okX7_yardsFor : MDok mX7_yardsFor := ⟨by decide +kernel, ⟨by decide +kernel, by decide +kernel, by decide +kernel⟩, by decide, inG (List.mem_of_getElem? (i := 1253) (by decide +kernel)) rfl, inG (List.mem_of_getElem? (i := 8) (by decide +kernel)) rfl⟩
theorem lk_X6_24 : ILk RX6 24 mX2_init := ⟨inG (List.mem_of_getElem? (i := 114) (by decide +kernel)) rfl, inG (List.mem_of_getElem? (i := 115) (by decide +kernel)) rfl, rfl⟩
theorem lk_X6_33 : ILk RX6 33 mX0_init := ⟨inG (List.mem_of_getElem? (i := 132) (by decide +kernel)) rfl, inG (List.mem_of_getElem? (i := 133) (by decide +kernel)) rfl, rfl⟩
theorem lk_X6_63 : SLk RX6 63 mX6_isShelf := ⟨inG (List.mem_of_getElem? (i := 257) (by decide +kernel)) rfl, inG (List.mem_of_getElem? (i := 258) (by decide +kernel)) rfl⟩
theorem lk_X6_67 : VLk RX6 67 mX6_refuse := ⟨inG (List.mem_of_getElem? (i := 260) (by decide +kernel)) rfl, inG (List.mem_of_getElem? (i := 262) (by decide +kernel)) rfl, inGs (List.mem_append_left _ (List.mem_of_getElem? (i := 0) (by decide +kernel))) rfl⟩
theorem lk_X6_71 : VLk RX6 71 mX3_putRow := ⟨inG (List.mem_of_getElem? (i := 264) (by decide +kernel)) rfl, inG (List.mem_of_getElem? (i := 265) (by decide +kernel)) rfl, inG (List.mem_of_getElem? (i := 266) (by decide +kernel)) rfl⟩
theorem lk_X6_75 : VLk RX6 75 mX6_faultOfRow := ⟨inG (List.mem_of_getElem? (i := 272) (by decide +kernel)) rfl, inG (List.mem_of_getElem? (i := 274) (by decide +kernel)) rfl, inGs (List.mem_append_left _ (List.mem_of_getElem? (i := 1) (by decide +kernel))) rfl⟩
theorem lk_X6_83 : VLk RX6 83 mX3_putElement := ⟨inG (List.mem_of_getElem? (i := 284) (by decide +kernel)) rfl, inG (List.mem_of_getElem? (i := 285) (by decide +kernel)) rfl, inG (List.mem_of_getElem? (i := 286) (by decide +kernel)) rfl⟩
theorem lk_X6_90 : VLk RX6 90 mX3_isSomebody := ⟨inG (List.mem_of_getElem? (i := 276) (by decide +kernel)) rfl, inG (List.mem_of_getElem? (i := 277) (by decide +kernel)) rfl, inG (List.mem_of_getElem? (i := 278) (by decide +kernel)) rfl⟩
theorem lk_X6_94 : VLk RX6 94 mX3_hasStretch := ⟨inG (List.mem_of_getElem? (i := 292) (by decide +kernel)) rfl, inG (List.mem_of_getElem? (i := 293) (by decide +kernel)) rfl, inG (List.mem_of_getElem? (i := 294) (by decide +kernel)) rfl⟩
theorem lk_X6_108 : VLk RX6 108 mX3_isRow := ⟨inG (List.mem_of_getElem? (i := 280) (by decide +kernel)) rfl, inG (List.mem_of_getElem? (i := 281) (by decide +kernel)) rfl, inG (List.mem_of_getElem? (i := 282) (by decide +kernel)) rfl⟩
theorem lk_X6_111 : VLk RX6 111 mX5_has := ⟨inG (List.mem_of_getElem? (i := 311) (by decide +kernel)) rfl, inG (List.mem_of_getElem? (i := 312) (by decide +kernel)) rfl, inG (List.mem_of_getElem? (i := 313) (by decide +kernel)) rfl⟩
theorem lk_X6_117 : SLk RX6 117 mX6_isUnder := ⟨inG (List.mem_of_getElem? (i := 319) (by decide +kernel)) rfl, inG (List.mem_of_getElem? (i := 320) (by decide +kernel)) rfl⟩
theorem lk_X6_123 : VLk RX6 123 mX5_holdOf := ⟨inG (List.mem_of_getElem? (i := 324) (by decide +kernel)) rfl, inG (List.mem_of_getElem? (i := 325) (by decide +kernel)) rfl, inG (List.mem_of_getElem? (i := 326) (by decide +kernel)) rfl⟩
theorem lk_X6_126 : VLk RX6 126 mX5_sistersIn := ⟨inG (List.mem_of_getElem? (i := 328) (by decide +kernel)) rfl, inG (List.mem_of_getElem? (i := 329) (by decide +kernel)) rfl, inG (List.mem_of_getElem? (i := 330) (by decide +kernel)) rfl⟩
theorem lk_X6_129 : VLk RX6 129 mX5_forceOf := ⟨inG (List.mem_of_getElem? (i := 332) (by decide +kernel)) rfl, inG (List.mem_of_getElem? (i := 333) (by decide +kernel)) rfl, inG (List.mem_of_getElem? (i := 334) (by decide +kernel)) rfl⟩
theorem lk_X6_132 : SLk RX6 132 mX6_isChain := ⟨inG (List.mem_of_getElem? (i := 340) (by decide +kernel)) rfl, inG (List.mem_of_getElem? (i := 341) (by decide +kernel)) rfl⟩
theorem lk_X6_135 : SLk RX6 135 mX6_isLevel := ⟨inG (List.mem_of_getElem? (i := 343) (by decide +kernel)) rfl, inG (List.mem_of_getElem? (i := 344) (by decide +kernel)) rfl⟩
theorem lk_X6_141 : VLk RX6 141 mX5_add := ⟨inG (List.mem_of_getElem? (i := 346) (by decide +kernel)) rfl, inG (List.mem_of_getElem? (i := 347) (by decide +kernel)) rfl, inG (List.mem_of_getElem? (i := 348) (by decide +kernel)) rfl⟩
theorem lk_X6_154 : SLk RX6 154 mX6_mayBeAsked := ⟨inG (List.mem_of_getElem? (i := 362) (by decide +kernel)) rfl, inG (List.mem_of_getElem? (i := 363) (by decide +kernel)) rfl⟩
theorem lk_X6_173 : VLk RX6 173 mX4_append := ⟨inG (List.mem_of_getElem? (i := 369) (by decide +kernel)) rfl, inG (List.mem_of_getElem? (i := 370) (by decide +kernel)) rfl, inG (List.mem_of_getElem? (i := 371) (by decide +kernel)) rfl⟩
theorem lk_X6_176 : VLk RX6 176 mX4_clear := ⟨inG (List.mem_of_getElem? (i := 377) (by decide +kernel)) rfl, inG (List.mem_of_getElem? (i := 378) (by decide +kernel)) rfl, inG (List.mem_of_getElem? (i := 379) (by decide +kernel)) rfl⟩
theorem lk_X6_180 : VLk RX6 180 mX5_becomeAs := ⟨inG (List.mem_of_getElem? (i := 385) (by decide +kernel)) rfl, inG (List.mem_of_getElem? (i := 386) (by decide +kernel)) rfl, inG (List.mem_of_getElem? (i := 387) (by decide +kernel)) rfl⟩
theorem lk_X6_183 : VLk RX6 183 mX4_readInto := ⟨inG (List.mem_of_getElem? (i := 390) (by decide +kernel)) rfl, inG (List.mem_of_getElem? (i := 391) (by decide +kernel)) rfl, inG (List.mem_of_getElem? (i := 392) (by decide +kernel)) rfl⟩
theorem lk_X6_193 : VLk RX6 193 mX5_placeOf := ⟨inG (List.mem_of_getElem? (i := 533) (by decide +kernel)) rfl, inG (List.mem_of_getElem? (i := 534) (by decide +kernel)) rfl, inG (List.mem_of_getElem? (i := 535) (by decide +kernel)) rfl⟩
theorem lk_X6_196 : VLk RX6 196 mX5_hasPlace := ⟨inG (List.mem_of_getElem? (i := 541) (by decide +kernel)) rfl, inG (List.mem_of_getElem? (i := 542) (by decide +kernel)) rfl, inG (List.mem_of_getElem? (i := 543) (by decide +kernel)) rfl⟩
theorem lk_X6_205 : VLk RX6 205 mX5_hasJoint := ⟨inG (List.mem_of_getElem? (i := 549) (by decide +kernel)) rfl, inG (List.mem_of_getElem? (i := 550) (by decide +kernel)) rfl, inG (List.mem_of_getElem? (i := 551) (by decide +kernel)) rfl⟩
theorem lk_X6_208 : VLk RX6 208 mX5_strengthAt := ⟨inG (List.mem_of_getElem? (i := 553) (by decide +kernel)) rfl, inG (List.mem_of_getElem? (i := 494) (by decide +kernel)) rfl, inG (List.mem_of_getElem? (i := 495) (by decide +kernel)) rfl⟩
theorem lk_X6_211 : VLk RX6 211 mX5_weakestJoint := ⟨inG (List.mem_of_getElem? (i := 558) (by decide +kernel)) rfl, inG (List.mem_of_getElem? (i := 559) (by decide +kernel)) rfl, inG (List.mem_of_getElem? (i := 560) (by decide +kernel)) rfl⟩
theorem lk_X6_214 : VLk RX6 214 mX5_strongestJoint := ⟨inG (List.mem_of_getElem? (i := 567) (by decide +kernel)) rfl, inG (List.mem_of_getElem? (i := 568) (by decide +kernel)) rfl, inG (List.mem_of_getElem? (i := 569) (by decide +kernel)) rfl⟩
theorem lk_X6_217 : VLk RX6 217 mX5_mostForceful := ⟨inG (List.mem_of_getElem? (i := 575) (by decide +kernel)) rfl, inG (List.mem_of_getElem? (i := 576) (by decide +kernel)) rfl, inG (List.mem_of_getElem? (i := 577) (by decide +kernel)) rfl⟩
theorem lk_X6_220 : VLk RX6 220 mX6_faultOfRunner := ⟨inG (List.mem_of_getElem? (i := 583) (by decide +kernel)) rfl, inG (List.mem_of_getElem? (i := 585) (by decide +kernel)) rfl, inGs (List.mem_append_left _ (List.mem_of_getElem? (i := 11) (by decide +kernel))) rfl⟩
theorem lk_X6_223 : VLk RX6 223 mX5_oddsOf := ⟨inG (List.mem_of_getElem? (i := 588) (by decide +kernel)) rfl, inG (List.mem_of_getElem? (i := 589) (by decide +kernel)) rfl, inG (List.mem_of_getElem? (i := 590) (by decide +kernel)) rfl⟩
theorem lk_X6_226 : VLk RX6 226 mX5_isCalled := ⟨inG (List.mem_of_getElem? (i := 587) (by decide +kernel)) rfl, inG (List.mem_of_getElem? (i := 486) (by decide +kernel)) rfl, inG (List.mem_of_getElem? (i := 487) (by decide +kernel)) rfl⟩
theorem lk_X6_229 : VLk RX6 229 mX5_isOver := ⟨inG (List.mem_of_getElem? (i := 596) (by decide +kernel)) rfl, inG (List.mem_of_getElem? (i := 482) (by decide +kernel)) rfl, inG (List.mem_of_getElem? (i := 483) (by decide +kernel)) rfl⟩
theorem lk_X6_232 : VLk RX6 232 mX5_jointFor := ⟨inG (List.mem_of_getElem? (i := 597) (by decide +kernel)) rfl, inG (List.mem_of_getElem? (i := 598) (by decide +kernel)) rfl, inG (List.mem_of_getElem? (i := 599) (by decide +kernel)) rfl⟩
theorem lk_X6_235 : VLk RX6 235 mX5_sideTaken := ⟨inG (List.mem_of_getElem? (i := 606) (by decide +kernel)) rfl, inG (List.mem_of_getElem? (i := 607) (by decide +kernel)) rfl, inG (List.mem_of_getElem? (i := 608) (by decide +kernel)) rfl⟩
theorem lk_X6_238 : VLk RX6 238 mX5_whoIsCalled := ⟨inG (List.mem_of_getElem? (i := 614) (by decide +kernel)) rfl, inG (List.mem_of_getElem? (i := 615) (by decide +kernel)) rfl, inG (List.mem_of_getElem? (i := 616) (by decide +kernel)) rfl⟩
theorem lk_X6_241 : VLk RX6 241 mX5_winner := ⟨inG (List.mem_of_getElem? (i := 630) (by decide +kernel)) rfl, inG (List.mem_of_getElem? (i := 631) (by decide +kernel)) rfl, inG (List.mem_of_getElem? (i := 632) (by decide +kernel)) rfl⟩
theorem lk_X6_244 : SLk RX6 244 mX6_isRule := ⟨inG (List.mem_of_getElem? (i := 647) (by decide +kernel)) rfl, inG (List.mem_of_getElem? (i := 648) (by decide +kernel)) rfl⟩
theorem lk_X6_247 : VLk RX6 247 mX2_playFrom := ⟨inG (List.mem_of_getElem? (i := 650) (by decide +kernel)) rfl, inG (List.mem_of_getElem? (i := 651) (by decide +kernel)) rfl, inG (List.mem_of_getElem? (i := 652) (by decide +kernel)) rfl⟩
theorem lk_X6_254 : VLk RX6 254 mX1_findBest := ⟨inG (List.mem_of_getElem? (i := 667) (by decide +kernel)) rfl, inG (List.mem_of_getElem? (i := 668) (by decide +kernel)) rfl, inG (List.mem_of_getElem? (i := 669) (by decide +kernel)) rfl⟩
theorem lk_X6_261 : VLk RX6 261 mX5_leastStrength := ⟨inG (List.mem_of_getElem? (i := 688) (by decide +kernel)) rfl, inG (List.mem_of_getElem? (i := 619) (by decide +kernel)) rfl, inG (List.mem_of_getElem? (i := 620) (by decide +kernel)) rfl⟩
theorem lk_X6_264 : VLk RX6 264 mX5_leave := ⟨inG (List.mem_of_getElem? (i := 693) (by decide +kernel)) rfl, inG (List.mem_of_getElem? (i := 517) (by decide +kernel)) rfl, inG (List.mem_of_getElem? (i := 518) (by decide +kernel)) rfl⟩
theorem lk_X6_268 : VLk RX6 268 mX5_enter := ⟨inG (List.mem_of_getElem? (i := 694) (by decide +kernel)) rfl, inG (List.mem_of_getElem? (i := 351) (by decide +kernel)) rfl, inG (List.mem_of_getElem? (i := 352) (by decide +kernel)) rfl⟩
theorem lk_X6_272 : VLk RX6 272 mX5_firmestPair := ⟨inG (List.mem_of_getElem? (i := 699) (by decide +kernel)) rfl, inG (List.mem_of_getElem? (i := 700) (by decide +kernel)) rfl, inG (List.mem_of_getElem? (i := 701) (by decide +kernel)) rfl⟩
theorem lk_X6_275 : VLk RX6 275 mX5_mostTired := ⟨inG (List.mem_of_getElem? (i := 707) (by decide +kernel)) rfl, inG (List.mem_of_getElem? (i := 708) (by decide +kernel)) rfl, inG (List.mem_of_getElem? (i := 709) (by decide +kernel)) rfl⟩
theorem lk_X6_286 : VLk RX6 286 mX0_valueFrom := ⟨inG (List.mem_of_getElem? (i := 730) (by decide +kernel)) rfl, inG (List.mem_of_getElem? (i := 731) (by decide +kernel)) rfl, inG (List.mem_of_getElem? (i := 732) (by decide +kernel)) rfl⟩
theorem lk_X6_292 : SLk RX6 292 mX6_ordersTogether := ⟨inG (List.mem_of_getElem? (i := 761) (by decide +kernel)) rfl, inG (List.mem_of_getElem? (i := 762) (by decide +kernel)) rfl⟩
theorem lk_X6_295 : VLk RX6 295 mX5_changePlaces := ⟨inG (List.mem_of_getElem? (i := 768) (by decide +kernel)) rfl, inG (List.mem_of_getElem? (i := 769) (by decide +kernel)) rfl, inG (List.mem_of_getElem? (i := 770) (by decide +kernel)) rfl⟩
theorem lk_X6_299 : VLk RX6 299 mX6_followBook := ⟨inG (List.mem_of_getElem? (i := 781) (by decide +kernel)) rfl, inG (List.mem_of_getElem? (i := 783) (by decide +kernel)) rfl, inGs (List.mem_append_left _ (List.mem_of_getElem? (i := 17) (by decide +kernel))) rfl⟩
theorem lk_X6_306 : VLk RX6 306 mX6_isOrderOf := ⟨inG (List.mem_of_getElem? (i := 806) (by decide +kernel)) rfl, inG (List.mem_of_getElem? (i := 808) (by decide +kernel)) rfl, inGs (List.mem_append_left _ (List.mem_of_getElem? (i := 18) (by decide +kernel))) rfl⟩
theorem lk_X6_310 : VLk RX6 310 mX5_runByDraw := ⟨inG (List.mem_of_getElem? (i := 818) (by decide +kernel)) rfl, inG (List.mem_of_getElem? (i := 819) (by decide +kernel)) rfl, inG (List.mem_of_getElem? (i := 820) (by decide +kernel)) rfl⟩
theorem lk_X6_314 : VLk RX6 314 mX5_restAll := ⟨inG (List.mem_of_getElem? (i := 836) (by decide +kernel)) rfl, inG (List.mem_of_getElem? (i := 837) (by decide +kernel)) rfl, inG (List.mem_of_getElem? (i := 838) (by decide +kernel)) rfl⟩
theorem lk_X6_324 : VLk RX6 324 mX5_allTired := ⟨inG (List.mem_of_getElem? (i := 861) (by decide +kernel)) rfl, inG (List.mem_of_getElem? (i := 862) (by decide +kernel)) rfl, inG (List.mem_of_getElem? (i := 863) (by decide +kernel)) rfl⟩
theorem lk_X6_327 : VLk RX6 327 mX6_shelvesInUse := ⟨inG (List.mem_of_getElem? (i := 865) (by decide +kernel)) rfl, inG (List.mem_of_getElem? (i := 867) (by decide +kernel)) rfl, inGs (List.mem_append_left _ (List.mem_of_getElem? (i := 19) (by decide +kernel))) rfl⟩
theorem lk_X6_335 : VLk RX6 335 mX5_mayRun := ⟨inG (List.mem_of_getElem? (i := 786) (by decide +kernel)) rfl, inG (List.mem_of_getElem? (i := 787) (by decide +kernel)) rfl, inG (List.mem_of_getElem? (i := 788) (by decide +kernel)) rfl⟩
theorem lk_X6_338 : VLk RX6 338 mX5_canEnd := ⟨inG (List.mem_of_getElem? (i := 792) (by decide +kernel)) rfl, inG (List.mem_of_getElem? (i := 490) (by decide +kernel)) rfl, inG (List.mem_of_getElem? (i := 491) (by decide +kernel)) rfl⟩
theorem lk_X6_341 : VLk RX6 341 mX5_comeToPass := ⟨inG (List.mem_of_getElem? (i := 793) (by decide +kernel)) rfl, inG (List.mem_of_getElem? (i := 509) (by decide +kernel)) rfl, inG (List.mem_of_getElem? (i := 510) (by decide +kernel)) rfl⟩
theorem lk_X0_18 : VLk RX0 18 mX5_becomeAs := ⟨inG (List.mem_of_getElem? (i := 734) (by decide +kernel)) rfl, inG (List.mem_of_getElem? (i := 386) (by decide +kernel)) rfl, inG (List.mem_of_getElem? (i := 387) (by decide +kernel)) rfl⟩
theorem lk_X0_22 : VLk RX0 22 mX0_mostByCall := ⟨inG (List.mem_of_getElem? (i := 735) (by decide +kernel)) rfl, inG (List.mem_of_getElem? (i := 737) (by decide +kernel)) rfl, inGs (List.mem_append_left _ (List.mem_of_getElem? (i := 14) (by decide +kernel))) rfl⟩
theorem lk_X0_26 : VLk RX0 26 mX5_isOver := ⟨inG (List.mem_of_getElem? (i := 739) (by decide +kernel)) rfl, inG (List.mem_of_getElem? (i := 482) (by decide +kernel)) rfl, inG (List.mem_of_getElem? (i := 483) (by decide +kernel)) rfl⟩
theorem lk_X0_41 : VLk RX0 41 mX5_isCalled := ⟨inG (List.mem_of_getElem? (i := 740) (by decide +kernel)) rfl, inG (List.mem_of_getElem? (i := 486) (by decide +kernel)) rfl, inG (List.mem_of_getElem? (i := 487) (by decide +kernel)) rfl⟩
theorem lk_X0_45 : VLk RX0 45 mX0_leastByRun := ⟨inG (List.mem_of_getElem? (i := 741) (by decide +kernel)) rfl, inG (List.mem_of_getElem? (i := 743) (by decide +kernel)) rfl, inGs (List.mem_append_left _ (List.mem_of_getElem? (i := 15) (by decide +kernel))) rfl⟩
theorem lk_X0_52 : VLk RX0 52 mX5_forceOf := ⟨inG (List.mem_of_getElem? (i := 745) (by decide +kernel)) rfl, inG (List.mem_of_getElem? (i := 333) (by decide +kernel)) rfl, inG (List.mem_of_getElem? (i := 334) (by decide +kernel)) rfl⟩
theorem lk_X0_55 : VLk RX0 55 mX5_strengthAt := ⟨inG (List.mem_of_getElem? (i := 746) (by decide +kernel)) rfl, inG (List.mem_of_getElem? (i := 494) (by decide +kernel)) rfl, inG (List.mem_of_getElem? (i := 495) (by decide +kernel)) rfl⟩
theorem lk_X0_58 : VLk RX0 58 mX0_valueBehind := ⟨inG (List.mem_of_getElem? (i := 747) (by decide +kernel)) rfl, inG (List.mem_of_getElem? (i := 749) (by decide +kernel)) rfl, inGs (List.mem_append_left _ (List.mem_of_getElem? (i := 16) (by decide +kernel))) rfl⟩
theorem lk_X0_67 : VLk RX0 67 mX5_comeToPass := ⟨inG (List.mem_of_getElem? (i := 751) (by decide +kernel)) rfl, inG (List.mem_of_getElem? (i := 509) (by decide +kernel)) rfl, inG (List.mem_of_getElem? (i := 510) (by decide +kernel)) rfl⟩
theorem lk_X1_49 : VLk RX1 49 mX1_fillFrom := ⟨inG (List.mem_of_getElem? (i := 673) (by decide +kernel)) rfl, inG (List.mem_of_getElem? (i := 675) (by decide +kernel)) rfl, inGs (List.mem_append_left _ (List.mem_of_getElem? (i := 12) (by decide +kernel))) rfl⟩
theorem lk_X1_59 : VLk RX1 59 mX1_strengthBehind := ⟨inG (List.mem_of_getElem? (i := 677) (by decide +kernel)) rfl, inG (List.mem_of_getElem? (i := 679) (by decide +kernel)) rfl, inGs (List.mem_append_left _ (List.mem_of_getElem? (i := 13) (by decide +kernel))) rfl⟩
theorem lk_X1_68 : VLk RX1 68 mX5_holdOf := ⟨inG (List.mem_of_getElem? (i := 681) (by decide +kernel)) rfl, inG (List.mem_of_getElem? (i := 325) (by decide +kernel)) rfl, inG (List.mem_of_getElem? (i := 326) (by decide +kernel)) rfl⟩
theorem lk_X1_71 : VLk RX1 71 mX5_strengthBy := ⟨inG (List.mem_of_getElem? (i := 682) (by decide +kernel)) rfl, inG (List.mem_of_getElem? (i := 499) (by decide +kernel)) rfl, inG (List.mem_of_getElem? (i := 500) (by decide +kernel)) rfl⟩
theorem lk_X2_15 : VLk RX2 15 mX5_becomeAs := ⟨inG (List.mem_of_getElem? (i := 654) (by decide +kernel)) rfl, inG (List.mem_of_getElem? (i := 386) (by decide +kernel)) rfl, inG (List.mem_of_getElem? (i := 387) (by decide +kernel)) rfl⟩
theorem lk_X2_28 : VLk RX2 28 mX5_isOver := ⟨inG (List.mem_of_getElem? (i := 655) (by decide +kernel)) rfl, inG (List.mem_of_getElem? (i := 482) (by decide +kernel)) rfl, inG (List.mem_of_getElem? (i := 483) (by decide +kernel)) rfl⟩
theorem lk_X2_32 : VLk RX2 32 mX5_whoIsCalled := ⟨inG (List.mem_of_getElem? (i := 656) (by decide +kernel)) rfl, inG (List.mem_of_getElem? (i := 615) (by decide +kernel)) rfl, inG (List.mem_of_getElem? (i := 616) (by decide +kernel)) rfl⟩
theorem lk_X2_36 : VLk RX2 36 mX5_jointFor := ⟨inG (List.mem_of_getElem? (i := 657) (by decide +kernel)) rfl, inG (List.mem_of_getElem? (i := 598) (by decide +kernel)) rfl, inG (List.mem_of_getElem? (i := 599) (by decide +kernel)) rfl⟩
theorem lk_X2_39 : VLk RX2 39 mX5_oddsOf := ⟨inG (List.mem_of_getElem? (i := 658) (by decide +kernel)) rfl, inG (List.mem_of_getElem? (i := 589) (by decide +kernel)) rfl, inG (List.mem_of_getElem? (i := 590) (by decide +kernel)) rfl⟩
theorem lk_X2_44 : VLk RX2 44 mX5_sideTaken := ⟨inG (List.mem_of_getElem? (i := 660) (by decide +kernel)) rfl, inG (List.mem_of_getElem? (i := 607) (by decide +kernel)) rfl, inG (List.mem_of_getElem? (i := 608) (by decide +kernel)) rfl⟩
theorem lk_X2_47 : VLk RX2 47 mX5_comeToPass := ⟨inG (List.mem_of_getElem? (i := 661) (by decide +kernel)) rfl, inG (List.mem_of_getElem? (i := 509) (by decide +kernel)) rfl, inG (List.mem_of_getElem? (i := 510) (by decide +kernel)) rfl⟩
theorem lk_X2_51 : VLk RX2 51 mX5_leader := ⟨inG (List.mem_of_getElem? (i := 662) (by decide +kernel)) rfl, inG (List.mem_of_getElem? (i := 636) (by decide +kernel)) rfl, inG (List.mem_of_getElem? (i := 637) (by decide +kernel)) rfl⟩
theorem lk_X4_25 : VLk RX4 25 mX4_toNextToken := ⟨inG (List.mem_of_getElem? (i := 394) (by decide +kernel)) rfl, inG (List.mem_of_getElem? (i := 396) (by decide +kernel)) rfl, inGs (List.mem_append_left _ (List.mem_of_getElem? (i := 2) (by decide +kernel))) rfl⟩
theorem lk_X4_28 : VLk RX4 28 mX4_readStatement := ⟨inG (List.mem_of_getElem? (i := 401) (by decide +kernel)) rfl, inG (List.mem_of_getElem? (i := 403) (by decide +kernel)) rfl, inGs (List.mem_append_left _ (List.mem_of_getElem? (i := 3) (by decide +kernel))) rfl⟩
theorem lk_X4_40 : VLk RX4 40 mX4_isWord := ⟨inG (List.mem_of_getElem? (i := 406) (by decide +kernel)) rfl, inG (List.mem_of_getElem? (i := 408) (by decide +kernel)) rfl, inGs (List.mem_append_left _ (List.mem_of_getElem? (i := 4) (by decide +kernel))) rfl⟩
theorem lk_X4_44 : VLk RX4 44 mX4_readOne := ⟨inG (List.mem_of_getElem? (i := 458) (by decide +kernel)) rfl, inG (List.mem_of_getElem? (i := 460) (by decide +kernel)) rfl, inGs (List.mem_append_left _ (List.mem_of_getElem? (i := 5) (by decide +kernel))) rfl⟩
theorem lk_X4_49 : VLk RX4 49 mX4_readTired := ⟨inG (List.mem_of_getElem? (i := 472) (by decide +kernel)) rfl, inG (List.mem_of_getElem? (i := 474) (by decide +kernel)) rfl, inGs (List.mem_append_left _ (List.mem_of_getElem? (i := 8) (by decide +kernel))) rfl⟩
theorem lk_X4_54 : VLk RX4 54 mX4_readRun := ⟨inG (List.mem_of_getElem? (i := 477) (by decide +kernel)) rfl, inG (List.mem_of_getElem? (i := 479) (by decide +kernel)) rfl, inGs (List.mem_append_left _ (List.mem_of_getElem? (i := 9) (by decide +kernel))) rfl⟩
theorem lk_X4_59 : VLk RX4 59 mX4_numberBehindWord := ⟨inG (List.mem_of_getElem? (i := 521) (by decide +kernel)) rfl, inG (List.mem_of_getElem? (i := 523) (by decide +kernel)) rfl, inGs (List.mem_append_left _ (List.mem_of_getElem? (i := 10) (by decide +kernel))) rfl⟩
theorem lk_X4_82 : VLk RX4 82 mX4_number := ⟨inG (List.mem_of_getElem? (i := 462) (by decide +kernel)) rfl, inG (List.mem_of_getElem? (i := 464) (by decide +kernel)) rfl, inGs (List.mem_append_left _ (List.mem_of_getElem? (i := 6) (by decide +kernel))) rfl⟩
theorem lk_X4_85 : VLk RX4 85 mX5_add := ⟨inG (List.mem_of_getElem? (i := 470) (by decide +kernel)) rfl, inG (List.mem_of_getElem? (i := 347) (by decide +kernel)) rfl, inG (List.mem_of_getElem? (i := 348) (by decide +kernel)) rfl⟩
theorem lk_X4_91 : VLk RX4 91 mX5_isOver := ⟨inG (List.mem_of_getElem? (i := 481) (by decide +kernel)) rfl, inG (List.mem_of_getElem? (i := 482) (by decide +kernel)) rfl, inG (List.mem_of_getElem? (i := 483) (by decide +kernel)) rfl⟩
theorem lk_X4_95 : VLk RX4 95 mX5_isCalled := ⟨inG (List.mem_of_getElem? (i := 485) (by decide +kernel)) rfl, inG (List.mem_of_getElem? (i := 486) (by decide +kernel)) rfl, inG (List.mem_of_getElem? (i := 487) (by decide +kernel)) rfl⟩
theorem lk_X4_104 : VLk RX4 104 mX5_canEnd := ⟨inG (List.mem_of_getElem? (i := 489) (by decide +kernel)) rfl, inG (List.mem_of_getElem? (i := 490) (by decide +kernel)) rfl, inG (List.mem_of_getElem? (i := 491) (by decide +kernel)) rfl⟩
theorem lk_X4_108 : VLk RX4 108 mX5_comeToPass := ⟨inG (List.mem_of_getElem? (i := 508) (by decide +kernel)) rfl, inG (List.mem_of_getElem? (i := 509) (by decide +kernel)) rfl, inG (List.mem_of_getElem? (i := 510) (by decide +kernel)) rfl⟩
theorem lk_X4_112 : VLk RX4 112 mX4_valueOfToken := ⟨inG (List.mem_of_getElem? (i := 466) (by decide +kernel)) rfl, inG (List.mem_of_getElem? (i := 468) (by decide +kernel)) rfl, inGs (List.mem_append_left _ (List.mem_of_getElem? (i := 7) (by decide +kernel))) rfl⟩
theorem lk_X4_125 : SLk RX4 125 mX4_sortOf := ⟨inG (List.mem_of_getElem? (i := 398) (by decide +kernel)) rfl, inG (List.mem_of_getElem? (i := 399) (by decide +kernel)) rfl⟩
theorem lk_X5_69 : VLk RX5 69 mX5_enter := ⟨inG (List.mem_of_getElem? (i := 350) (by decide +kernel)) rfl, inG (List.mem_of_getElem? (i := 351) (by decide +kernel)) rfl, inG (List.mem_of_getElem? (i := 352) (by decide +kernel)) rfl⟩
theorem lk_X5_73 : VLk RX5 73 mX5_holdOf := ⟨inG (List.mem_of_getElem? (i := 497) (by decide +kernel)) rfl, inG (List.mem_of_getElem? (i := 325) (by decide +kernel)) rfl, inG (List.mem_of_getElem? (i := 326) (by decide +kernel)) rfl⟩
theorem lk_X5_77 : VLk RX5 77 mX5_strengthBy := ⟨inG (List.mem_of_getElem? (i := 498) (by decide +kernel)) rfl, inG (List.mem_of_getElem? (i := 499) (by decide +kernel)) rfl, inG (List.mem_of_getElem? (i := 500) (by decide +kernel)) rfl⟩
theorem lk_X5_82 : VLk RX5 82 mX5_strengthAt := ⟨inG (List.mem_of_getElem? (i := 493) (by decide +kernel)) rfl, inG (List.mem_of_getElem? (i := 494) (by decide +kernel)) rfl, inG (List.mem_of_getElem? (i := 495) (by decide +kernel)) rfl⟩
theorem lk_X5_90 : VLk RX5 90 mX5_forceOf := ⟨inG (List.mem_of_getElem? (i := 506) (by decide +kernel)) rfl, inG (List.mem_of_getElem? (i := 333) (by decide +kernel)) rfl, inG (List.mem_of_getElem? (i := 334) (by decide +kernel)) rfl⟩
theorem lk_X5_95 : VLk RX5 95 mX5_oddsAgainst := ⟨inG (List.mem_of_getElem? (i := 502) (by decide +kernel)) rfl, inG (List.mem_of_getElem? (i := 503) (by decide +kernel)) rfl, inG (List.mem_of_getElem? (i := 504) (by decide +kernel)) rfl⟩
theorem lk_X5_98 : VLk RX5 98 mX5_oddsOf := ⟨inG (List.mem_of_getElem? (i := 601) (by decide +kernel)) rfl, inG (List.mem_of_getElem? (i := 589) (by decide +kernel)) rfl, inG (List.mem_of_getElem? (i := 590) (by decide +kernel)) rfl⟩
theorem lk_X5_101 : VLk RX5 101 mX5_leastStrength := ⟨inG (List.mem_of_getElem? (i := 618) (by decide +kernel)) rfl, inG (List.mem_of_getElem? (i := 619) (by decide +kernel)) rfl, inG (List.mem_of_getElem? (i := 620) (by decide +kernel)) rfl⟩
theorem lk_X5_104 : VLk RX5 104 mX5_isCalled := ⟨inG (List.mem_of_getElem? (i := 625) (by decide +kernel)) rfl, inG (List.mem_of_getElem? (i := 486) (by decide +kernel)) rfl, inG (List.mem_of_getElem? (i := 487) (by decide +kernel)) rfl⟩
theorem lk_X5_108 : VLk RX5 108 mX5_isOver := ⟨inG (List.mem_of_getElem? (i := 634) (by decide +kernel)) rfl, inG (List.mem_of_getElem? (i := 482) (by decide +kernel)) rfl, inG (List.mem_of_getElem? (i := 483) (by decide +kernel)) rfl⟩
theorem lk_X5_112 : VLk RX5 112 mX5_leader := ⟨inG (List.mem_of_getElem? (i := 635) (by decide +kernel)) rfl, inG (List.mem_of_getElem? (i := 636) (by decide +kernel)) rfl, inG (List.mem_of_getElem? (i := 637) (by decide +kernel)) rfl⟩
theorem lk_X5_116 : VLk RX5 116 mX5_has := ⟨inG (List.mem_of_getElem? (i := 790) (by decide +kernel)) rfl, inG (List.mem_of_getElem? (i := 312) (by decide +kernel)) rfl, inG (List.mem_of_getElem? (i := 313) (by decide +kernel)) rfl⟩
theorem lk_X5_119 : VLk RX5 119 mX5_hasJoint := ⟨inG (List.mem_of_getElem? (i := 791) (by decide +kernel)) rfl, inG (List.mem_of_getElem? (i := 550) (by decide +kernel)) rfl, inG (List.mem_of_getElem? (i := 551) (by decide +kernel)) rfl⟩
theorem lk_X5_123 : VLk RX5 123 mX5_tire := ⟨inG (List.mem_of_getElem? (i := 512) (by decide +kernel)) rfl, inG (List.mem_of_getElem? (i := 513) (by decide +kernel)) rfl, inG (List.mem_of_getElem? (i := 514) (by decide +kernel)) rfl⟩
theorem lk_X5_127 : VLk RX5 127 mX5_leave := ⟨inG (List.mem_of_getElem? (i := 516) (by decide +kernel)) rfl, inG (List.mem_of_getElem? (i := 517) (by decide +kernel)) rfl, inG (List.mem_of_getElem? (i := 518) (by decide +kernel)) rfl⟩
theorem lk_X5_130 : VLk RX5 130 mX5_drawBelow := ⟨inG (List.mem_of_getElem? (i := 822) (by decide +kernel)) rfl, inG (List.mem_of_getElem? (i := 823) (by decide +kernel)) rfl, inG (List.mem_of_getElem? (i := 824) (by decide +kernel)) rfl⟩
theorem lk_X5_133 : VLk RX5 133 mX5_comeToPass := ⟨inG (List.mem_of_getElem? (i := 827) (by decide +kernel)) rfl, inG (List.mem_of_getElem? (i := 509) (by decide +kernel)) rfl, inG (List.mem_of_getElem? (i := 510) (by decide +kernel)) rfl⟩
theorem lk_L_9 : ILk RL 9 mX6_init := ⟨inG (List.mem_of_getElem? (i := 17) (by decide +kernel)) rfl, inG (List.mem_of_getElem? (i := 18) (by decide +kernel)) rfl, rfl⟩
theorem lk_L_12 : ILk RL 12 mX7_init := ⟨inG (List.mem_of_getElem? (i := 871) (by decide +kernel)) rfl, inG (List.mem_of_getElem? (i := 872) (by decide +kernel)) rfl, rfl⟩
theorem lk_L_13 : VLk RL 13 mX6_row := ⟨inG (List.mem_of_getElem? (i := 253) (by decide +kernel)) rfl, inG (List.mem_of_getElem? (i := 254) (by decide +kernel)) rfl, inG (List.mem_of_getElem? (i := 255) (by decide +kernel)) rfl⟩
theorem lk_L_17 : VLk RL 17 mX7_row := ⟨inG (List.mem_of_getElem? (i := 993) (by decide +kernel)) rfl, inG (List.mem_of_getElem? (i := 994) (by decide +kernel)) rfl, inG (List.mem_of_getElem? (i := 995) (by decide +kernel)) rfl⟩
theorem lk_L_20 : VLk RL 20 mX6_set := ⟨inG (List.mem_of_getElem? (i := 268) (by decide +kernel)) rfl, inG (List.mem_of_getElem? (i := 269) (by decide +kernel)) rfl, inG (List.mem_of_getElem? (i := 270) (by decide +kernel)) rfl⟩
theorem lk_L_24 : VLk RL 24 mX7_set := ⟨inG (List.mem_of_getElem? (i := 1007) (by decide +kernel)) rfl, inG (List.mem_of_getElem? (i := 1008) (by decide +kernel)) rfl, inG (List.mem_of_getElem? (i := 1009) (by decide +kernel)) rfl⟩
theorem lk_L_25 : VLk RL 25 mX6_copy := ⟨inG (List.mem_of_getElem? (i := 288) (by decide +kernel)) rfl, inG (List.mem_of_getElem? (i := 289) (by decide +kernel)) rfl, inG (List.mem_of_getElem? (i := 290) (by decide +kernel)) rfl⟩
theorem lk_L_29 : VLk RL 29 mX7_copy := ⟨inG (List.mem_of_getElem? (i := 1018) (by decide +kernel)) rfl, inG (List.mem_of_getElem? (i := 1019) (by decide +kernel)) rfl, inG (List.mem_of_getElem? (i := 1020) (by decide +kernel)) rfl⟩
theorem lk_L_30 : VLk RL 30 mX6_element := ⟨inG (List.mem_of_getElem? (i := 299) (by decide +kernel)) rfl, inG (List.mem_of_getElem? (i := 300) (by decide +kernel)) rfl, inG (List.mem_of_getElem? (i := 301) (by decide +kernel)) rfl⟩
theorem lk_L_34 : VLk RL 34 mX7_element := ⟨inG (List.mem_of_getElem? (i := 1022) (by decide +kernel)) rfl, inG (List.mem_of_getElem? (i := 1023) (by decide +kernel)) rfl, inG (List.mem_of_getElem? (i := 1024) (by decide +kernel)) rfl⟩
theorem lk_L_35 : VLk RL 35 mX6_holds := ⟨inG (List.mem_of_getElem? (i := 303) (by decide +kernel)) rfl, inG (List.mem_of_getElem? (i := 304) (by decide +kernel)) rfl, inG (List.mem_of_getElem? (i := 305) (by decide +kernel)) rfl⟩
theorem lk_L_39 : VLk RL 39 mX7_holds := ⟨inG (List.mem_of_getElem? (i := 1026) (by decide +kernel)) rfl, inG (List.mem_of_getElem? (i := 1027) (by decide +kernel)) rfl, inG (List.mem_of_getElem? (i := 1028) (by decide +kernel)) rfl⟩
theorem lk_L_40 : VLk RL 40 mX6_show := ⟨inG (List.mem_of_getElem? (i := 307) (by decide +kernel)) rfl, inG (List.mem_of_getElem? (i := 308) (by decide +kernel)) rfl, inG (List.mem_of_getElem? (i := 309) (by decide +kernel)) rfl⟩
theorem lk_L_44 : VLk RL 44 mX7_show := ⟨inG (List.mem_of_getElem? (i := 1030) (by decide +kernel)) rfl, inG (List.mem_of_getElem? (i := 1031) (by decide +kernel)) rfl, inG (List.mem_of_getElem? (i := 1032) (by decide +kernel)) rfl⟩
theorem lk_L_45 : VLk RL 45 mX6_says := ⟨inG (List.mem_of_getElem? (i := 315) (by decide +kernel)) rfl, inG (List.mem_of_getElem? (i := 316) (by decide +kernel)) rfl, inG (List.mem_of_getElem? (i := 317) (by decide +kernel)) rfl⟩
theorem lk_L_48 : VLk RL 48 mX7_says := ⟨inG (List.mem_of_getElem? (i := 1038) (by decide +kernel)) rfl, inG (List.mem_of_getElem? (i := 1039) (by decide +kernel)) rfl, inG (List.mem_of_getElem? (i := 1040) (by decide +kernel)) rfl⟩
theorem lk_L_49 : VLk RL 49 mX6_one := ⟨inG (List.mem_of_getElem? (i := 336) (by decide +kernel)) rfl, inG (List.mem_of_getElem? (i := 337) (by decide +kernel)) rfl, inG (List.mem_of_getElem? (i := 338) (by decide +kernel)) rfl⟩
theorem lk_L_52 : VLk RL 52 mX7_one := ⟨inG (List.mem_of_getElem? (i := 1062) (by decide +kernel)) rfl, inG (List.mem_of_getElem? (i := 1063) (by decide +kernel)) rfl, inG (List.mem_of_getElem? (i := 1064) (by decide +kernel)) rfl⟩
theorem lk_L_53 : VLk RL 53 mX6_tell := ⟨inG (List.mem_of_getElem? (i := 354) (by decide +kernel)) rfl, inG (List.mem_of_getElem? (i := 355) (by decide +kernel)) rfl, inG (List.mem_of_getElem? (i := 356) (by decide +kernel)) rfl⟩
theorem lk_L_56 : VLk RL 56 mX7_tell := ⟨inG (List.mem_of_getElem? (i := 1072) (by decide +kernel)) rfl, inG (List.mem_of_getElem? (i := 1073) (by decide +kernel)) rfl, inG (List.mem_of_getElem? (i := 1074) (by decide +kernel)) rfl⟩
theorem lk_L_57 : VLk RL 57 mX6_ask := ⟨inG (List.mem_of_getElem? (i := 358) (by decide +kernel)) rfl, inG (List.mem_of_getElem? (i := 359) (by decide +kernel)) rfl, inG (List.mem_of_getElem? (i := 360) (by decide +kernel)) rfl⟩
theorem lk_L_60 : VLk RL 60 mX7_ask := ⟨inG (List.mem_of_getElem? (i := 1077) (by decide +kernel)) rfl, inG (List.mem_of_getElem? (i := 1078) (by decide +kernel)) rfl, inG (List.mem_of_getElem? (i := 1079) (by decide +kernel)) rfl⟩
theorem lk_L_61 : VLk RL 61 mX6_feed := ⟨inG (List.mem_of_getElem? (i := 365) (by decide +kernel)) rfl, inG (List.mem_of_getElem? (i := 366) (by decide +kernel)) rfl, inG (List.mem_of_getElem? (i := 367) (by decide +kernel)) rfl⟩
theorem lk_L_64 : VLk RL 64 mX7_feed := ⟨inG (List.mem_of_getElem? (i := 1095) (by decide +kernel)) rfl, inG (List.mem_of_getElem? (i := 1096) (by decide +kernel)) rfl, inG (List.mem_of_getElem? (i := 1097) (by decide +kernel)) rfl⟩
theorem lk_L_65 : VLk RL 65 mX6_wipe := ⟨inG (List.mem_of_getElem? (i := 373) (by decide +kernel)) rfl, inG (List.mem_of_getElem? (i := 374) (by decide +kernel)) rfl, inG (List.mem_of_getElem? (i := 375) (by decide +kernel)) rfl⟩
theorem lk_L_69 : VLk RL 69 mX7_wipe := ⟨inG (List.mem_of_getElem? (i := 1100) (by decide +kernel)) rfl, inG (List.mem_of_getElem? (i := 1101) (by decide +kernel)) rfl, inG (List.mem_of_getElem? (i := 1102) (by decide +kernel)) rfl⟩
theorem lk_L_70 : VLk RL 70 mX6_yard := ⟨inG (List.mem_of_getElem? (i := 381) (by decide +kernel)) rfl, inG (List.mem_of_getElem? (i := 382) (by decide +kernel)) rfl, inG (List.mem_of_getElem? (i := 383) (by decide +kernel)) rfl⟩
theorem lk_L_73 : VLk RL 73 mX7_yard := ⟨inG (List.mem_of_getElem? (i := 1104) (by decide +kernel)) rfl, inG (List.mem_of_getElem? (i := 1105) (by decide +kernel)) rfl, inG (List.mem_of_getElem? (i := 1106) (by decide +kernel)) rfl⟩
theorem lk_L_74 : VLk RL 74 mX6_oneOf := ⟨inG (List.mem_of_getElem? (i := 529) (by decide +kernel)) rfl, inG (List.mem_of_getElem? (i := 530) (by decide +kernel)) rfl, inG (List.mem_of_getElem? (i := 531) (by decide +kernel)) rfl⟩
theorem lk_L_77 : VLk RL 77 mX7_oneOf := ⟨inG (List.mem_of_getElem? (i := 1205) (by decide +kernel)) rfl, inG (List.mem_of_getElem? (i := 1206) (by decide +kernel)) rfl, inG (List.mem_of_getElem? (i := 1207) (by decide +kernel)) rfl⟩
theorem lk_L_78 : VLk RL 78 mX6_chainOf := ⟨inG (List.mem_of_getElem? (i := 537) (by decide +kernel)) rfl, inG (List.mem_of_getElem? (i := 538) (by decide +kernel)) rfl, inG (List.mem_of_getElem? (i := 539) (by decide +kernel)) rfl⟩
theorem lk_L_81 : VLk RL 81 mX7_chainOf := ⟨inG (List.mem_of_getElem? (i := 1209) (by decide +kernel)) rfl, inG (List.mem_of_getElem? (i := 1210) (by decide +kernel)) rfl, inG (List.mem_of_getElem? (i := 1211) (by decide +kernel)) rfl⟩
theorem lk_L_82 : VLk RL 82 mX6_strength := ⟨inG (List.mem_of_getElem? (i := 545) (by decide +kernel)) rfl, inG (List.mem_of_getElem? (i := 546) (by decide +kernel)) rfl, inG (List.mem_of_getElem? (i := 547) (by decide +kernel)) rfl⟩
theorem lk_L_85 : VLk RL 85 mX7_strength := ⟨inG (List.mem_of_getElem? (i := 1214) (by decide +kernel)) rfl, inG (List.mem_of_getElem? (i := 1215) (by decide +kernel)) rfl, inG (List.mem_of_getElem? (i := 1216) (by decide +kernel)) rfl⟩
theorem lk_L_86 : VLk RL 86 mX6_weakest := ⟨inG (List.mem_of_getElem? (i := 554) (by decide +kernel)) rfl, inG (List.mem_of_getElem? (i := 555) (by decide +kernel)) rfl, inG (List.mem_of_getElem? (i := 556) (by decide +kernel)) rfl⟩
theorem lk_L_89 : VLk RL 89 mX7_weakest := ⟨inG (List.mem_of_getElem? (i := 1222) (by decide +kernel)) rfl, inG (List.mem_of_getElem? (i := 1223) (by decide +kernel)) rfl, inG (List.mem_of_getElem? (i := 1224) (by decide +kernel)) rfl⟩
theorem lk_L_90 : VLk RL 90 mX6_strongest := ⟨inG (List.mem_of_getElem? (i := 563) (by decide +kernel)) rfl, inG (List.mem_of_getElem? (i := 564) (by decide +kernel)) rfl, inG (List.mem_of_getElem? (i := 565) (by decide +kernel)) rfl⟩
theorem lk_L_93 : VLk RL 93 mX7_strongest := ⟨inG (List.mem_of_getElem? (i := 1230) (by decide +kernel)) rfl, inG (List.mem_of_getElem? (i := 1231) (by decide +kernel)) rfl, inG (List.mem_of_getElem? (i := 1232) (by decide +kernel)) rfl⟩
theorem lk_L_94 : VLk RL 94 mX6_hardest := ⟨inG (List.mem_of_getElem? (i := 571) (by decide +kernel)) rfl, inG (List.mem_of_getElem? (i := 572) (by decide +kernel)) rfl, inG (List.mem_of_getElem? (i := 573) (by decide +kernel)) rfl⟩
theorem lk_L_97 : VLk RL 97 mX7_hardest := ⟨inG (List.mem_of_getElem? (i := 1234) (by decide +kernel)) rfl, inG (List.mem_of_getElem? (i := 1235) (by decide +kernel)) rfl, inG (List.mem_of_getElem? (i := 1236) (by decide +kernel)) rfl⟩
theorem lk_L_98 : VLk RL 98 mX6_odds := ⟨inG (List.mem_of_getElem? (i := 579) (by decide +kernel)) rfl, inG (List.mem_of_getElem? (i := 580) (by decide +kernel)) rfl, inG (List.mem_of_getElem? (i := 581) (by decide +kernel)) rfl⟩
theorem lk_L_101 : VLk RL 101 mX7_odds := ⟨inG (List.mem_of_getElem? (i := 1254) (by decide +kernel)) rfl, inG (List.mem_of_getElem? (i := 1255) (by decide +kernel)) rfl, inG (List.mem_of_getElem? (i := 1256) (by decide +kernel)) rfl⟩
theorem lk_L_102 : VLk RL 102 mX6_at := ⟨inG (List.mem_of_getElem? (i := 592) (by decide +kernel)) rfl, inG (List.mem_of_getElem? (i := 593) (by decide +kernel)) rfl, inG (List.mem_of_getElem? (i := 594) (by decide +kernel)) rfl⟩
theorem lk_L_105 : VLk RL 105 mX7_at := ⟨inG (List.mem_of_getElem? (i := 1270) (by decide +kernel)) rfl, inG (List.mem_of_getElem? (i := 1271) (by decide +kernel)) rfl, inG (List.mem_of_getElem? (i := 1272) (by decide +kernel)) rfl⟩
theorem lk_L_106 : VLk RL 106 mX6_take := ⟨inG (List.mem_of_getElem? (i := 602) (by decide +kernel)) rfl, inG (List.mem_of_getElem? (i := 603) (by decide +kernel)) rfl, inG (List.mem_of_getElem? (i := 604) (by decide +kernel)) rfl⟩
theorem lk_L_109 : VLk RL 109 mX7_take := ⟨inG (List.mem_of_getElem? (i := 1278) (by decide +kernel)) rfl, inG (List.mem_of_getElem? (i := 1279) (by decide +kernel)) rfl, inG (List.mem_of_getElem? (i := 1280) (by decide +kernel)) rfl⟩
theorem lk_L_110 : VLk RL 110 mX6_call := ⟨inG (List.mem_of_getElem? (i := 610) (by decide +kernel)) rfl, inG (List.mem_of_getElem? (i := 611) (by decide +kernel)) rfl, inG (List.mem_of_getElem? (i := 612) (by decide +kernel)) rfl⟩
theorem lk_L_113 : VLk RL 113 mX7_call := ⟨inG (List.mem_of_getElem? (i := 1286) (by decide +kernel)) rfl, inG (List.mem_of_getElem? (i := 1287) (by decide +kernel)) rfl, inG (List.mem_of_getElem? (i := 1288) (by decide +kernel)) rfl⟩
theorem lk_L_114 : VLk RL 114 mX6_won := ⟨inG (List.mem_of_getElem? (i := 626) (by decide +kernel)) rfl, inG (List.mem_of_getElem? (i := 627) (by decide +kernel)) rfl, inG (List.mem_of_getElem? (i := 628) (by decide +kernel)) rfl⟩
theorem lk_L_117 : VLk RL 117 mX7_won := ⟨inG (List.mem_of_getElem? (i := 1258) (by decide +kernel)) rfl, inG (List.mem_of_getElem? (i := 1259) (by decide +kernel)) rfl, inG (List.mem_of_getElem? (i := 1260) (by decide +kernel)) rfl⟩
theorem lk_L_118 : VLk RL 118 mX6_over := ⟨inG (List.mem_of_getElem? (i := 639) (by decide +kernel)) rfl, inG (List.mem_of_getElem? (i := 640) (by decide +kernel)) rfl, inG (List.mem_of_getElem? (i := 641) (by decide +kernel)) rfl⟩
theorem lk_L_121 : VLk RL 121 mX7_over := ⟨inG (List.mem_of_getElem? (i := 1266) (by decide +kernel)) rfl, inG (List.mem_of_getElem? (i := 1267) (by decide +kernel)) rfl, inG (List.mem_of_getElem? (i := 1268) (by decide +kernel)) rfl⟩
theorem lk_L_122 : VLk RL 122 mX6_play := ⟨inG (List.mem_of_getElem? (i := 643) (by decide +kernel)) rfl, inG (List.mem_of_getElem? (i := 644) (by decide +kernel)) rfl, inG (List.mem_of_getElem? (i := 645) (by decide +kernel)) rfl⟩
theorem lk_L_125 : VLk RL 125 mX7_play := ⟨inG (List.mem_of_getElem? (i := 1303) (by decide +kernel)) rfl, inG (List.mem_of_getElem? (i := 1304) (by decide +kernel)) rfl, inG (List.mem_of_getElem? (i := 1305) (by decide +kernel)) rfl⟩
theorem lk_L_126 : VLk RL 126 mX6_stand := ⟨inG (List.mem_of_getElem? (i := 663) (by decide +kernel)) rfl, inG (List.mem_of_getElem? (i := 664) (by decide +kernel)) rfl, inG (List.mem_of_getElem? (i := 665) (by decide +kernel)) rfl⟩
theorem lk_L_129 : VLk RL 129 mX7_stand := ⟨inG (List.mem_of_getElem? (i := 1307) (by decide +kernel)) rfl, inG (List.mem_of_getElem? (i := 1308) (by decide +kernel)) rfl, inG (List.mem_of_getElem? (i := 1309) (by decide +kernel)) rfl⟩
theorem lk_L_130 : VLk RL 130 mX6_worth := ⟨inG (List.mem_of_getElem? (i := 684) (by decide +kernel)) rfl, inG (List.mem_of_getElem? (i := 685) (by decide +kernel)) rfl, inG (List.mem_of_getElem? (i := 686) (by decide +kernel)) rfl⟩
theorem lk_L_133 : VLk RL 133 mX7_worth := ⟨inG (List.mem_of_getElem? (i := 1319) (by decide +kernel)) rfl, inG (List.mem_of_getElem? (i := 1320) (by decide +kernel)) rfl, inG (List.mem_of_getElem? (i := 1321) (by decide +kernel)) rfl⟩
theorem lk_L_134 : VLk RL 134 mX6_move := ⟨inG (List.mem_of_getElem? (i := 689) (by decide +kernel)) rfl, inG (List.mem_of_getElem? (i := 690) (by decide +kernel)) rfl, inG (List.mem_of_getElem? (i := 691) (by decide +kernel)) rfl⟩
theorem lk_L_137 : VLk RL 137 mX7_move := ⟨inG (List.mem_of_getElem? (i := 1386) (by decide +kernel)) rfl, inG (List.mem_of_getElem? (i := 1387) (by decide +kernel)) rfl, inG (List.mem_of_getElem? (i := 1388) (by decide +kernel)) rfl⟩
theorem lk_L_138 : VLk RL 138 mX6_pair := ⟨inG (List.mem_of_getElem? (i := 695) (by decide +kernel)) rfl, inG (List.mem_of_getElem? (i := 696) (by decide +kernel)) rfl, inG (List.mem_of_getElem? (i := 697) (by decide +kernel)) rfl⟩
theorem lk_L_141 : VLk RL 141 mX7_pair := ⟨inG (List.mem_of_getElem? (i := 1238) (by decide +kernel)) rfl, inG (List.mem_of_getElem? (i := 1239) (by decide +kernel)) rfl, inG (List.mem_of_getElem? (i := 1240) (by decide +kernel)) rfl⟩
theorem lk_L_142 : VLk RL 142 mX6_tiredest := ⟨inG (List.mem_of_getElem? (i := 703) (by decide +kernel)) rfl, inG (List.mem_of_getElem? (i := 704) (by decide +kernel)) rfl, inG (List.mem_of_getElem? (i := 705) (by decide +kernel)) rfl⟩
theorem lk_L_145 : VLk RL 145 mX7_tiredest := ⟨inG (List.mem_of_getElem? (i := 1242) (by decide +kernel)) rfl, inG (List.mem_of_getElem? (i := 1243) (by decide +kernel)) rfl, inG (List.mem_of_getElem? (i := 1244) (by decide +kernel)) rfl⟩
theorem lk_L_146 : VLk RL 146 mX6_spreadFor := ⟨inG (List.mem_of_getElem? (i := 711) (by decide +kernel)) rfl, inG (List.mem_of_getElem? (i := 712) (by decide +kernel)) rfl, inG (List.mem_of_getElem? (i := 713) (by decide +kernel)) rfl⟩
theorem lk_L_149 : VLk RL 149 mX7_spreadFor := ⟨inG (List.mem_of_getElem? (i := 1246) (by decide +kernel)) rfl, inG (List.mem_of_getElem? (i := 1247) (by decide +kernel)) rfl, inG (List.mem_of_getElem? (i := 1248) (by decide +kernel)) rfl⟩
theorem lk_L_150 : VLk RL 150 mX6_yardsFor := ⟨inG (List.mem_of_getElem? (i := 718) (by decide +kernel)) rfl, inG (List.mem_of_getElem? (i := 719) (by decide +kernel)) rfl, inG (List.mem_of_getElem? (i := 720) (by decide +kernel)) rfl⟩
theorem lk_L_153 : VLk RL 153 mX7_yardsFor := ⟨inG (List.mem_of_getElem? (i := 1250) (by decide +kernel)) rfl, inG (List.mem_of_getElem? (i := 1251) (by decide +kernel)) rfl, inG (List.mem_of_getElem? (i := 1252) (by decide +kernel)) rfl⟩
theorem lk_L_154 : VLk RL 154 mX6_leads := ⟨inG (List.mem_of_getElem? (i := 722) (by decide +kernel)) rfl, inG (List.mem_of_getElem? (i := 723) (by decide +kernel)) rfl, inG (List.mem_of_getElem? (i := 724) (by decide +kernel)) rfl⟩
theorem lk_L_157 : VLk RL 157 mX7_leads := ⟨inG (List.mem_of_getElem? (i := 1294) (by decide +kernel)) rfl, inG (List.mem_of_getElem? (i := 1295) (by decide +kernel)) rfl, inG (List.mem_of_getElem? (i := 1296) (by decide +kernel)) rfl⟩
theorem lk_L_158 : VLk RL 158 mX6_game := ⟨inG (List.mem_of_getElem? (i := 726) (by decide +kernel)) rfl, inG (List.mem_of_getElem? (i := 727) (by decide +kernel)) rfl, inG (List.mem_of_getElem? (i := 728) (by decide +kernel)) rfl⟩
theorem lk_L_161 : VLk RL 161 mX7_game := ⟨inG (List.mem_of_getElem? (i := 1339) (by decide +kernel)) rfl, inG (List.mem_of_getElem? (i := 1340) (by decide +kernel)) rfl, inG (List.mem_of_getElem? (i := 1341) (by decide +kernel)) rfl⟩
theorem lk_L_162 : VLk RL 162 mX6_first := ⟨inG (List.mem_of_getElem? (i := 753) (by decide +kernel)) rfl, inG (List.mem_of_getElem? (i := 754) (by decide +kernel)) rfl, inG (List.mem_of_getElem? (i := 755) (by decide +kernel)) rfl⟩
theorem lk_L_165 : VLk RL 165 mX7_first := ⟨inG (List.mem_of_getElem? (i := 1351) (by decide +kernel)) rfl, inG (List.mem_of_getElem? (i := 1352) (by decide +kernel)) rfl, inG (List.mem_of_getElem? (i := 1353) (by decide +kernel)) rfl⟩
theorem lk_L_166 : VLk RL 166 mX6_together := ⟨inG (List.mem_of_getElem? (i := 757) (by decide +kernel)) rfl, inG (List.mem_of_getElem? (i := 758) (by decide +kernel)) rfl, inG (List.mem_of_getElem? (i := 759) (by decide +kernel)) rfl⟩
theorem lk_L_169 : VLk RL 169 mX7_together := ⟨inG (List.mem_of_getElem? (i := 1323) (by decide +kernel)) rfl, inG (List.mem_of_getElem? (i := 1324) (by decide +kernel)) rfl, inG (List.mem_of_getElem? (i := 1325) (by decide +kernel)) rfl⟩
theorem lk_L_170 : VLk RL 170 mX6_swap := ⟨inG (List.mem_of_getElem? (i := 764) (by decide +kernel)) rfl, inG (List.mem_of_getElem? (i := 765) (by decide +kernel)) rfl, inG (List.mem_of_getElem? (i := 766) (by decide +kernel)) rfl⟩
theorem lk_L_173 : VLk RL 173 mX7_swap := ⟨inG (List.mem_of_getElem? (i := 1331) (by decide +kernel)) rfl, inG (List.mem_of_getElem? (i := 1332) (by decide +kernel)) rfl, inG (List.mem_of_getElem? (i := 1333) (by decide +kernel)) rfl⟩
theorem lk_L_174 : VLk RL 174 mX6_could := ⟨inG (List.mem_of_getElem? (i := 772) (by decide +kernel)) rfl, inG (List.mem_of_getElem? (i := 773) (by decide +kernel)) rfl, inG (List.mem_of_getElem? (i := 774) (by decide +kernel)) rfl⟩
theorem lk_L_177 : VLk RL 177 mX7_could := ⟨inG (List.mem_of_getElem? (i := 1355) (by decide +kernel)) rfl, inG (List.mem_of_getElem? (i := 1356) (by decide +kernel)) rfl, inG (List.mem_of_getElem? (i := 1357) (by decide +kernel)) rfl⟩
theorem lk_L_178 : VLk RL 178 mX6_judge := ⟨inG (List.mem_of_getElem? (i := 777) (by decide +kernel)) rfl, inG (List.mem_of_getElem? (i := 778) (by decide +kernel)) rfl, inG (List.mem_of_getElem? (i := 779) (by decide +kernel)) rfl⟩
theorem lk_L_181 : VLk RL 181 mX7_judge := ⟨inG (List.mem_of_getElem? (i := 1359) (by decide +kernel)) rfl, inG (List.mem_of_getElem? (i := 1360) (by decide +kernel)) rfl, inG (List.mem_of_getElem? (i := 1361) (by decide +kernel)) rfl⟩
theorem lk_L_182 : VLk RL 182 mX6_behind := ⟨inG (List.mem_of_getElem? (i := 794) (by decide +kernel)) rfl, inG (List.mem_of_getElem? (i := 795) (by decide +kernel)) rfl, inG (List.mem_of_getElem? (i := 796) (by decide +kernel)) rfl⟩
theorem lk_L_185 : VLk RL 185 mX7_behind := ⟨inG (List.mem_of_getElem? (i := 1378) (by decide +kernel)) rfl, inG (List.mem_of_getElem? (i := 1379) (by decide +kernel)) rfl, inG (List.mem_of_getElem? (i := 1380) (by decide +kernel)) rfl⟩
theorem lk_L_186 : VLk RL 186 mX6_booked := ⟨inG (List.mem_of_getElem? (i := 798) (by decide +kernel)) rfl, inG (List.mem_of_getElem? (i := 799) (by decide +kernel)) rfl, inG (List.mem_of_getElem? (i := 800) (by decide +kernel)) rfl⟩
theorem lk_L_189 : VLk RL 189 mX7_booked := ⟨inG (List.mem_of_getElem? (i := 1382) (by decide +kernel)) rfl, inG (List.mem_of_getElem? (i := 1383) (by decide +kernel)) rfl, inG (List.mem_of_getElem? (i := 1384) (by decide +kernel)) rfl⟩
theorem lk_L_190 : VLk RL 190 mX6_order := ⟨inG (List.mem_of_getElem? (i := 802) (by decide +kernel)) rfl, inG (List.mem_of_getElem? (i := 803) (by decide +kernel)) rfl, inG (List.mem_of_getElem? (i := 804) (by decide +kernel)) rfl⟩
theorem lk_L_193 : VLk RL 193 mX7_order := ⟨inG (List.mem_of_getElem? (i := 1390) (by decide +kernel)) rfl, inG (List.mem_of_getElem? (i := 1391) (by decide +kernel)) rfl, inG (List.mem_of_getElem? (i := 1392) (by decide +kernel)) rfl⟩
theorem lk_L_194 : VLk RL 194 mX6_best := ⟨inG (List.mem_of_getElem? (i := 810) (by decide +kernel)) rfl, inG (List.mem_of_getElem? (i := 811) (by decide +kernel)) rfl, inG (List.mem_of_getElem? (i := 812) (by decide +kernel)) rfl⟩
theorem lk_L_197 : VLk RL 197 mX7_best := ⟨inG (List.mem_of_getElem? (i := 1394) (by decide +kernel)) rfl, inG (List.mem_of_getElem? (i := 1395) (by decide +kernel)) rfl, inG (List.mem_of_getElem? (i := 1396) (by decide +kernel)) rfl⟩
theorem lk_L_198 : VLk RL 198 mX6_run := ⟨inG (List.mem_of_getElem? (i := 814) (by decide +kernel)) rfl, inG (List.mem_of_getElem? (i := 815) (by decide +kernel)) rfl, inG (List.mem_of_getElem? (i := 816) (by decide +kernel)) rfl⟩
theorem lk_L_201 : VLk RL 201 mX7_run := ⟨inG (List.mem_of_getElem? (i := 1398) (by decide +kernel)) rfl, inG (List.mem_of_getElem? (i := 1399) (by decide +kernel)) rfl, inG (List.mem_of_getElem? (i := 1400) (by decide +kernel)) rfl⟩
theorem lk_L_202 : VLk RL 202 mX6_runs := ⟨inG (List.mem_of_getElem? (i := 828) (by decide +kernel)) rfl, inG (List.mem_of_getElem? (i := 829) (by decide +kernel)) rfl, inG (List.mem_of_getElem? (i := 830) (by decide +kernel)) rfl⟩
theorem lk_L_205 : VLk RL 205 mX7_runs := ⟨inG (List.mem_of_getElem? (i := 1411) (by decide +kernel)) rfl, inG (List.mem_of_getElem? (i := 1412) (by decide +kernel)) rfl, inG (List.mem_of_getElem? (i := 1413) (by decide +kernel)) rfl⟩
theorem lk_L_206 : VLk RL 206 mX6_rest := ⟨inG (List.mem_of_getElem? (i := 832) (by decide +kernel)) rfl, inG (List.mem_of_getElem? (i := 833) (by decide +kernel)) rfl, inG (List.mem_of_getElem? (i := 834) (by decide +kernel)) rfl⟩
theorem lk_L_209 : VLk RL 209 mX7_rest := ⟨inG (List.mem_of_getElem? (i := 1415) (by decide +kernel)) rfl, inG (List.mem_of_getElem? (i := 1416) (by decide +kernel)) rfl, inG (List.mem_of_getElem? (i := 1417) (by decide +kernel)) rfl⟩
theorem lk_L_210 : VLk RL 210 mX6_again := ⟨inG (List.mem_of_getElem? (i := 841) (by decide +kernel)) rfl, inG (List.mem_of_getElem? (i := 842) (by decide +kernel)) rfl, inG (List.mem_of_getElem? (i := 843) (by decide +kernel)) rfl⟩
theorem lk_L_213 : VLk RL 213 mX7_again := ⟨inG (List.mem_of_getElem? (i := 1419) (by decide +kernel)) rfl, inG (List.mem_of_getElem? (i := 1420) (by decide +kernel)) rfl, inG (List.mem_of_getElem? (i := 1421) (by decide +kernel)) rfl⟩
theorem lk_L_214 : VLk RL 214 mX6_seed := ⟨inG (List.mem_of_getElem? (i := 845) (by decide +kernel)) rfl, inG (List.mem_of_getElem? (i := 846) (by decide +kernel)) rfl, inG (List.mem_of_getElem? (i := 847) (by decide +kernel)) rfl⟩
theorem lk_L_217 : VLk RL 217 mX7_seed := ⟨inG (List.mem_of_getElem? (i := 1423) (by decide +kernel)) rfl, inG (List.mem_of_getElem? (i := 1424) (by decide +kernel)) rfl, inG (List.mem_of_getElem? (i := 1425) (by decide +kernel)) rfl⟩
theorem lk_L_218 : VLk RL 218 mX6_image := ⟨inG (List.mem_of_getElem? (i := 849) (by decide +kernel)) rfl, inG (List.mem_of_getElem? (i := 850) (by decide +kernel)) rfl, inG (List.mem_of_getElem? (i := 851) (by decide +kernel)) rfl⟩
theorem lk_L_221 : VLk RL 221 mX7_image := ⟨inG (List.mem_of_getElem? (i := 1427) (by decide +kernel)) rfl, inG (List.mem_of_getElem? (i := 1428) (by decide +kernel)) rfl, inG (List.mem_of_getElem? (i := 1429) (by decide +kernel)) rfl⟩
theorem lk_L_222 : VLk RL 222 mX6_back := ⟨inG (List.mem_of_getElem? (i := 853) (by decide +kernel)) rfl, inG (List.mem_of_getElem? (i := 854) (by decide +kernel)) rfl, inG (List.mem_of_getElem? (i := 855) (by decide +kernel)) rfl⟩
theorem lk_L_225 : VLk RL 225 mX7_back := ⟨inG (List.mem_of_getElem? (i := 1431) (by decide +kernel)) rfl, inG (List.mem_of_getElem? (i := 1432) (by decide +kernel)) rfl, inG (List.mem_of_getElem? (i := 1433) (by decide +kernel)) rfl⟩
theorem lk_L_226 : VLk RL 226 mX6_status := ⟨inG (List.mem_of_getElem? (i := 857) (by decide +kernel)) rfl, inG (List.mem_of_getElem? (i := 858) (by decide +kernel)) rfl, inG (List.mem_of_getElem? (i := 859) (by decide +kernel)) rfl⟩
theorem lk_L_229 : VLk RL 229 mX7_status := ⟨inG (List.mem_of_getElem? (i := 1435) (by decide +kernel)) rfl, inG (List.mem_of_getElem? (i := 1436) (by decide +kernel)) rfl, inG (List.mem_of_getElem? (i := 1437) (by decide +kernel)) rfl⟩
theorem lk_X7_85 : SLk RX7 85 mX7_in := ⟨inG (List.mem_of_getElem? (i := 998) (by decide +kernel)) rfl, inG (List.mem_of_getElem? (i := 999) (by decide +kernel)) rfl⟩
theorem lk_X7_89 : VLk RX7 89 mX7_placeOf := ⟨inG (List.mem_of_getElem? (i := 1050) (by decide +kernel)) rfl, inG (List.mem_of_getElem? (i := 1052) (by decide +kernel)) rfl, inGs (List.mem_append_left _ (List.mem_of_getElem? (i := 24) (by decide +kernel))) rfl⟩
theorem lk_X7_99 : VLk RX7 99 mX7_refuse := ⟨inG (List.mem_of_getElem? (i := 1003) (by decide +kernel)) rfl, inG (List.mem_of_getElem? (i := 1005) (by decide +kernel)) rfl, inGs (List.mem_append_left _ (List.mem_of_getElem? (i := 20) (by decide +kernel))) rfl⟩
theorem lk_X7_102 : VLk RX7 102 mX7_noRow := ⟨inG (List.mem_of_getElem? (i := 1011) (by decide +kernel)) rfl, inG (List.mem_of_getElem? (i := 1013) (by decide +kernel)) rfl, inGs (List.mem_append_left _ (List.mem_of_getElem? (i := 21) (by decide +kernel))) rfl⟩
theorem lk_X7_105 : SLk RX7 105 mX7_fit := ⟨inG (List.mem_of_getElem? (i := 1015) (by decide +kernel)) rfl, inG (List.mem_of_getElem? (i := 1016) (by decide +kernel)) rfl⟩
theorem lk_X7_109 : VLk RX7 109 mX7_isOne := ⟨inG (List.mem_of_getElem? (i := 1034) (by decide +kernel)) rfl, inG (List.mem_of_getElem? (i := 1036) (by decide +kernel)) rfl, inGs (List.mem_append_left _ (List.mem_of_getElem? (i := 22) (by decide +kernel))) rfl⟩
theorem lk_X7_115 : SLk RX7 115 mX7_isUnder := ⟨inG (List.mem_of_getElem? (i := 1043) (by decide +kernel)) rfl, inG (List.mem_of_getElem? (i := 1044) (by decide +kernel)) rfl⟩
theorem lk_X7_119 : VLk RX7 119 mX7_chainAt := ⟨inG (List.mem_of_getElem? (i := 1046) (by decide +kernel)) rfl, inG (List.mem_of_getElem? (i := 1048) (by decide +kernel)) rfl, inGs (List.mem_append_left _ (List.mem_of_getElem? (i := 23) (by decide +kernel))) rfl⟩
theorem lk_X7_122 : VLk RX7 122 mX7_hold := ⟨inG (List.mem_of_getElem? (i := 1054) (by decide +kernel)) rfl, inG (List.mem_of_getElem? (i := 1056) (by decide +kernel)) rfl, inGs (List.mem_append_left _ (List.mem_of_getElem? (i := 25) (by decide +kernel))) rfl⟩
theorem lk_X7_126 : VLk RX7 126 mX7_force := ⟨inG (List.mem_of_getElem? (i := 1058) (by decide +kernel)) rfl, inG (List.mem_of_getElem? (i := 1060) (by decide +kernel)) rfl, inGs (List.mem_append_left _ (List.mem_of_getElem? (i := 26) (by decide +kernel))) rfl⟩
theorem lk_X7_133 : VLk RX7 133 mX7_addOne := ⟨inG (List.mem_of_getElem? (i := 1068) (by decide +kernel)) rfl, inG (List.mem_of_getElem? (i := 1070) (by decide +kernel)) rfl, inGs (List.mem_append_left _ (List.mem_of_getElem? (i := 27) (by decide +kernel))) rfl⟩
theorem lk_X7_151 : SLk RX7 151 mX7_mayAsk := ⟨inG (List.mem_of_getElem? (i := 1081) (by decide +kernel)) rfl, inG (List.mem_of_getElem? (i := 1082) (by decide +kernel)) rfl⟩
theorem lk_X7_154 : VLk RX7 154 mX7_asked := ⟨inG (List.mem_of_getElem? (i := 1087) (by decide +kernel)) rfl, inG (List.mem_of_getElem? (i := 1089) (by decide +kernel)) rfl, inGs (List.mem_append_left _ (List.mem_of_getElem? (i := 28) (by decide +kernel))) rfl⟩
theorem lk_X7_157 : VLk RX7 157 mX7_becomes := ⟨inG (List.mem_of_getElem? (i := 1091) (by decide +kernel)) rfl, inG (List.mem_of_getElem? (i := 1093) (by decide +kernel)) rfl, inGs (List.mem_append_left _ (List.mem_of_getElem? (i := 29) (by decide +kernel))) rfl⟩
theorem lk_X7_178 : SLk RX7 178 mX7_isLetter := ⟨inG (List.mem_of_getElem? (i := 1129) (by decide +kernel)) rfl, inG (List.mem_of_getElem? (i := 1130) (by decide +kernel)) rfl⟩
theorem lk_X7_181 : SLk RX7 181 mX7_isDigit := ⟨inG (List.mem_of_getElem? (i := 1132) (by decide +kernel)) rfl, inG (List.mem_of_getElem? (i := 1133) (by decide +kernel)) rfl⟩
theorem lk_X7_197 : VLk RX7 197 mX7_wrong := ⟨inG (List.mem_of_getElem? (i := 1154) (by decide +kernel)) rfl, inG (List.mem_of_getElem? (i := 1156) (by decide +kernel)) rfl, inGs (List.mem_append_left _ (List.mem_of_getElem? (i := 38) (by decide +kernel))) rfl⟩
theorem lk_X7_201 : VLk RX7 201 mX7_look := ⟨inG (List.mem_of_getElem? (i := 1125) (by decide +kernel)) rfl, inG (List.mem_of_getElem? (i := 1127) (by decide +kernel)) rfl, inGs (List.mem_append_left _ (List.mem_of_getElem? (i := 33) (by decide +kernel))) rfl⟩
theorem lk_X7_204 : VLk RX7 204 mX7_number := ⟨inG (List.mem_of_getElem? (i := 1150) (by decide +kernel)) rfl, inG (List.mem_of_getElem? (i := 1152) (by decide +kernel)) rfl, inGs (List.mem_append_left _ (List.mem_of_getElem? (i := 37) (by decide +kernel))) rfl⟩
theorem lk_X7_208 : VLk RX7 208 mX7_isOver := ⟨inG (List.mem_of_getElem? (i := 1172) (by decide +kernel)) rfl, inG (List.mem_of_getElem? (i := 1174) (by decide +kernel)) rfl, inGs (List.mem_append_left _ (List.mem_of_getElem? (i := 41) (by decide +kernel))) rfl⟩
theorem lk_X7_211 : VLk RX7 211 mX7_oddsOf := ⟨inG (List.mem_of_getElem? (i := 1176) (by decide +kernel)) rfl, inG (List.mem_of_getElem? (i := 1178) (by decide +kernel)) rfl, inGs (List.mem_append_left _ (List.mem_of_getElem? (i := 42) (by decide +kernel))) rfl⟩
theorem lk_X7_214 : VLk RX7 214 mX7_runsTorn := ⟨inG (List.mem_of_getElem? (i := 1185) (by decide +kernel)) rfl, inG (List.mem_of_getElem? (i := 1187) (by decide +kernel)) rfl, inGs (List.mem_append_left _ (List.mem_of_getElem? (i := 44) (by decide +kernel))) rfl⟩
theorem lk_X7_219 : VLk RX7 219 mX7_runsHeld := ⟨inG (List.mem_of_getElem? (i := 1201) (by decide +kernel)) rfl, inG (List.mem_of_getElem? (i := 1203) (by decide +kernel)) rfl, inGs (List.mem_append_left _ (List.mem_of_getElem? (i := 48) (by decide +kernel))) rfl⟩
theorem lk_X7_224 : VLk RX7 224 mX7_isWord := ⟨inG (List.mem_of_getElem? (i := 1140) (by decide +kernel)) rfl, inG (List.mem_of_getElem? (i := 1142) (by decide +kernel)) rfl, inGs (List.mem_append_left _ (List.mem_of_getElem? (i := 35) (by decide +kernel))) rfl⟩
theorem lk_X7_228 : VLk RX7 228 mX7_tells := ⟨inG (List.mem_of_getElem? (i := 1146) (by decide +kernel)) rfl, inG (List.mem_of_getElem? (i := 1148) (by decide +kernel)) rfl, inGs (List.mem_append_left _ (List.mem_of_getElem? (i := 36) (by decide +kernel))) rfl⟩
theorem lk_X7_233 : VLk RX7 233 mX7_asks := ⟨inG (List.mem_of_getElem? (i := 1160) (by decide +kernel)) rfl, inG (List.mem_of_getElem? (i := 1162) (by decide +kernel)) rfl, inGs (List.mem_append_left _ (List.mem_of_getElem? (i := 39) (by decide +kernel))) rfl⟩
theorem lk_X7_241 : VLk RX7 241 mX7_runTold := ⟨inG (List.mem_of_getElem? (i := 1168) (by decide +kernel)) rfl, inG (List.mem_of_getElem? (i := 1170) (by decide +kernel)) rfl, inGs (List.mem_append_left _ (List.mem_of_getElem? (i := 40) (by decide +kernel))) rfl⟩
theorem lk_X7_247 : VLk RX7 247 mX7_statement := ⟨inG (List.mem_of_getElem? (i := 1135) (by decide +kernel)) rfl, inG (List.mem_of_getElem? (i := 1137) (by decide +kernel)) rfl, inGs (List.mem_append_left _ (List.mem_of_getElem? (i := 34) (by decide +kernel))) rfl⟩
theorem lk_X7_250 : VLk RX7 250 mX7_fresh := ⟨inG (List.mem_of_getElem? (i := 1108) (by decide +kernel)) rfl, inG (List.mem_of_getElem? (i := 1110) (by decide +kernel)) rfl, inGs (List.mem_append_left _ (List.mem_of_getElem? (i := 30) (by decide +kernel))) rfl⟩
theorem lk_X7_254 : VLk RX7 254 mX7_readAll := ⟨inG (List.mem_of_getElem? (i := 1121) (by decide +kernel)) rfl, inG (List.mem_of_getElem? (i := 1123) (by decide +kernel)) rfl, inGs (List.mem_append_left _ (List.mem_of_getElem? (i := 32) (by decide +kernel))) rfl⟩
theorem lk_X7_257 : VLk RX7 257 mX7_takeFrom := ⟨inG (List.mem_of_getElem? (i := 1114) (by decide +kernel)) rfl, inG (List.mem_of_getElem? (i := 1116) (by decide +kernel)) rfl, inGs (List.mem_append_left _ (List.mem_of_getElem? (i := 31) (by decide +kernel))) rfl⟩
theorem lk_X7_263 : VLk RX7 263 mX7_isJoint := ⟨inG (List.mem_of_getElem? (i := 1218) (by decide +kernel)) rfl, inG (List.mem_of_getElem? (i := 1220) (by decide +kernel)) rfl, inGs (List.mem_append_left _ (List.mem_of_getElem? (i := 49) (by decide +kernel))) rfl⟩
theorem lk_X7_266 : VLk RX7 266 mX7_strengthOf := ⟨inG (List.mem_of_getElem? (i := 1180) (by decide +kernel)) rfl, inG (List.mem_of_getElem? (i := 1182) (by decide +kernel)) rfl, inGs (List.mem_append_left _ (List.mem_of_getElem? (i := 43) (by decide +kernel))) rfl⟩
theorem lk_X7_270 : VLk RX7 270 mX7_leastOf := ⟨inG (List.mem_of_getElem? (i := 1226) (by decide +kernel)) rfl, inG (List.mem_of_getElem? (i := 1228) (by decide +kernel)) rfl, inGs (List.mem_append_left _ (List.mem_of_getElem? (i := 50) (by decide +kernel))) rfl⟩
theorem lk_X7_277 : VLk RX7 277 mX7_wonNow := ⟨inG (List.mem_of_getElem? (i := 1262) (by decide +kernel)) rfl, inG (List.mem_of_getElem? (i := 1264) (by decide +kernel)) rfl, inGs (List.mem_append_left _ (List.mem_of_getElem? (i := 51) (by decide +kernel))) rfl⟩
theorem lk_X7_280 : VLk RX7 280 mX7_atOf := ⟨inG (List.mem_of_getElem? (i := 1274) (by decide +kernel)) rfl, inG (List.mem_of_getElem? (i := 1276) (by decide +kernel)) rfl, inGs (List.mem_append_left _ (List.mem_of_getElem? (i := 52) (by decide +kernel))) rfl⟩
theorem lk_X7_283 : VLk RX7 283 mX7_takeAt := ⟨inG (List.mem_of_getElem? (i := 1282) (by decide +kernel)) rfl, inG (List.mem_of_getElem? (i := 1284) (by decide +kernel)) rfl, inGs (List.mem_append_left _ (List.mem_of_getElem? (i := 53) (by decide +kernel))) rfl⟩
theorem lk_X7_286 : VLk RX7 286 mX7_callBy := ⟨inG (List.mem_of_getElem? (i := 1290) (by decide +kernel)) rfl, inG (List.mem_of_getElem? (i := 1292) (by decide +kernel)) rfl, inGs (List.mem_append_left _ (List.mem_of_getElem? (i := 54) (by decide +kernel))) rfl⟩
theorem lk_X7_289 : VLk RX7 289 mX7_tires := ⟨inG (List.mem_of_getElem? (i := 1189) (by decide +kernel)) rfl, inG (List.mem_of_getElem? (i := 1191) (by decide +kernel)) rfl, inGs (List.mem_append_left _ (List.mem_of_getElem? (i := 45) (by decide +kernel))) rfl⟩
theorem lk_X7_293 : VLk RX7 293 mX7_goesOut := ⟨inG (List.mem_of_getElem? (i := 1193) (by decide +kernel)) rfl, inG (List.mem_of_getElem? (i := 1195) (by decide +kernel)) rfl, inGs (List.mem_append_left _ (List.mem_of_getElem? (i := 46) (by decide +kernel))) rfl⟩
theorem lk_X7_296 : VLk RX7 296 mX7_ends := ⟨inG (List.mem_of_getElem? (i := 1197) (by decide +kernel)) rfl, inG (List.mem_of_getElem? (i := 1199) (by decide +kernel)) rfl, inGs (List.mem_append_left _ (List.mem_of_getElem? (i := 47) (by decide +kernel))) rfl⟩
theorem lk_X7_303 : ILk RX7 303 mX7_init := ⟨inG (List.mem_of_getElem? (i := 1113) (by decide +kernel)) rfl, inG (List.mem_of_getElem? (i := 872) (by decide +kernel)) rfl, rfl⟩
theorem lk_X7_305 : VLk RX7 305 mX7_plays := ⟨inG (List.mem_of_getElem? (i := 1298) (by decide +kernel)) rfl, inG (List.mem_of_getElem? (i := 1300) (by decide +kernel)) rfl, inGs (List.mem_append_left _ (List.mem_of_getElem? (i := 55) (by decide +kernel))) rfl⟩
theorem lk_X7_311 : VLk RX7 311 mX7_seekStand := ⟨inG (List.mem_of_getElem? (i := 1315) (by decide +kernel)) rfl, inG (List.mem_of_getElem? (i := 1317) (by decide +kernel)) rfl, inGs (List.mem_append_left _ (List.mem_of_getElem? (i := 57) (by decide +kernel))) rfl⟩
theorem lk_X7_314 : VLk RX7 314 mX7_findStand := ⟨inG (List.mem_of_getElem? (i := 1311) (by decide +kernel)) rfl, inG (List.mem_of_getElem? (i := 1313) (by decide +kernel)) rfl, inGs (List.mem_append_left _ (List.mem_of_getElem? (i := 56) (by decide +kernel))) rfl⟩
theorem lk_X7_317 : VLk RX7 317 mX7_togetherIn := ⟨inG (List.mem_of_getElem? (i := 1327) (by decide +kernel)) rfl, inG (List.mem_of_getElem? (i := 1329) (by decide +kernel)) rfl, inGs (List.mem_append_left _ (List.mem_of_getElem? (i := 58) (by decide +kernel))) rfl⟩
theorem lk_X7_321 : VLk RX7 321 mX7_changes := ⟨inG (List.mem_of_getElem? (i := 1335) (by decide +kernel)) rfl, inG (List.mem_of_getElem? (i := 1337) (by decide +kernel)) rfl, inGs (List.mem_append_left _ (List.mem_of_getElem? (i := 59) (by decide +kernel))) rfl⟩
theorem lk_X7_327 : VLk RX7 327 mX7_leastBy := ⟨inG (List.mem_of_getElem? (i := 1347) (by decide +kernel)) rfl, inG (List.mem_of_getElem? (i := 1349) (by decide +kernel)) rfl, inGs (List.mem_append_left _ (List.mem_of_getElem? (i := 61) (by decide +kernel))) rfl⟩
theorem lk_X7_333 : VLk RX7 333 mX7_gameOf := ⟨inG (List.mem_of_getElem? (i := 1343) (by decide +kernel)) rfl, inG (List.mem_of_getElem? (i := 1345) (by decide +kernel)) rfl, inGs (List.mem_append_left _ (List.mem_of_getElem? (i := 60) (by decide +kernel))) rfl⟩
theorem lk_X7_342 : VLk RX7 342 mX7_goesTold := ⟨inG (List.mem_of_getElem? (i := 1371) (by decide +kernel)) rfl, inG (List.mem_of_getElem? (i := 1373) (by decide +kernel)) rfl, inGs (List.mem_append_left _ (List.mem_of_getElem? (i := 64) (by decide +kernel))) rfl⟩
theorem lk_X7_346 : VLk RX7 346 mX7_noBook := ⟨inG (List.mem_of_getElem? (i := 1363) (by decide +kernel)) rfl, inG (List.mem_of_getElem? (i := 1365) (by decide +kernel)) rfl, inGs (List.mem_append_left _ (List.mem_of_getElem? (i := 62) (by decide +kernel))) rfl⟩
theorem lk_X7_349 : VLk RX7 349 mX7_wrongIn := ⟨inG (List.mem_of_getElem? (i := 1367) (by decide +kernel)) rfl, inG (List.mem_of_getElem? (i := 1369) (by decide +kernel)) rfl, inGs (List.mem_append_left _ (List.mem_of_getElem? (i := 63) (by decide +kernel))) rfl⟩
theorem lk_X7_354 : VLk RX7 354 mX7_below := ⟨inG (List.mem_of_getElem? (i := 1406) (by decide +kernel)) rfl, inG (List.mem_of_getElem? (i := 1408) (by decide +kernel)) rfl, inGs (List.mem_append_left _ (List.mem_of_getElem? (i := 66) (by decide +kernel))) rfl⟩
theorem lk_X7_357 : VLk RX7 357 mX7_goesRun := ⟨inG (List.mem_of_getElem? (i := 1402) (by decide +kernel)) rfl, inG (List.mem_of_getElem? (i := 1404) (by decide +kernel)) rfl, inGs (List.mem_append_left _ (List.mem_of_getElem? (i := 65) (by decide +kernel))) rfl⟩
theorem lk_X7_360 : SLk RX7 360 mX7_copied := ⟨inG (List.mem_of_getElem? (i := 1118) (by decide +kernel)) rfl, inG (List.mem_of_getElem? (i := 1119) (by decide +kernel)) rfl⟩
theorem ct_X6_298 : Cond.constant RX6 298 (1000000 : Int32) ∈ tblG := inG (List.mem_of_getElem? (i := 776) (by decide +kernel)) rfl
theorem ct_X6_333 : Cond.constantLong RX6 333 (8000 : Int64) ∈ tblG := inG (List.mem_of_getElem? (i := 785) (by decide +kernel)) rfl
theorem ct_X1_48 : Cond.constant RX1 48 (1000000000 : Int32) ∈ tblG := inG (List.mem_of_getElem? (i := 672) (by decide +kernel)) rfl
theorem ct_X2_43 : Cond.constant RX2 43 (500000 : Int32) ∈ tblG := inG (List.mem_of_getElem? (i := 659) (by decide +kernel)) rfl
theorem ct_X5_81 : Cond.constant RX5 81 (1000000000 : Int32) ∈ tblG := inG (List.mem_of_getElem? (i := 562) (by decide +kernel)) rfl
theorem ct_X5_94 : Cond.constant RX5 94 (1000000 : Int32) ∈ tblG := inG (List.mem_of_getElem? (i := 507) (by decide +kernel)) rfl
theorem ct_X5_136 : Cond.constant RX5 136 (1103515245 : Int32) ∈ tblG := inG (List.mem_of_getElem? (i := 826) (by decide +kernel)) rfl
theorem ct_L_18 : Cond.constantLong RL 18 (4294967295 : Int64) ∈ tblG := inG (List.mem_of_getElem? (i := 1441) (by decide +kernel)) rfl
theorem ct_X7_93 : Cond.constantLong RX7 93 (7 : Int64) ∈ tblG := inG (List.mem_of_getElem? (i := 997) (by decide +kernel)) rfl
theorem ct_X7_95 : Cond.constantLong RX7 95 (4 : Int64) ∈ tblG := inG (List.mem_of_getElem? (i := 1001) (by decide +kernel)) rfl
theorem ct_X7_97 : Cond.constantLong RX7 97 (40 : Int64) ∈ tblG := inG (List.mem_of_getElem? (i := 1002) (by decide +kernel)) rfl
theorem ct_X7_113 : Cond.constantLong RX7 113 (5 : Int64) ∈ tblG := inG (List.mem_of_getElem? (i := 1042) (by decide +kernel)) rfl
theorem ct_X7_129 : Cond.constantLong RX7 129 (20 : Int64) ∈ tblG := inG (List.mem_of_getElem? (i := 1066) (by decide +kernel)) rfl
theorem ct_X7_131 : Cond.constantLong RX7 131 (9 : Int64) ∈ tblG := inG (List.mem_of_getElem? (i := 1067) (by decide +kernel)) rfl
theorem ct_X7_137 : Cond.constantLong RX7 137 (2 : Int64) ∈ tblG := inG (List.mem_of_getElem? (i := 1076) (by decide +kernel)) rfl
theorem ct_X7_139 : Cond.constantLong RX7 139 (30 : Int64) ∈ tblG := inG (List.mem_of_getElem? (i := 1084) (by decide +kernel)) rfl
theorem ct_X7_141 : Cond.constantLong RX7 141 (10 : Int64) ∈ tblG := inG (List.mem_of_getElem? (i := 1085) (by decide +kernel)) rfl
theorem ct_X7_143 : Cond.constantLong RX7 143 (99 : Int64) ∈ tblG := inG (List.mem_of_getElem? (i := 1086) (by decide +kernel)) rfl
theorem ct_X7_161 : Cond.constantLong RX7 161 (255 : Int64) ∈ tblG := inG (List.mem_of_getElem? (i := 1099) (by decide +kernel)) rfl
theorem ct_X7_218 : Cond.constant RX7 218 (1000000 : Int32) ∈ tblG := inG (List.mem_of_getElem? (i := 1184) (by decide +kernel)) rfl
theorem ct_X7_261 : Cond.constantLong RX7 261 (-1 : Int64) ∈ tblG := inG (List.mem_of_getElem? (i := 1213) (by decide +kernel)) rfl
theorem ct_X7_304 : Cond.constant RX7 304 (500000 : Int32) ∈ tblG := inG (List.mem_of_getElem? (i := 1302) (by decide +kernel)) rfl
theorem ct_X7_336 : Cond.constantLong RX7 336 (1000 : Int64) ∈ tblG := inG (List.mem_of_getElem? (i := 1375) (by decide +kernel)) rfl
theorem ct_X7_338 : Cond.constantLong RX7 338 (100 : Int64) ∈ tblG := inG (List.mem_of_getElem? (i := 1376) (by decide +kernel)) rfl
theorem ct_X7_340 : Cond.constantLong RX7 340 (7999 : Int64) ∈ tblG := inG (List.mem_of_getElem? (i := 1377) (by decide +kernel)) rfl
theorem ct_X7_353 : Cond.constant RX7 353 (1103515245 : Int32) ∈ tblG := inG (List.mem_of_getElem? (i := 1410) (by decide +kernel)) rfl
theorem ct_X7_367 : Cond.constantLong RX7 367 (12 : Int64) ∈ tblG := inG (List.mem_of_getElem? (i := 1439) (by decide +kernel)) rfl
theorem ct_X7_369 : Cond.constantLong RX7 369 (16 : Int64) ∈ tblG := inG (List.mem_of_getElem? (i := 1440) (by decide +kernel)) rfl
