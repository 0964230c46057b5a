theorem mem_pos {big ws : List Cond} (ps : List Nat) (hp : ws = ps.filterMap (fun i => big[i]?)) : ∀ w ∈ ws, w ∈ big := by
  intro w hw
  rw [hp] at hw
  obtain ⟨i, -, hi⟩ := List.mem_filterMap.mp hw
  exact List.mem_of_getElem? hi
set_option maxRecDepth 20000 in
theorem cl_X0 : CLok 0 := ⟨_, rfl, fun w hw => inG (mem_pos (big := tables_1) (ws := u_ws RX0 TX0 2) [142, 144] (by decide +kernel) w hw) (List.all_eq_true.mp (show (u_ws RX0 TX0 2).all goodWord = true by decide +kernel) w hw), tyX0_ok, nmX0, by decide +kernel, inG (List.mem_of_getElem? (i := 131) (by decide +kernel)) rfl, inG (List.mem_of_getElem? (i := 4) (by decide +kernel)) rfl⟩
set_option maxRecDepth 20000 in
theorem cl_X1 : CLok 1 := ⟨_, rfl, fun w hw => inG (mem_pos (big := tables_1) (ws := u_ws RX1 TX1 6) [160, 162, 164, 166, 168, 170] (by decide +kernel) w hw) (List.all_eq_true.mp (show (u_ws RX1 TX1 6).all goodWord = true by decide +kernel) w hw), tyX1_ok, nmX1, by decide +kernel, inG (List.mem_of_getElem? (i := 148) (by decide +kernel)) rfl, inG (List.mem_of_getElem? (i := 5) (by decide +kernel)) rfl⟩
set_option maxRecDepth 20000 in
theorem cl_X2 : CLok 2 := ⟨_, rfl, fun w hw => inG (mem_pos (big := tables_1) (ws := u_ws RX2 TX2 3) [123, 125, 127] (by decide +kernel) w hw) (List.all_eq_true.mp (show (u_ws RX2 TX2 3).all goodWord = true by decide +kernel) w hw), tyX2_ok, nmX2, by decide +kernel, inG (List.mem_of_getElem? (i := 113) (by decide +kernel)) rfl, inG (List.mem_of_getElem? (i := 3) (by decide +kernel)) rfl⟩
set_option maxRecDepth 20000 in
theorem cl_X3 : CLok 3 := ⟨_, rfl, fun w hw => inG (mem_pos (big := tables_1) (ws := u_ws RX3 TX3 3) [214, 216, 218] (by decide +kernel) w hw) (List.all_eq_true.mp (show (u_ws RX3 TX3 3).all goodWord = true by decide +kernel) w hw), tyX3_ok, nmX3, by decide +kernel, inG (List.mem_of_getElem? (i := 203) (by decide +kernel)) rfl, inG (List.mem_of_getElem? (i := 7) (by decide +kernel)) rfl⟩
set_option maxRecDepth 20000 in
theorem cl_X4 : CLok 4 := ⟨_, rfl, fun w hw => inG (mem_pos (big := tables_1) (ws := u_ws RX4 TX4 6) [188, 190, 192, 194, 196, 198] (by decide +kernel) w hw) (List.all_eq_true.mp (show (u_ws RX4 TX4 6).all goodWord = true by decide +kernel) w hw), tyX4_ok, nmX4, by decide +kernel, inG (List.mem_of_getElem? (i := 175) (by decide +kernel)) rfl, inG (List.mem_of_getElem? (i := 6) (by decide +kernel)) rfl⟩
set_option maxRecDepth 20000 in
theorem cl_X5 : CLok 5 := ⟨_, rfl, fun w hw => inG (mem_pos (big := tables_1) (ws := u_ws RX5 TX5 16) [78, 80, 82, 84, 86, 88, 90, 92, 94, 96, 98, 100, 102, 104, 106, 108] (by decide +kernel) w hw) (List.all_eq_true.mp (show (u_ws RX5 TX5 16).all goodWord = true by decide +kernel) w hw), tyX5_ok, nmX5, by decide +kernel, inG (List.mem_of_getElem? (i := 24) (by decide +kernel)) rfl, inG (List.mem_of_getElem? (i := 2) (by decide +kernel)) rfl⟩
set_option maxRecDepth 20000 in
theorem cl_X6 : CLok 6 := ⟨_, rfl, fun w hw => inG (mem_pos (big := tables_1) (ws := u_ws RX6 TX6 10) [232, 234, 236, 238, 240, 242, 244, 246, 248, 250] (by decide +kernel) w hw) (List.all_eq_true.mp (show (u_ws RX6 TX6 10).all goodWord = true by decide +kernel) w hw), tyX6_ok, nmX6, by decide +kernel, inG (List.mem_of_getElem? (i := 16) (by decide +kernel)) rfl, inG (List.mem_of_getElem? (i := 1) (by decide +kernel)) rfl⟩
set_option maxRecDepth 20000 in
theorem cl_X7 : CLok 7 := ⟨_, rfl, fun w hw => inG (mem_pos (big := tables_1) (ws := u_ws RX7 TX7 38) [916, 918, 920, 922, 924, 926, 928, 930, 932, 934, 936, 938, 940, 942, 944, 946, 948, 950, 952, 954, 956, 958, 960, 962, 964, 966, 968, 970, 972, 974, 976, 978, 980, 982, 984, 986, 988, 990] (by decide +kernel) w hw) (List.all_eq_true.mp (show (u_ws RX7 TX7 38).all goodWord = true by decide +kernel) w hw), tyX7_ok, nmX7, by decide +kernel, inG (List.mem_of_getElem? (i := 870) (by decide +kernel)) rfl, inG (List.mem_of_getElem? (i := 8) (by decide +kernel)) rfl⟩
