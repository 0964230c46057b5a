set_option maxHeartbeats 4000000 in
theorem lp_X6_shelvesInUse {g : WG} {d : Nat} {T : TT} {M : MM} {o sz : Nat} {S : ST} {Q : MVal → TT → MM → Nat → Prop} (hC : CT T o) (hN : CN M o S) (hW : WFS S) {x : CX} (hx : OKx g x RX6 cX6_shelvesInUse (d + 1)) (hr : RTx g x (some .int) Q) (hQ : Q (vI ((useS S 8 : Nat) : Int)) T M sz) (j f : Nat) (hj : j ≤ 8) (hf : f = useS S j) : Jd g x 4 [vR (o), vI (((f : Nat) : Int)), vI (((j : Nat) : Int))] [] T M sz 0 0 := by
  have hf8 : f ≤ j := by rw [hf]; exact cntF_le _ _
  refine J_iload_n hx dX6_shelvesInUse_4 (i := 2) rfl rfl ?_
  refine J_bipush (v := 8) hx dX6_shelvesInUse_5 (by decide) ?_
  refine J_icmp_ge (tgt := 32) hx dX6_shelvesInUse_7 (by decide) (fun c1 => ?_) (fun c1 => ?_)
  · refine J_iload_n hx dX6_shelvesInUse_32 (i := 1) rfl rfl ?_
    refine J_iret hx hr dX6_shelvesInUse_33 ?_
    have ej : j = 8 := by omega
    subst ej
    exact Qv hQ (by rw [hf])
  · refine J_aload_n hx dX6_shelvesInUse_10 (i := 0) rfl rfl ?_
    refine J_getR (b := o + 65) hx fl_X6_54 cl_X6 dX6_shelvesInUse_11 hC.o (by decide) rfl hC.r7 ?_
    refine J_iload_n hx dX6_shelvesInUse_14 (i := 2) rfl rfl ?_
    refine J_aald (b := o + 67 + 2 * j) hx j dX6_shelvesInUse_15 hC.k65 (by decide) (by omega) (by rw [hC.n65]; omega) (hC.sre (by omega)) ?_
    refine J_getI2 (v := (S.sh j).1) hx fl_X6_87 cl_X3 dX6_shelvesInUse_16 (hC.skd (by omega)) (by decide) rfl (hN.hd (by omega)) ?_
    have rg2 := hW.h (s := j) (by omega)
    refine J_iconst (v := -1) hx dX6_shelvesInUse_19 (by decide) ?_
    refine J_icmp_eq (tgt := 26) hx dX6_shelvesInUse_20 (by decide) (fun c3 => ?_) (fun c3 => ?_)
    · refine J_iinc (v := ((j : Nat) : Int) + 1) (lsn := [vR (o), vI (((f : Nat) : Int)), vI (((j : Nat) : Int) + 1)]) hx dX6_shelvesInUse_26 rfl (jinc1 (by omega) (by omega)) rfl rfl ?_
      refine J_goto (tgt := 4) hx dX6_shelvesInUse_29 (by decide) ?_
      exact lp_X6_shelvesInUse hC hN hW hx hr hQ (j + 1) f (by omega) (by rw [hf]; unfold useS; exact (cntF_f (by simp; omega)).symm)
    · refine J_iinc (v := ((f : Nat) : Int) + 1) (lsn := [vR (o), vI (((f : Nat) : Int) + 1), vI (((j : Nat) : Int))]) hx dX6_shelvesInUse_23 rfl (jinc1 (by omega) (by omega)) rfl rfl ?_
      refine J_iinc (v := ((j : Nat) : Int) + 1) (lsn := [vR (o), vI (((f : Nat) : Int) + 1), vI (((j : Nat) : Int) + 1)]) hx dX6_shelvesInUse_26 rfl (jinc1 (by omega) (by omega)) rfl rfl ?_
      refine J_goto (tgt := 4) hx dX6_shelvesInUse_29 (by decide) ?_
      exact lp_X6_shelvesInUse hC hN hW hx hr hQ (j + 1) (f + 1) (by omega) (by rw [hf]; unfold useS; exact (cntF_t (by simp; omega)).symm)
termination_by 8 - j
decreasing_by all_goals omega

set_option maxHeartbeats 4000000 in
theorem c_X6_shelvesInUse {g : WG} {d : Nat} {T : TT} {M : MM} {o sz : Nat} {S : ST} {Q : MVal → TT → MM → Nat → Prop} (hC : CT T o) (hN : CN M o S) (hW : WFS S) (hQ : Q (vI ((useS S 8 : Nat) : Int)) T M sz) : Ct g (d + 1) mX6_shelvesInUse [vR (o)] T M sz 0 0 Q := by
  refine Ct_of2 (ls := [vR (o), vU, vU]) okX6_shelvesInUse rfl (Nat.le_of_ble_eq_true rfl) rfl ?_
  intro x hx hr hnm
  refine J_iconst (v := 0) hx dX6_shelvesInUse_0 (by decide) ?_
  refine J_istore_n (lsn := [vR (o), vI (0), vU]) hx dX6_shelvesInUse_1 (i := 1) rfl (Nat.le_of_ble_eq_true rfl) rfl rfl ?_
  refine J_iconst (v := 0) hx dX6_shelvesInUse_2 (by decide) ?_
  refine J_istore_n (lsn := [vR (o), vI (0), vI (0)]) hx dX6_shelvesInUse_3 (i := 2) rfl (Nat.le_of_ble_eq_true rfl) rfl rfl ?_
  exact lp_X6_shelvesInUse hC hN hW hx hr hQ 0 0 (by omega) rfl

set_option maxHeartbeats 4000000 in
theorem c_X6_status {g : WG} {d : Nat} {T : TT} {M : MM} {o sz : Nat} {S : ST} {Q : MVal → TT → MM → Nat → Prop} (hC : CT T o) (hN : CN M o S) (hW : WFS S) {w : Int} (h_w : -2147483648 ≤ w ∧ w ≤ 2147483647) (hQ : CQ o T M sz Q (a_status S w)) : Ct g (d + 2) mX6_status [vR (o), vI (w)] T M sz 0 0 Q := by
  refine Ct_of2 (ls := [vR (o), vI (w)]) okX6_status rfl (Nat.le_of_ble_eq_true rfl) rfl ?_
  intro x hx hr hnm
  refine J_iload_n hx dX6_status_0 (i := 1) rfl rfl ?_
  by_cases t1_0 : w = 0
  · refine J_tswIn (tgt := 60) (off := 59) hx dX6_status_1 (by omega) (by omega) (by rw [t1_0]; rfl) (by decide) ?_
    refine J_aload_n hx dX6_status_60 (i := 0) rfl rfl ?_
    refine J_getR (b := o + 1) hx fl_X6_10 cl_X6 dX6_status_61 hC.o (by decide) rfl hC.r0 ?_
    refine J_getI2 (v := ((S.1.n : Nat) : Int)) hx fl_X6_138 cl_X5 dX6_status_64 hC.y0.o (by decide) rfl hN.y.pp ?_
    have rg2 := hW.y.n8
    refine J_iret hx hr dX6_status_67 ?_
    exact hQ.same (v := ((S.1.n : Nat) : Int)) (S := S) (by
      unfold a_status
      first
      | exact (fun (e9 : w = 0) => by subst e9; first | rfl | exact congrArg (fun z => (z, S)) hW.y.tni) (by omega)
      | exact (fun (e9 : w = 1) => by subst e9; first | rfl | exact congrArg (fun z => (z, S)) hW.y.tni) (by omega)
      | exact (fun (e9 : w = 2) => by subst e9; first | rfl | exact congrArg (fun z => (z, S)) hW.y.tni) (by omega)
      | exact (fun (e9 : w = 3) => by subst e9; first | rfl | exact congrArg (fun z => (z, S)) hW.y.tni) (by omega)
      | exact (fun (e9 : w = 4) => by subst e9; first | rfl | exact congrArg (fun z => (z, S)) hW.y.tni) (by omega)
      | exact (fun (e9 : w = 5) => by subst e9; first | rfl | exact congrArg (fun z => (z, S)) hW.y.tni) (by omega)
      | exact (fun (e9 : w = 6) => by subst e9; first | rfl | exact congrArg (fun z => (z, S)) hW.y.tni) (by omega)
      | exact (fun (e9 : w = 7) => by subst e9; first | rfl | exact congrArg (fun z => (z, S)) hW.y.tni) (by omega)
      | exact (fun (e9 : w = 8) => by subst e9; first | rfl | exact congrArg (fun z => (z, S)) hW.y.tni) (by omega)
      | exact (fun (e9 : w = 9) => by subst e9; first | rfl | exact congrArg (fun z => (z, S)) hW.y.tni) (by omega)
      | exact (fun (e9 : w = 10) => by subst e9; first | rfl | exact congrArg (fun z => (z, S)) hW.y.tni) (by omega)
      | (rw [if_neg (by omega), if_neg (by omega), if_neg (by omega), if_neg (by omega), if_neg (by omega), if_neg (by omega), if_neg (by omega), if_neg (by omega), if_neg (by omega), if_neg (by omega), if_neg (by omega)]; first | (rw [if_pos (by omega)]) | (rw [if_neg (by omega)]))) hC hN
  by_cases t1_1 : w = 1
  · refine J_tswIn (tgt := 68) (off := 67) hx dX6_status_1 (by omega) (by omega) (by rw [t1_1]; rfl) (by decide) ?_
    refine J_aload_n hx dX6_status_68 (i := 0) rfl rfl ?_
    refine J_getR (b := o + 1) hx fl_X6_10 cl_X6 dX6_status_69 hC.o (by decide) rfl hC.r0 ?_
    refine J_getI2 (v := S.1.sc 6) hx fl_X6_303 cl_X5 dX6_status_72 hC.y0.o (by decide) rfl hN.y.s6 ?_
    have rg3 := hW.y.s6
    refine J_iret hx hr dX6_status_75 ?_
    exact hQ.same (v := S.1.sc 6) (S := S) (by
      unfold a_status
      first
      | exact (fun (e9 : w = 0) => by subst e9; first | rfl | exact congrArg (fun z => (z, S)) hW.y.tni) (by omega)
      | exact (fun (e9 : w = 1) => by subst e9; first | rfl | exact congrArg (fun z => (z, S)) hW.y.tni) (by omega)
      | exact (fun (e9 : w = 2) => by subst e9; first | rfl | exact congrArg (fun z => (z, S)) hW.y.tni) (by omega)
      | exact (fun (e9 : w = 3) => by subst e9; first | rfl | exact congrArg (fun z => (z, S)) hW.y.tni) (by omega)
      | exact (fun (e9 : w = 4) => by subst e9; first | rfl | exact congrArg (fun z => (z, S)) hW.y.tni) (by omega)
      | exact (fun (e9 : w = 5) => by subst e9; first | rfl | exact congrArg (fun z => (z, S)) hW.y.tni) (by omega)
      | exact (fun (e9 : w = 6) => by subst e9; first | rfl | exact congrArg (fun z => (z, S)) hW.y.tni) (by omega)
      | exact (fun (e9 : w = 7) => by subst e9; first | rfl | exact congrArg (fun z => (z, S)) hW.y.tni) (by omega)
      | exact (fun (e9 : w = 8) => by subst e9; first | rfl | exact congrArg (fun z => (z, S)) hW.y.tni) (by omega)
      | exact (fun (e9 : w = 9) => by subst e9; first | rfl | exact congrArg (fun z => (z, S)) hW.y.tni) (by omega)
      | exact (fun (e9 : w = 10) => by subst e9; first | rfl | exact congrArg (fun z => (z, S)) hW.y.tni) (by omega)
      | (rw [if_neg (by omega), if_neg (by omega), if_neg (by omega), if_neg (by omega), if_neg (by omega), if_neg (by omega), if_neg (by omega), if_neg (by omega), if_neg (by omega), if_neg (by omega), if_neg (by omega)]; first | (rw [if_pos (by omega)]) | (rw [if_neg (by omega)]))) hC hN
  by_cases t1_2 : w = 2
  · refine J_tswIn (tgt := 76) (off := 75) hx dX6_status_1 (by omega) (by omega) (by rw [t1_2]; rfl) (by decide) ?_
    refine J_aload_n hx dX6_status_76 (i := 0) rfl rfl ?_
    refine J_getR (b := o + 1) hx fl_X6_10 cl_X6 dX6_status_77 hC.o (by decide) rfl hC.r0 ?_
    refine J_getI2 (v := ((S.1.tn : Nat) : Int)) hx fl_X6_169 cl_X5 dX6_status_80 hC.y0.o (by decide) rfl (hN.y.tn hW.y) ?_
    have rg4 := hW.y.tn2
    refine J_iret hx hr dX6_status_83 ?_
    exact hQ.same (v := ((S.1.tn : Nat) : Int)) (S := S) (by
      unfold a_status
      first
      | exact (fun (e9 : w = 0) => by subst e9; first | rfl | exact congrArg (fun z => (z, S)) hW.y.tni) (by omega)
      | exact (fun (e9 : w = 1) => by subst e9; first | rfl | exact congrArg (fun z => (z, S)) hW.y.tni) (by omega)
      | exact (fun (e9 : w = 2) => by subst e9; first | rfl | exact congrArg (fun z => (z, S)) hW.y.tni) (by omega)
      | exact (fun (e9 : w = 3) => by subst e9; first | rfl | exact congrArg (fun z => (z, S)) hW.y.tni) (by omega)
      | exact (fun (e9 : w = 4) => by subst e9; first | rfl | exact congrArg (fun z => (z, S)) hW.y.tni) (by omega)
      | exact (fun (e9 : w = 5) => by subst e9; first | rfl | exact congrArg (fun z => (z, S)) hW.y.tni) (by omega)
      | exact (fun (e9 : w = 6) => by subst e9; first | rfl | exact congrArg (fun z => (z, S)) hW.y.tni) (by omega)
      | exact (fun (e9 : w = 7) => by subst e9; first | rfl | exact congrArg (fun z => (z, S)) hW.y.tni) (by omega)
      | exact (fun (e9 : w = 8) => by subst e9; first | rfl | exact congrArg (fun z => (z, S)) hW.y.tni) (by omega)
      | exact (fun (e9 : w = 9) => by subst e9; first | rfl | exact congrArg (fun z => (z, S)) hW.y.tni) (by omega)
      | exact (fun (e9 : w = 10) => by subst e9; first | rfl | exact congrArg (fun z => (z, S)) hW.y.tni) (by omega)
      | (rw [if_neg (by omega), if_neg (by omega), if_neg (by omega), if_neg (by omega), if_neg (by omega), if_neg (by omega), if_neg (by omega), if_neg (by omega), if_neg (by omega), if_neg (by omega), if_neg (by omega)]; first | (rw [if_pos (by omega)]) | (rw [if_neg (by omega)]))) hC hN
  by_cases t1_3 : w = 3
  · refine J_tswIn (tgt := 84) (off := 83) hx dX6_status_1 (by omega) (by omega) (by rw [t1_3]; rfl) (by decide) ?_
    refine J_aload_n hx dX6_status_84 (i := 0) rfl rfl ?_
    refine J_getR (b := o + 1) hx fl_X6_10 cl_X6 dX6_status_85 hC.o (by decide) rfl hC.r0 ?_
    refine J_getI2 (v := S.1.sc 1) hx fl_X6_157 cl_X5 dX6_status_88 hC.y0.o (by decide) rfl hN.y.s1 ?_
    have rg5 := hW.y.s1
    refine J_iret hx hr dX6_status_91 ?_
    exact hQ.same (v := S.1.sc 1) (S := S) (by
      unfold a_status
      first
      | exact (fun (e9 : w = 0) => by subst e9; first | rfl | exact congrArg (fun z => (z, S)) hW.y.tni) (by omega)
      | exact (fun (e9 : w = 1) => by subst e9; first | rfl | exact congrArg (fun z => (z, S)) hW.y.tni) (by omega)
      | exact (fun (e9 : w = 2) => by subst e9; first | rfl | exact congrArg (fun z => (z, S)) hW.y.tni) (by omega)
      | exact (fun (e9 : w = 3) => by subst e9; first | rfl | exact congrArg (fun z => (z, S)) hW.y.tni) (by omega)
      | exact (fun (e9 : w = 4) => by subst e9; first | rfl | exact congrArg (fun z => (z, S)) hW.y.tni) (by omega)
      | exact (fun (e9 : w = 5) => by subst e9; first | rfl | exact congrArg (fun z => (z, S)) hW.y.tni) (by omega)
      | exact (fun (e9 : w = 6) => by subst e9; first | rfl | exact congrArg (fun z => (z, S)) hW.y.tni) (by omega)
      | exact (fun (e9 : w = 7) => by subst e9; first | rfl | exact congrArg (fun z => (z, S)) hW.y.tni) (by omega)
      | exact (fun (e9 : w = 8) => by subst e9; first | rfl | exact congrArg (fun z => (z, S)) hW.y.tni) (by omega)
      | exact (fun (e9 : w = 9) => by subst e9; first | rfl | exact congrArg (fun z => (z, S)) hW.y.tni) (by omega)
      | exact (fun (e9 : w = 10) => by subst e9; first | rfl | exact congrArg (fun z => (z, S)) hW.y.tni) (by omega)
      | (rw [if_neg (by omega), if_neg (by omega), if_neg (by omega), if_neg (by omega), if_neg (by omega), if_neg (by omega), if_neg (by omega), if_neg (by omega), if_neg (by omega), if_neg (by omega), if_neg (by omega)]; first | (rw [if_pos (by omega)]) | (rw [if_neg (by omega)]))) hC hN
  by_cases t1_4 : w = 4
  · refine J_tswIn (tgt := 92) (off := 91) hx dX6_status_1 (by omega) (by omega) (by rw [t1_4]; rfl) (by decide) ?_
    refine J_aload_n hx dX6_status_92 (i := 0) rfl rfl ?_
    refine J_getR (b := o + 1) hx fl_X6_10 cl_X6 dX6_status_93 hC.o (by decide) rfl hC.r0 ?_
    refine J_getI2 (v := S.1.sc 2) hx fl_X6_160 cl_X5 dX6_status_96 hC.y0.o (by decide) rfl hN.y.s2 ?_
    have rg6 := hW.y.s2
    refine J_iret hx hr dX6_status_99 ?_
    exact hQ.same (v := S.1.sc 2) (S := S) (by
      unfold a_status
      first
      | exact (fun (e9 : w = 0) => by subst e9; first | rfl | exact congrArg (fun z => (z, S)) hW.y.tni) (by omega)
      | exact (fun (e9 : w = 1) => by subst e9; first | rfl | exact congrArg (fun z => (z, S)) hW.y.tni) (by omega)
      | exact (fun (e9 : w = 2) => by subst e9; first | rfl | exact congrArg (fun z => (z, S)) hW.y.tni) (by omega)
      | exact (fun (e9 : w = 3) => by subst e9; first | rfl | exact congrArg (fun z => (z, S)) hW.y.tni) (by omega)
      | exact (fun (e9 : w = 4) => by subst e9; first | rfl | exact congrArg (fun z => (z, S)) hW.y.tni) (by omega)
      | exact (fun (e9 : w = 5) => by subst e9; first | rfl | exact congrArg (fun z => (z, S)) hW.y.tni) (by omega)
      | exact (fun (e9 : w = 6) => by subst e9; first | rfl | exact congrArg (fun z => (z, S)) hW.y.tni) (by omega)
      | exact (fun (e9 : w = 7) => by subst e9; first | rfl | exact congrArg (fun z => (z, S)) hW.y.tni) (by omega)
      | exact (fun (e9 : w = 8) => by subst e9; first | rfl | exact congrArg (fun z => (z, S)) hW.y.tni) (by omega)
      | exact (fun (e9 : w = 9) => by subst e9; first | rfl | exact congrArg (fun z => (z, S)) hW.y.tni) (by omega)
      | exact (fun (e9 : w = 10) => by subst e9; first | rfl | exact congrArg (fun z => (z, S)) hW.y.tni) (by omega)
      | (rw [if_neg (by omega), if_neg (by omega), if_neg (by omega), if_neg (by omega), if_neg (by omega), if_neg (by omega), if_neg (by omega), if_neg (by omega), if_neg (by omega), if_neg (by omega), if_neg (by omega)]; first | (rw [if_pos (by omega)]) | (rw [if_neg (by omega)]))) hC hN
  by_cases t1_5 : w = 5
  · refine J_tswIn (tgt := 100) (off := 99) hx dX6_status_1 (by omega) (by omega) (by rw [t1_5]; rfl) (by decide) ?_
    refine J_aload_n hx dX6_status_100 (i := 0) rfl rfl ?_
    refine J_getR (b := o + 1) hx fl_X6_10 cl_X6 dX6_status_101 hC.o (by decide) rfl hC.r0 ?_
    refine J_getI2 (v := S.1.sc 3) hx fl_X6_163 cl_X5 dX6_status_104 hC.y0.o (by decide) rfl hN.y.s3 ?_
    have rg7 := hW.y.s3
    refine J_iret hx hr dX6_status_107 ?_
    exact hQ.same (v := S.1.sc 3) (S := S) (by
      unfold a_status
      first
      | exact (fun (e9 : w = 0) => by subst e9; first | rfl | exact congrArg (fun z => (z, S)) hW.y.tni) (by omega)
      | exact (fun (e9 : w = 1) => by subst e9; first | rfl | exact congrArg (fun z => (z, S)) hW.y.tni) (by omega)
      | exact (fun (e9 : w = 2) => by subst e9; first | rfl | exact congrArg (fun z => (z, S)) hW.y.tni) (by omega)
      | exact (fun (e9 : w = 3) => by subst e9; first | rfl | exact congrArg (fun z => (z, S)) hW.y.tni) (by omega)
      | exact (fun (e9 : w = 4) => by subst e9; first | rfl | exact congrArg (fun z => (z, S)) hW.y.tni) (by omega)
      | exact (fun (e9 : w = 5) => by subst e9; first | rfl | exact congrArg (fun z => (z, S)) hW.y.tni) (by omega)
      | exact (fun (e9 : w = 6) => by subst e9; first | rfl | exact congrArg (fun z => (z, S)) hW.y.tni) (by omega)
      | exact (fun (e9 : w = 7) => by subst e9; first | rfl | exact congrArg (fun z => (z, S)) hW.y.tni) (by omega)
      | exact (fun (e9 : w = 8) => by subst e9; first | rfl | exact congrArg (fun z => (z, S)) hW.y.tni) (by omega)
      | exact (fun (e9 : w = 9) => by subst e9; first | rfl | exact congrArg (fun z => (z, S)) hW.y.tni) (by omega)
      | exact (fun (e9 : w = 10) => by subst e9; first | rfl | exact congrArg (fun z => (z, S)) hW.y.tni) (by omega)
      | (rw [if_neg (by omega), if_neg (by omega), if_neg (by omega), if_neg (by omega), if_neg (by omega), if_neg (by omega), if_neg (by omega), if_neg (by omega), if_neg (by omega), if_neg (by omega), if_neg (by omega)]; first | (rw [if_pos (by omega)]) | (rw [if_neg (by omega)]))) hC hN
  by_cases t1_6 : w = 6
  · refine J_tswIn (tgt := 108) (off := 107) hx dX6_status_1 (by omega) (by omega) (by rw [t1_6]; rfl) (by decide) ?_
    refine J_aload_n hx dX6_status_108 (i := 0) rfl rfl ?_
    refine J_getR (b := o + 1) hx fl_X6_10 cl_X6 dX6_status_109 hC.o (by decide) rfl hC.r0 ?_
    refine J_getI2 (v := S.1.sc 4) hx fl_X6_166 cl_X5 dX6_status_112 hC.y0.o (by decide) rfl hN.y.s4 ?_
    have rg8 := hW.y.s4
    refine J_iret hx hr dX6_status_115 ?_
    exact hQ.same (v := S.1.sc 4) (S := S) (by
      unfold a_status
      first
      | exact (fun (e9 : w = 0) => by subst e9; first | rfl | exact congrArg (fun z => (z, S)) hW.y.tni) (by omega)
      | exact (fun (e9 : w = 1) => by subst e9; first | rfl | exact congrArg (fun z => (z, S)) hW.y.tni) (by omega)
      | exact (fun (e9 : w = 2) => by subst e9; first | rfl | exact congrArg (fun z => (z, S)) hW.y.tni) (by omega)
      | exact (fun (e9 : w = 3) => by subst e9; first | rfl | exact congrArg (fun z => (z, S)) hW.y.tni) (by omega)
      | exact (fun (e9 : w = 4) => by subst e9; first | rfl | exact congrArg (fun z => (z, S)) hW.y.tni) (by omega)
      | exact (fun (e9 : w = 5) => by subst e9; first | rfl | exact congrArg (fun z => (z, S)) hW.y.tni) (by omega)
      | exact (fun (e9 : w = 6) => by subst e9; first | rfl | exact congrArg (fun z => (z, S)) hW.y.tni) (by omega)
      | exact (fun (e9 : w = 7) => by subst e9; first | rfl | exact congrArg (fun z => (z, S)) hW.y.tni) (by omega)
      | exact (fun (e9 : w = 8) => by subst e9; first | rfl | exact congrArg (fun z => (z, S)) hW.y.tni) (by omega)
      | exact (fun (e9 : w = 9) => by subst e9; first | rfl | exact congrArg (fun z => (z, S)) hW.y.tni) (by omega)
      | exact (fun (e9 : w = 10) => by subst e9; first | rfl | exact congrArg (fun z => (z, S)) hW.y.tni) (by omega)
      | (rw [if_neg (by omega), if_neg (by omega), if_neg (by omega), if_neg (by omega), if_neg (by omega), if_neg (by omega), if_neg (by omega), if_neg (by omega), if_neg (by omega), if_neg (by omega), if_neg (by omega)]; first | (rw [if_pos (by omega)]) | (rw [if_neg (by omega)]))) hC hN
  by_cases t1_7 : w = 7
  · refine J_tswIn (tgt := 116) (off := 115) hx dX6_status_1 (by omega) (by omega) (by rw [t1_7]; rfl) (by decide) ?_
    refine J_aload_n hx dX6_status_116 (i := 0) rfl rfl ?_
    refine J_getR (b := o + 1) hx fl_X6_10 cl_X6 dX6_status_117 hC.o (by decide) rfl hC.r0 ?_
    refine J_invV (As := []) (st := []) hx lk_X6_324 okX5_allTired dX6_status_120 hC.y0.o (by decide) rfl rfl rfl (Nat.le_of_ble_eq_true rfl) (Nat.zero_add _).symm (Nat.zero_add _).symm rfl (c_X5_allTired hC.y0 hN.y hW.y  ?_)
    refine J_iret hx hr dX6_status_123 ?_
    exact hQ.same (v := sumF (S.1.att 3) S.1.n) (S := S) (by
      unfold a_status
      first
      | exact (fun (e9 : w = 0) => by subst e9; first | rfl | exact congrArg (fun z => (z, S)) hW.y.tni) (by omega)
      | exact (fun (e9 : w = 1) => by subst e9; first | rfl | exact congrArg (fun z => (z, S)) hW.y.tni) (by omega)
      | exact (fun (e9 : w = 2) => by subst e9; first | rfl | exact congrArg (fun z => (z, S)) hW.y.tni) (by omega)
      | exact (fun (e9 : w = 3) => by subst e9; first | rfl | exact congrArg (fun z => (z, S)) hW.y.tni) (by omega)
      | exact (fun (e9 : w = 4) => by subst e9; first | rfl | exact congrArg (fun z => (z, S)) hW.y.tni) (by omega)
      | exact (fun (e9 : w = 5) => by subst e9; first | rfl | exact congrArg (fun z => (z, S)) hW.y.tni) (by omega)
      | exact (fun (e9 : w = 6) => by subst e9; first | rfl | exact congrArg (fun z => (z, S)) hW.y.tni) (by omega)
      | exact (fun (e9 : w = 7) => by subst e9; first | rfl | exact congrArg (fun z => (z, S)) hW.y.tni) (by omega)
      | exact (fun (e9 : w = 8) => by subst e9; first | rfl | exact congrArg (fun z => (z, S)) hW.y.tni) (by omega)
      | exact (fun (e9 : w = 9) => by subst e9; first | rfl | exact congrArg (fun z => (z, S)) hW.y.tni) (by omega)
      | exact (fun (e9 : w = 10) => by subst e9; first | rfl | exact congrArg (fun z => (z, S)) hW.y.tni) (by omega)
      | (rw [if_neg (by omega), if_neg (by omega), if_neg (by omega), if_neg (by omega), if_neg (by omega), if_neg (by omega), if_neg (by omega), if_neg (by omega), if_neg (by omega), if_neg (by omega), if_neg (by omega)]; first | (rw [if_pos (by omega)]) | (rw [if_neg (by omega)]))) hC hN
  by_cases t1_8 : w = 8
  · refine J_tswIn (tgt := 124) (off := 123) hx dX6_status_1 (by omega) (by omega) (by rw [t1_8]; rfl) (by decide) ?_
    refine J_aload_n hx dX6_status_124 (i := 0) rfl rfl ?_
    refine J_getR (b := o + 63) hx fl_X6_48 cl_X6 dX6_status_125 hC.o (by decide) rfl hC.r6 ?_
    refine J_getI2 (v := ((S.tp.1 : Nat) : Int)) hx fl_X6_172 cl_X4 dX6_status_128 hC.k63 (by decide) rfl hN.tz ?_
    have rg9 := hW.t
    refine J_iret hx hr dX6_status_131 ?_
    exact hQ.same (v := ((S.tp.1 : Nat) : Int)) (S := S) (by
      unfold a_status
      first
      | exact (fun (e9 : w = 0) => by subst e9; first | rfl | exact congrArg (fun z => (z, S)) hW.y.tni) (by omega)
      | exact (fun (e9 : w = 1) => by subst e9; first | rfl | exact congrArg (fun z => (z, S)) hW.y.tni) (by omega)
      | exact (fun (e9 : w = 2) => by subst e9; first | rfl | exact congrArg (fun z => (z, S)) hW.y.tni) (by omega)
      | exact (fun (e9 : w = 3) => by subst e9; first | rfl | exact congrArg (fun z => (z, S)) hW.y.tni) (by omega)
      | exact (fun (e9 : w = 4) => by subst e9; first | rfl | exact congrArg (fun z => (z, S)) hW.y.tni) (by omega)
      | exact (fun (e9 : w = 5) => by subst e9; first | rfl | exact congrArg (fun z => (z, S)) hW.y.tni) (by omega)
      | exact (fun (e9 : w = 6) => by subst e9; first | rfl | exact congrArg (fun z => (z, S)) hW.y.tni) (by omega)
      | exact (fun (e9 : w = 7) => by subst e9; first | rfl | exact congrArg (fun z => (z, S)) hW.y.tni) (by omega)
      | exact (fun (e9 : w = 8) => by subst e9; first | rfl | exact congrArg (fun z => (z, S)) hW.y.tni) (by omega)
      | exact (fun (e9 : w = 9) => by subst e9; first | rfl | exact congrArg (fun z => (z, S)) hW.y.tni) (by omega)
      | exact (fun (e9 : w = 10) => by subst e9; first | rfl | exact congrArg (fun z => (z, S)) hW.y.tni) (by omega)
      | (rw [if_neg (by omega), if_neg (by omega), if_neg (by omega), if_neg (by omega), if_neg (by omega), if_neg (by omega), if_neg (by omega), if_neg (by omega), if_neg (by omega), if_neg (by omega), if_neg (by omega)]; first | (rw [if_pos (by omega)]) | (rw [if_neg (by omega)]))) hC hN
  by_cases t1_9 : w = 9
  · refine J_tswIn (tgt := 132) (off := 131) hx dX6_status_1 (by omega) (by omega) (by rw [t1_9]; rfl) (by decide) ?_
    refine J_aload_n hx dX6_status_132 (i := 0) rfl rfl ?_
    refine J_getR (b := o + 1) hx fl_X6_10 cl_X6 dX6_status_133 hC.o (by decide) rfl hC.r0 ?_
    refine J_getI2 (v := S.1.sc 7) hx fl_X6_317 cl_X5 dX6_status_136 hC.y0.o (by decide) rfl hN.y.s7 ?_
    have rg10 := hW.y.s7
    refine J_iret hx hr dX6_status_139 ?_
    exact hQ.same (v := S.1.sc 7) (S := S) (by
      unfold a_status
      first
      | exact (fun (e9 : w = 0) => by subst e9; first | rfl | exact congrArg (fun z => (z, S)) hW.y.tni) (by omega)
      | exact (fun (e9 : w = 1) => by subst e9; first | rfl | exact congrArg (fun z => (z, S)) hW.y.tni) (by omega)
      | exact (fun (e9 : w = 2) => by subst e9; first | rfl | exact congrArg (fun z => (z, S)) hW.y.tni) (by omega)
      | exact (fun (e9 : w = 3) => by subst e9; first | rfl | exact congrArg (fun z => (z, S)) hW.y.tni) (by omega)
      | exact (fun (e9 : w = 4) => by subst e9; first | rfl | exact congrArg (fun z => (z, S)) hW.y.tni) (by omega)
      | exact (fun (e9 : w = 5) => by subst e9; first | rfl | exact congrArg (fun z => (z, S)) hW.y.tni) (by omega)
      | exact (fun (e9 : w = 6) => by subst e9; first | rfl | exact congrArg (fun z => (z, S)) hW.y.tni) (by omega)
      | exact (fun (e9 : w = 7) => by subst e9; first | rfl | exact congrArg (fun z => (z, S)) hW.y.tni) (by omega)
      | exact (fun (e9 : w = 8) => by subst e9; first | rfl | exact congrArg (fun z => (z, S)) hW.y.tni) (by omega)
      | exact (fun (e9 : w = 9) => by subst e9; first | rfl | exact congrArg (fun z => (z, S)) hW.y.tni) (by omega)
      | exact (fun (e9 : w = 10) => by subst e9; first | rfl | exact congrArg (fun z => (z, S)) hW.y.tni) (by omega)
      | (rw [if_neg (by omega), if_neg (by omega), if_neg (by omega), if_neg (by omega), if_neg (by omega), if_neg (by omega), if_neg (by omega), if_neg (by omega), if_neg (by omega), if_neg (by omega), if_neg (by omega)]; first | (rw [if_pos (by omega)]) | (rw [if_neg (by omega)]))) hC hN
  by_cases t1_10 : w = 10
  · refine J_tswIn (tgt := 140) (off := 139) hx dX6_status_1 (by omega) (by omega) (by rw [t1_10]; rfl) (by decide) ?_
    refine J_aload_n hx dX6_status_140 (i := 0) rfl rfl ?_
    refine J_invV (As := []) (st := []) hx lk_X6_327 okX6_shelvesInUse dX6_status_141 hC.o (by decide) rfl rfl rfl (Nat.le_of_ble_eq_true rfl) (Nat.zero_add _).symm (Nat.zero_add _).symm rfl (c_X6_shelvesInUse hC hN hW ?_)
    refine J_iret hx hr dX6_status_144 ?_
    exact hQ.same (v := ((useS S 8 : Nat) : Int)) (S := S) (by
      unfold a_status
      first
      | exact (fun (e9 : w = 0) => by subst e9; first | rfl | exact congrArg (fun z => (z, S)) hW.y.tni) (by omega)
      | exact (fun (e9 : w = 1) => by subst e9; first | rfl | exact congrArg (fun z => (z, S)) hW.y.tni) (by omega)
      | exact (fun (e9 : w = 2) => by subst e9; first | rfl | exact congrArg (fun z => (z, S)) hW.y.tni) (by omega)
      | exact (fun (e9 : w = 3) => by subst e9; first | rfl | exact congrArg (fun z => (z, S)) hW.y.tni) (by omega)
      | exact (fun (e9 : w = 4) => by subst e9; first | rfl | exact congrArg (fun z => (z, S)) hW.y.tni) (by omega)
      | exact (fun (e9 : w = 5) => by subst e9; first | rfl | exact congrArg (fun z => (z, S)) hW.y.tni) (by omega)
      | exact (fun (e9 : w = 6) => by subst e9; first | rfl | exact congrArg (fun z => (z, S)) hW.y.tni) (by omega)
      | exact (fun (e9 : w = 7) => by subst e9; first | rfl | exact congrArg (fun z => (z, S)) hW.y.tni) (by omega)
      | exact (fun (e9 : w = 8) => by subst e9; first | rfl | exact congrArg (fun z => (z, S)) hW.y.tni) (by omega)
      | exact (fun (e9 : w = 9) => by subst e9; first | rfl | exact congrArg (fun z => (z, S)) hW.y.tni) (by omega)
      | exact (fun (e9 : w = 10) => by subst e9; first | rfl | exact congrArg (fun z => (z, S)) hW.y.tni) (by omega)
      | (rw [if_neg (by omega), if_neg (by omega), if_neg (by omega), if_neg (by omega), if_neg (by omega), if_neg (by omega), if_neg (by omega), if_neg (by omega), if_neg (by omega), if_neg (by omega), if_neg (by omega)]; first | (rw [if_pos (by omega)]) | (rw [if_neg (by omega)]))) hC hN
  refine J_tswOut (tgt := 145) hx dX6_status_1 (by omega) (by decide) ?_
  refine J_iload_n hx dX6_status_145 (i := 1) rfl rfl ?_
  refine J_bipush (v := 12) hx dX6_status_146 (by decide) ?_
  refine J_icmp_lt (tgt := 157) hx dX6_status_148 (by decide) (fun c11 => ?_) (fun c11 => ?_)
  · refine J_iconst (v := -1) hx dX6_status_157 (by decide) ?_
    refine J_goto (tgt := 170) hx dX6_status_158 (by decide) ?_
    refine J_iret hx hr dX6_status_170 ?_
    exact hQ.same (v := (-1)) (S := S) (by
      unfold a_status
      first
      | exact (fun (e9 : w = 0) => by subst e9; first | rfl | exact congrArg (fun z => (z, S)) hW.y.tni) (by omega)
      | exact (fun (e9 : w = 1) => by subst e9; first | rfl | exact congrArg (fun z => (z, S)) hW.y.tni) (by omega)
      | exact (fun (e9 : w = 2) => by subst e9; first | rfl | exact congrArg (fun z => (z, S)) hW.y.tni) (by omega)
      | exact (fun (e9 : w = 3) => by subst e9; first | rfl | exact congrArg (fun z => (z, S)) hW.y.tni) (by omega)
      | exact (fun (e9 : w = 4) => by subst e9; first | rfl | exact congrArg (fun z => (z, S)) hW.y.tni) (by omega)
      | exact (fun (e9 : w = 5) => by subst e9; first | rfl | exact congrArg (fun z => (z, S)) hW.y.tni) (by omega)
      | exact (fun (e9 : w = 6) => by subst e9; first | rfl | exact congrArg (fun z => (z, S)) hW.y.tni) (by omega)
      | exact (fun (e9 : w = 7) => by subst e9; first | rfl | exact congrArg (fun z => (z, S)) hW.y.tni) (by omega)
      | exact (fun (e9 : w = 8) => by subst e9; first | rfl | exact congrArg (fun z => (z, S)) hW.y.tni) (by omega)
      | exact (fun (e9 : w = 9) => by subst e9; first | rfl | exact congrArg (fun z => (z, S)) hW.y.tni) (by omega)
      | exact (fun (e9 : w = 10) => by subst e9; first | rfl | exact congrArg (fun z => (z, S)) hW.y.tni) (by omega)
      | (rw [if_neg (by omega), if_neg (by omega), if_neg (by omega), if_neg (by omega), if_neg (by omega), if_neg (by omega), if_neg (by omega), if_neg (by omega), if_neg (by omega), if_neg (by omega), if_neg (by omega)]; first | (rw [if_pos (by omega)]) | (rw [if_neg (by omega)]))) hC hN
  · refine J_iload_n hx dX6_status_151 (i := 1) rfl rfl ?_
    refine J_bipush (v := 16) hx dX6_status_152 (by decide) ?_
    refine J_icmp_le (tgt := 161) hx dX6_status_154 (by decide) (fun c12 => ?_) (fun c12 => ?_)
    · refine J_aload_n hx dX6_status_161 (i := 0) rfl rfl ?_
      refine J_getR (b := o + 66) hx fl_X6_58 cl_X6 dX6_status_162 hC.o (by decide) rfl hC.r8 ?_
      refine J_iload_n hx dX6_status_165 (i := 1) rfl rfl ?_
      refine J_bipush (v := 12) hx dX6_status_166 (by decide) ?_
      refine J_isub (v := w - 12) hx dX6_status_168 (w32_id (by omega) (by omega)) ?_
      refine J_iald2 (v := S.rf (Int.toNat (w - 12))) hx (Int.toNat (w - 12)) dX6_status_169 hC.k66 (by omega) (by rw [hC.n66]; omega) (hN.rf (by omega)) ?_
      have rg13 := hW.r (j := Int.toNat (w - 12)) (by omega)
      refine J_iret hx hr dX6_status_170 ?_
      exact hQ.same (v := S.rf (Int.toNat (w - 12))) (S := S) (by
        unfold a_status
        first
        | exact (fun (e9 : w = 0) => by subst e9; first | rfl | exact congrArg (fun z => (z, S)) hW.y.tni) (by omega)
        | exact (fun (e9 : w = 1) => by subst e9; first | rfl | exact congrArg (fun z => (z, S)) hW.y.tni) (by omega)
        | exact (fun (e9 : w = 2) => by subst e9; first | rfl | exact congrArg (fun z => (z, S)) hW.y.tni) (by omega)
        | exact (fun (e9 : w = 3) => by subst e9; first | rfl | exact congrArg (fun z => (z, S)) hW.y.tni) (by omega)
        | exact (fun (e9 : w = 4) => by subst e9; first | rfl | exact congrArg (fun z => (z, S)) hW.y.tni) (by omega)
        | exact (fun (e9 : w = 5) => by subst e9; first | rfl | exact congrArg (fun z => (z, S)) hW.y.tni) (by omega)
        | exact (fun (e9 : w = 6) => by subst e9; first | rfl | exact congrArg (fun z => (z, S)) hW.y.tni) (by omega)
        | exact (fun (e9 : w = 7) => by subst e9; first | rfl | exact congrArg (fun z => (z, S)) hW.y.tni) (by omega)
        | exact (fun (e9 : w = 8) => by subst e9; first | rfl | exact congrArg (fun z => (z, S)) hW.y.tni) (by omega)
        | exact (fun (e9 : w = 9) => by subst e9; first | rfl | exact congrArg (fun z => (z, S)) hW.y.tni) (by omega)
        | exact (fun (e9 : w = 10) => by subst e9; first | rfl | exact congrArg (fun z => (z, S)) hW.y.tni) (by omega)
        | (rw [if_neg (by omega), if_neg (by omega), if_neg (by omega), if_neg (by omega), if_neg (by omega), if_neg (by omega), if_neg (by omega), if_neg (by omega), if_neg (by omega), if_neg (by omega), if_neg (by omega)]; first | (rw [if_pos (by omega)]) | (rw [if_neg (by omega)]))) hC hN
    · refine J_iconst (v := -1) hx dX6_status_157 (by decide) ?_
      refine J_goto (tgt := 170) hx dX6_status_158 (by decide) ?_
      refine J_iret hx hr dX6_status_170 ?_
      exact hQ.same (v := (-1)) (S := S) (by
        unfold a_status
        first
        | exact (fun (e9 : w = 0) => by subst e9; first | rfl | exact congrArg (fun z => (z, S)) hW.y.tni) (by omega)
        | exact (fun (e9 : w = 1) => by subst e9; first | rfl | exact congrArg (fun z => (z, S)) hW.y.tni) (by omega)
        | exact (fun (e9 : w = 2) => by subst e9; first | rfl | exact congrArg (fun z => (z, S)) hW.y.tni) (by omega)
        | exact (fun (e9 : w = 3) => by subst e9; first | rfl | exact congrArg (fun z => (z, S)) hW.y.tni) (by omega)
        | exact (fun (e9 : w = 4) => by subst e9; first | rfl | exact congrArg (fun z => (z, S)) hW.y.tni) (by omega)
        | exact (fun (e9 : w = 5) => by subst e9; first | rfl | exact congrArg (fun z => (z, S)) hW.y.tni) (by omega)
        | exact (fun (e9 : w = 6) => by subst e9; first | rfl | exact congrArg (fun z => (z, S)) hW.y.tni) (by omega)
        | exact (fun (e9 : w = 7) => by subst e9; first | rfl | exact congrArg (fun z => (z, S)) hW.y.tni) (by omega)
        | exact (fun (e9 : w = 8) => by subst e9; first | rfl | exact congrArg (fun z => (z, S)) hW.y.tni) (by omega)
        | exact (fun (e9 : w = 9) => by subst e9; first | rfl | exact congrArg (fun z => (z, S)) hW.y.tni) (by omega)
        | exact (fun (e9 : w = 10) => by subst e9; first | rfl | exact congrArg (fun z => (z, S)) hW.y.tni) (by omega)
        | (rw [if_neg (by omega), if_neg (by omega), if_neg (by omega), if_neg (by omega), if_neg (by omega), if_neg (by omega), if_neg (by omega), if_neg (by omega), if_neg (by omega), if_neg (by omega), if_neg (by omega)]; first | (rw [if_pos (by omega)]) | (rw [if_neg (by omega)]))) hC hN

set_option maxHeartbeats 4000000 in
theorem c_X7_noRow {g : WG} {d : Nat} {T : TT} {M : MM} {r sz : Nat} {S : ST} {Q : MVal → TT → MM → Nat → Prop} (hT : MT T r) (hN : RN M r S) (hW : WFS S) {s : Int} (hQ0 : ¬ (0 ≤ s ∧ s < 8) → ∀ M', RN M' r (rfS S 0) → (∀ b, (b < r ∨ r + 29 ≤ b) → M' b = M b) → Q (vI (-2)) T M' sz) (hQ1 : (0 ≤ s ∧ s < 8) ∧ 10 ≤ (S.sh s.toNat).1 → ∀ M', RN M' r (rfS S 1) → (∀ b, (b < r ∨ r + 29 ≤ b) → M' b = M b) → Q (vI (-3)) T M' sz) (hQ2 : (0 ≤ s ∧ s < 8) ∧ (S.sh s.toNat).1 = -1 → ∀ M', RN M' r (rfS S 2) → (∀ b, (b < r ∨ r + 29 ≤ b) → M' b = M b) → Q (vI (-4)) T M' sz) (hQ3 : (0 ≤ s ∧ s < 8) ∧ 0 ≤ (S.sh s.toNat).1 ∧ (S.sh s.toNat).1 ≤ 4 → Q (vI 0) T M sz) : Ct g (d + 2) mX7_noRow [vR (r), vI (s)] T M sz 0 0 Q := by
  refine Ct_of2 (ls := [vR (r), vI (s)]) okX7_noRow rfl (Nat.le_of_ble_eq_true rfl) rfl ?_
  intro x hx hr hnm
  refine J_iload_n hx dX7_noRow_0 (i := 1) rfl rfl ?_
  refine J_i2l hx dX7_noRow_1 ?_
  refine J_lconst (v := 0) hx dX7_noRow_2 (by decide) ?_
  refine J_ldc2 (v := 7) hx ct_X7_93 dX7_noRow_3 (by decide) ?_
  refine J_invS (As := [vL (s), vL (0), vL (7)]) (st := []) hx lk_X7_85 okX7_in dX7_noRow_6 rfl rfl (Nat.le_of_ble_eq_true rfl) (Nat.zero_add _).symm (Nat.zero_add _).symm rfl (c_X7_in (a := s) (lo := 0) (hi := 7) ?_)
  intro v1 hv1
  refine J_if_ne (tgt := 19) hx dX7_noRow_9 (by decide) (fun c2 => ?_) (fun c2 => ?_)
  · obtain ⟨sN, rfl⟩ : ∃ z : Nat, s = ((z : Nat) : Int) := ⟨s.toNat, by omega⟩
    refine J_aload_n hx dX7_noRow_19 (i := 0) rfl rfl ?_
    refine J_getR (b := r + 1) hx fl_X7_7 cl_X7 dX7_noRow_20 hT.o (by decide) rfl hT.r0 ?_
    refine J_iload_n hx dX7_noRow_23 (i := 1) rfl rfl ?_
    refine J_iald2 (v := shc (S.sh sN).1) hx sN dX7_noRow_24 hT.k1 (by omega) (hT.l1 (by omega)) (hN.sc (by omega)) ?_
    have rg3 := hW.h (s := sN) (by omega)
    refine J_iconst (v := 2) hx dX7_noRow_25 (by decide) ?_
    refine J_icmp_ne (tgt := 36) hx dX7_noRow_26 (by decide) (fun c4 => ?_) (fun c4 => ?_)
    · refine J_aload_n hx dX7_noRow_36 (i := 0) rfl rfl ?_
      refine J_getR (b := r + 1) hx fl_X7_7 cl_X7 dX7_noRow_37 hT.o (by decide) rfl hT.r0 ?_
      refine J_iload_n hx dX7_noRow_40 (i := 1) rfl rfl ?_
      refine J_iald2 (v := shc (S.sh sN).1) hx sN dX7_noRow_41 hT.k1 (by omega) (hT.l1 (by omega)) (hN.sc (by omega)) ?_
      have rg5 := hW.h (s := sN) (by omega)
      refine J_if_ne (tgt := 54) hx dX7_noRow_42 (by decide) (fun c6 => ?_) (fun c6 => ?_)
      · refine J_iconst (v := 0) hx dX7_noRow_54 (by decide) ?_
        refine J_iret hx hr dX7_noRow_55 ?_
        exact hQ3 ⟨⟨by omega, by omega⟩, by (try simp only [Int.toNat_natCast] at *); (try unfold shc at *); (repeat' split at *) <;> omega, by (try simp only [Int.toNat_natCast] at *); (try unfold shc at *); (repeat' split at *) <;> omega⟩
      · refine J_aload_n hx dX7_noRow_45 (i := 0) rfl rfl ?_
        refine J_bipush (v := -4) hx dX7_noRow_46 (by decide) ?_
        refine J_invV (As := [vI ((-4))]) (st := []) hx lk_X7_99 okX7_refuse dX7_noRow_48 hT.o (by decide) rfl rfl rfl (Nat.le_of_ble_eq_true rfl) (Nat.zero_add _).symm (Nat.zero_add _).symm rfl (c_X7_refuseS hT hN hW (k := 2) (by decide) ?_)
        intro M1 hN1 hf1
        refine J_goto (tgt := 55) hx dX7_noRow_51 (by decide) ?_
        refine J_iret hx hr dX7_noRow_55 ?_
        exact hQ2 ⟨⟨by omega, by omega⟩, by (try simp only [Int.toNat_natCast] at *); (try unfold shc at *); (repeat' split at *) <;> omega⟩ M1 hN1 hf1
    · refine J_aload_n hx dX7_noRow_29 (i := 0) rfl rfl ?_
      refine J_bipush (v := -3) hx dX7_noRow_30 (by decide) ?_
      refine J_invV (As := [vI ((-3))]) (st := []) hx lk_X7_99 okX7_refuse dX7_noRow_32 hT.o (by decide) rfl rfl rfl (Nat.le_of_ble_eq_true rfl) (Nat.zero_add _).symm (Nat.zero_add _).symm rfl (c_X7_refuseS hT hN hW (k := 1) (by decide) ?_)
      intro M1 hN1 hf1
      refine J_iret hx hr dX7_noRow_35 ?_
      exact hQ1 ⟨⟨by omega, by omega⟩, by (try simp only [Int.toNat_natCast] at *); (try unfold shc at *); (repeat' split at *) <;> omega⟩ M1 hN1 hf1
  · refine J_aload_n hx dX7_noRow_12 (i := 0) rfl rfl ?_
    refine J_bipush (v := -2) hx dX7_noRow_13 (by decide) ?_
    refine J_invV (As := [vI ((-2))]) (st := []) hx lk_X7_99 okX7_refuse dX7_noRow_15 hT.o (by decide) rfl rfl rfl (Nat.le_of_ble_eq_true rfl) (Nat.zero_add _).symm (Nat.zero_add _).symm rfl (c_X7_refuseS hT hN hW (k := 0) (by decide) ?_)
    intro M1 hN1 hf1
    refine J_iret hx hr dX7_noRow_18 ?_
    exact hQ0 (by omega) M1 hN1 hf1

set_option maxHeartbeats 4000000 in
theorem c_X7_fit {g : WG} {d : Nat} {T : TT} {M : MM} {sz : Nat} {Q : MVal → TT → MM → Nat → Prop} {h v : Int} (hr0 : 0 ≤ h ∧ h ≤ 4) (hQ : Q (vL (fitI h v)) T M sz) : Ct g (d + 1) mX7_fit [vI (h), vL (v)] T M sz 0 0 Q := by
  refine Ct_of2 (ls := [vI (h), vL (v), vU]) okX7_fit rfl (Nat.le_of_ble_eq_true rfl) rfl ?_
  intro x hx hr hnm
  refine J_iload_n hx dX7_fit_0 (i := 0) rfl rfl ?_
  by_cases t1_0 : h = 0
  · refine J_tswIn (tgt := 32) (off := 31) hx dX7_fit_1 (by omega) (by omega) (by rw [t1_0]; rfl) (by decide) ?_
    refine J_lload_n hx dX7_fit_32 (i := 1) rfl rfl ?_
    refine J_l2i (v := w32 v) hx dX7_fit_33 rfl ?_
    refine J_i2b (v := (w32 v).bmod 256) hx dX7_fit_34 rfl ?_
    refine J_i2l hx dX7_fit_35 ?_
    refine J_lret hx hr dX7_fit_36 ?_
    have e9 : fitI h v = (w32 v).bmod 256 := by unfold fitI; (repeat' split) <;> first | rfl | (exfalso; omega)
    rw [e9] at hQ
    exact hQ
  by_cases t1_1 : h = 1
  · refine J_tswIn (tgt := 37) (off := 36) hx dX7_fit_1 (by omega) (by omega) (by rw [t1_1]; rfl) (by decide) ?_
    refine J_lload_n hx dX7_fit_37 (i := 1) rfl rfl ?_
    refine J_l2i (v := w32 v) hx dX7_fit_38 rfl ?_
    refine J_i2s (v := (w32 v).bmod 65536) hx dX7_fit_39 rfl ?_
    refine J_i2l hx dX7_fit_40 ?_
    refine J_lret hx hr dX7_fit_41 ?_
    have e9 : fitI h v = (w32 v).bmod 65536 := by unfold fitI; (repeat' split) <;> first | rfl | (exfalso; omega)
    rw [e9] at hQ
    exact hQ
  by_cases t1_2 : h = 2
  · refine J_tswIn (tgt := 42) (off := 41) hx dX7_fit_1 (by omega) (by omega) (by rw [t1_2]; rfl) (by decide) ?_
    refine J_lload_n hx dX7_fit_42 (i := 1) rfl rfl ?_
    refine J_l2i (v := w32 v) hx dX7_fit_43 rfl ?_
    refine J_i2l hx dX7_fit_44 ?_
    refine J_lret hx hr dX7_fit_45 ?_
    have e9 : fitI h v = w32 v := by unfold fitI; (repeat' split) <;> first | rfl | (exfalso; omega)
    rw [e9] at hQ
    exact hQ
  by_cases t1_3 : h = 3
  · refine J_tswIn (tgt := 46) (off := 45) hx dX7_fit_1 (by omega) (by omega) (by rw [t1_3]; rfl) (by decide) ?_
    refine J_lload_n hx dX7_fit_46 (i := 1) rfl rfl ?_
    refine J_lret hx hr dX7_fit_47 ?_
    have e9 : fitI h v = v := by unfold fitI; (repeat' split) <;> first | rfl | (exfalso; omega)
    rw [e9] at hQ
    exact hQ
  refine J_tswOut (tgt := 48) hx dX7_fit_1 (by omega) (by decide) ?_
  refine J_lload_n hx dX7_fit_48 (i := 1) rfl rfl ?_
  refine J_lconst (v := 0) hx dX7_fit_49 (by decide) ?_
  refine J_lc_eq (tgt := 58) hx dX7_fit_50 dX7_fit_51 (by decide) (fun c2 => ?_) (fun c2 => ?_)
  · refine J_lconst (v := 0) hx dX7_fit_58 (by decide) ?_
    refine J_lret hx hr dX7_fit_59 ?_
    have e9 : fitI h v = 0 := by unfold fitI; (repeat' split) <;> first | rfl | (exfalso; omega)
    rw [e9] at hQ
    exact hQ
  · refine J_lconst (v := 1) hx dX7_fit_54 (by decide) ?_
    refine J_goto (tgt := 59) hx dX7_fit_55 (by decide) ?_
    refine J_lret hx hr dX7_fit_59 ?_
    have e9 : fitI h v = 1 := by unfold fitI; (repeat' split) <;> first | rfl | (exfalso; omega)
    rw [e9] at hQ
    exact hQ

set_option maxHeartbeats 4000000 in
theorem c_X7_set {g : WG} {d : Nat} {T : TT} {M : MM} {r sz : Nat} {S : ST} {Q : MVal → TT → MM → Nat → Prop} (hT : MT T r) (hN : RN M r S) (hW : WFS S) {s i v : Int} (h_s : -2147483648 ≤ s ∧ s ≤ 2147483647) (h_i : -2147483648 ≤ i ∧ i ≤ 2147483647) (hQ : RQ r T M sz Q (a_set S s i v)) : Ct g (d + 3) mX7_set [vR (r), vI (s), vI (i), vL (v)] T M sz 0 0 Q := by
  refine Ct_of2 (ls := [vR (r), vI (s), vI (i), vL (v), vU, vU]) okX7_set rfl (Nat.le_of_ble_eq_true rfl) rfl ?_
  intro x hx hr hnm
  refine J_aload_n hx dX7_set_0 (i := 0) rfl rfl ?_
  refine J_iload_n hx dX7_set_1 (i := 1) rfl rfl ?_
  refine J_invV (As := [vI (s)]) (st := []) hx lk_X7_102 okX7_noRow dX7_set_2 hT.o (by decide) rfl rfl rfl (Nat.le_of_ble_eq_true rfl) (Nat.zero_add _).symm (Nat.zero_add _).symm rfl (c_X7_noRow hT hN hW (s := s) ?_ ?_ ?_ ?_)
  · intro hvf M1 hN1 hf1
    refine J_istore (lsn := [vR (r), vI (s), vI (i), vL (v), vU, vI ((-2))]) hx dX7_set_5 (Nat.le_of_ble_eq_true rfl) rfl rfl ?_
    refine J_iload hx dX7_set_7 rfl ?_
    refine J_if_eq (tgt := 15) hx dX7_set_9 (by decide) (fun c9 => absurd c9 (by decide)) (fun _ => ?_)
    refine J_iload hx dX7_set_12 rfl ?_
    refine J_iret hx hr dX7_set_14 ?_
    exact hQ.to (v := (-2)) (S := rfS S 0) (by
      unfold a_set
      all_goals (try unfold overY at *)
      all_goals (try unfold mayQ at *)
      all_goals (try simp only [Int.toNat_natCast] at *)
      all_goals ((repeat' split) <;> first | rfl | (exfalso; omega) | (congr 1; omega))) hN1 hf1
  · intro hvf M1 hN1 hf1
    refine J_istore (lsn := [vR (r), vI (s), vI (i), vL (v), vU, vI ((-3))]) hx dX7_set_5 (Nat.le_of_ble_eq_true rfl) rfl rfl ?_
    refine J_iload hx dX7_set_7 rfl ?_
    refine J_if_eq (tgt := 15) hx dX7_set_9 (by decide) (fun c9 => absurd c9 (by decide)) (fun _ => ?_)
    refine J_iload hx dX7_set_12 rfl ?_
    refine J_iret hx hr dX7_set_14 ?_
    exact hQ.to (v := (-3)) (S := rfS S 1) (by
      unfold a_set
      all_goals (try unfold overY at *)
      all_goals (try unfold mayQ at *)
      all_goals (try simp only [Int.toNat_natCast] at *)
      all_goals ((repeat' split) <;> first | rfl | (exfalso; omega) | (congr 1; omega))) hN1 hf1
  · intro hvf M1 hN1 hf1
    refine J_istore (lsn := [vR (r), vI (s), vI (i), vL (v), vU, vI ((-4))]) hx dX7_set_5 (Nat.le_of_ble_eq_true rfl) rfl rfl ?_
    refine J_iload hx dX7_set_7 rfl ?_
    refine J_if_eq (tgt := 15) hx dX7_set_9 (by decide) (fun c9 => absurd c9 (by decide)) (fun _ => ?_)
    refine J_iload hx dX7_set_12 rfl ?_
    refine J_iret hx hr dX7_set_14 ?_
    exact hQ.to (v := (-4)) (S := rfS S 2) (by
      unfold a_set
      all_goals (try unfold overY at *)
      all_goals (try unfold mayQ at *)
      all_goals (try simp only [Int.toNat_natCast] at *)
      all_goals ((repeat' split) <;> first | rfl | (exfalso; omega) | (congr 1; omega))) hN1 hf1
  · intro hvf
    refine J_istore (lsn := [vR (r), vI (s), vI (i), vL (v), vU, vI (0)]) hx dX7_set_5 (Nat.le_of_ble_eq_true rfl) rfl rfl ?_
    refine J_iload hx dX7_set_7 rfl ?_
    refine J_if_eq (tgt := 15) hx dX7_set_9 (by decide) (fun _ => ?_) (fun c9 => absurd c9 (by decide))
    obtain ⟨sN, rfl⟩ : ∃ z : Nat, s = ((z : Nat) : Int) := ⟨s.toNat, by omega⟩
    simp only [Int.toNat_natCast] at hvf
    refine J_iload_n hx dX7_set_15 (i := 2) rfl rfl ?_
    refine J_i2l hx dX7_set_16 ?_
    refine J_lconst (v := 0) hx dX7_set_17 (by decide) ?_
    refine J_aload_n hx dX7_set_18 (i := 0) rfl rfl ?_
    refine J_getR (b := r + 3) hx fl_X7_16 cl_X7 dX7_set_19 hT.o (by decide) rfl hT.r2 ?_
    refine J_iload_n hx dX7_set_22 (i := 1) rfl rfl ?_
    refine J_iald2 (v := (S.sh sN).2.1) hx sN dX7_set_23 hT.k3 (by omega) (hT.l3 (by omega)) (hN.sz (by omega) (show rowH _ from by unfold rowH; omega)) ?_
    have rg5 := hW.z (s := sN) (by omega)
    refine J_iconst (v := 1) hx dX7_set_24 (by decide) ?_
    refine J_isub (v := (S.sh sN).2.1 - 1) hx dX7_set_25 (w32_id (by omega) (by omega)) ?_
    refine J_i2l hx dX7_set_26 ?_
    refine J_invS (As := [vL (i), vL (0), vL ((S.sh sN).2.1 - 1)]) (st := []) hx lk_X7_85 okX7_in dX7_set_27 rfl rfl (Nat.le_of_ble_eq_true rfl) (Nat.zero_add _).symm (Nat.zero_add _).symm rfl (c_X7_in (a := i) (lo := 0) (hi := (S.sh sN).2.1 - 1) ?_)
    intro v6 hv6
    refine J_if_ne (tgt := 40) hx dX7_set_30 (by decide) (fun c7 => ?_) (fun c7 => ?_)
    · obtain ⟨iN, rfl⟩ : ∃ z : Nat, i = ((z : Nat) : Int) := ⟨i.toNat, by omega⟩
      refine J_aload_n hx dX7_set_40 (i := 0) rfl rfl ?_
      refine J_getR (b := r + 4) hx fl_X7_21 cl_X7 dX7_set_41 hT.o (by decide) rfl hT.r3 ?_
      refine J_iload_n hx dX7_set_44 (i := 1) rfl rfl ?_
      refine J_aald (b := r + 5 + sN) hx sN dX7_set_45 hT.k4 (by decide) (by omega) (hT.l4 (by omega)) (hT.f4 (by omega)) ?_
      refine J_iload_n hx dX7_set_46 (i := 2) rfl rfl ?_
      refine J_aload_n hx dX7_set_47 (i := 0) rfl rfl ?_
      refine J_getR (b := r + 2) hx fl_X7_13 cl_X7 dX7_set_48 hT.o (by decide) rfl hT.r1 ?_
      refine J_iload_n hx dX7_set_51 (i := 1) rfl rfl ?_
      refine J_iald2 (v := (S.sh sN).1) hx sN dX7_set_52 hT.k2 (by omega) (hT.l2 (by omega)) (hN.so (by omega) (show rowH _ from by unfold rowH; omega)) ?_
      refine J_lload_n hx dX7_set_53 (i := 3) rfl rfl ?_
      refine J_invS (As := [vI ((S.sh sN).1), vL (v)]) (st := [vI (((iN : Nat) : Int)), vR (r + 5 + sN)]) hx lk_X7_105 okX7_fit dX7_set_54 rfl rfl (Nat.le_of_ble_eq_true rfl) (Nat.zero_add _).symm (Nat.zero_add _).symm rfl (c_X7_fit (h := (S.sh sN).1) (v := v) (by (try simp only [Int.toNat_natCast] at *); omega) ?_)
      refine J_last hx iN dX7_set_57 (hT.kr (by omega)) (by omega) (hT.lr (by omega) (by omega)) ?_
      generalize eM1 : up2 M (r + 5 + sN) iN (fitI (S.sh sN).1 v) = M1
      have hM1a : M1 (r + 5 + sN) iN = fitI (S.sh sN).1 v := by rw [← eM1]; exact up2_at
      have hM1o : ∀ b9 j9, (b9 ≠ r + 5 + sN ∨ j9 ≠ iN) → M1 b9 j9 = M b9 j9 := fun b9 j9 h9 => by rw [← eM1]; exact up2_ne h9
      have hM1r : ∀ b9, b9 ≠ r + 5 + sN → M1 b9 = M b9 := fun b9 h9 => by rw [← eM1]; exact up2_row h9
      refine J_iconst (v := 1) hx dX7_set_58 (by decide) ?_
      refine J_iret hx hr dX7_set_59 ?_
      exact hQ.to (v := 1) (S := shS S sN ((S.sh sN).1, (S.sh sN).2.1, fun j => if j = iN then fitI (S.sh sN).1 v else (S.sh sN).2.2 j)) (by
        unfold a_set
        all_goals (try unfold overY at *)
        all_goals (try unfold mayQ at *)
        all_goals (try simp only [Int.toNat_natCast] at *)
        all_goals ((repeat' split) <;> first | rfl | (exfalso; omega) | (congr 1; omega))) (hN.shelf (by omega) (by rw [hM1r _ (by omega)]; exact hN.sc (by omega)) (fun hr9 => ⟨by rw [hM1r _ (by omega)]; exact hN.so (by omega) hr9, by rw [hM1r _ (by omega)]; exact hN.sz (by omega) hr9, fun j9 h9 => by
          dsimp only
          by_cases e : j9 = iN
          · rw [if_pos e, e]; exact hM1a
          · rw [if_neg e, hM1o _ _ (Or.inr e)]; exact hN.se (by omega) hr9 h9⟩) (fun hr9 => by rw [hM1r _ (by omega)]; exact hN.sp (by omega) hr9) (fun a9 j9 ha hb => hM1o a9 j9 (Or.inl hb))) (fun b hb => hM1r b (by omega))
    · refine J_aload_n hx dX7_set_33 (i := 0) rfl rfl ?_
      refine J_bipush (v := -2) hx dX7_set_34 (by decide) ?_
      refine J_invV (As := [vI ((-2))]) (st := []) hx lk_X7_99 okX7_refuse dX7_set_36 hT.o (by decide) rfl rfl rfl (Nat.le_of_ble_eq_true rfl) (Nat.zero_add _).symm (Nat.zero_add _).symm rfl (c_X7_refuseS hT hN hW (k := 0) (by decide) ?_)
      intro M1 hN1 hf1
      refine J_iret hx hr dX7_set_39 ?_
      exact hQ.to (v := -((0 + 2 : Nat) : Int)) (S := rfS S 0) (by
        unfold a_set
        all_goals (try unfold overY at *)
        all_goals (try unfold mayQ at *)
        all_goals (try simp only [Int.toNat_natCast] at *)
        all_goals ((repeat' split) <;> first | rfl | (exfalso; omega) | (congr 1; omega))) hN1 hf1

set_option maxHeartbeats 4000000 in
theorem c_X7_element {g : WG} {d : Nat} {T : TT} {M : MM} {r sz : Nat} {S : ST} {Q : MVal → TT → MM → Nat → Prop} (hT : MT T r) (hN : RN M r S) (hW : WFS S) {s i : Int} (hQ : Q (vL (elmS S s i)) T M sz) : Ct g (d + 2) mX7_element [vR (r), vI (s), vI (i)] T M sz 0 0 Q := by
  refine Ct_of2 (ls := [vR (r), vI (s), vI (i)]) okX7_element rfl (Nat.le_of_ble_eq_true rfl) rfl ?_
  intro x hx hr hnm
  refine J_iload_n hx dX7_element_0 (i := 1) rfl rfl ?_
  refine J_i2l hx dX7_element_1 ?_
  refine J_lconst (v := 0) hx dX7_element_2 (by decide) ?_
  refine J_ldc2 (v := 7) hx ct_X7_93 dX7_element_3 (by decide) ?_
  refine J_invS (As := [vL (s), vL (0), vL (7)]) (st := []) hx lk_X7_85 okX7_in dX7_element_6 rfl rfl (Nat.le_of_ble_eq_true rfl) (Nat.zero_add _).symm (Nat.zero_add _).symm rfl (c_X7_in (a := s) (lo := 0) (hi := 7) ?_)
  intro v1 hv1
  refine J_if_eq (tgt := 51) hx dX7_element_9 (by decide) (fun c2 => ?_) (fun c2 => ?_)
  · refine J_lconst (v := 0) hx dX7_element_51 (by decide) ?_
    refine J_lret hx hr dX7_element_52 ?_
    have e9 : elmS S s i = 0 := by
      unfold elmS
      (try simp only [Int.toNat_natCast] at *)
      (try unfold shc at *)
      split <;> first | rfl | (exfalso; (repeat' split at *) <;> omega)
    rw [e9] at hQ
    exact hQ
  · obtain ⟨sN, rfl⟩ : ∃ z : Nat, s = ((z : Nat) : Int) := ⟨s.toNat, by omega⟩
    refine J_aload_n hx dX7_element_12 (i := 0) rfl rfl ?_
    refine J_getR (b := r + 1) hx fl_X7_7 cl_X7 dX7_element_13 hT.o (by decide) rfl hT.r0 ?_
    refine J_iload_n hx dX7_element_16 (i := 1) rfl rfl ?_
    refine J_iald2 (v := shc (S.sh sN).1) hx sN dX7_element_17 hT.k1 (by omega) (hT.l1 (by omega)) (hN.sc (by omega)) ?_
    have rg3 := hW.h (s := sN) (by omega)
    refine J_iconst (v := 1) hx dX7_element_18 (by decide) ?_
    refine J_icmp_ne (tgt := 51) hx dX7_element_19 (by decide) (fun c4 => ?_) (fun c4 => ?_)
    · refine J_lconst (v := 0) hx dX7_element_51 (by decide) ?_
      refine J_lret hx hr dX7_element_52 ?_
      have e9 : elmS S ((sN : Nat) : Int) i = 0 := by
        unfold elmS
        (try simp only [Int.toNat_natCast] at *)
        (try unfold shc at *)
        split <;> first | rfl | (exfalso; (repeat' split at *) <;> omega)
      rw [e9] at hQ
      exact hQ
    · refine J_iload_n hx dX7_element_22 (i := 2) rfl rfl ?_
      refine J_i2l hx dX7_element_23 ?_
      refine J_lconst (v := 0) hx dX7_element_24 (by decide) ?_
      refine J_aload_n hx dX7_element_25 (i := 0) rfl rfl ?_
      refine J_getR (b := r + 3) hx fl_X7_16 cl_X7 dX7_element_26 hT.o (by decide) rfl hT.r2 ?_
      refine J_iload_n hx dX7_element_29 (i := 1) rfl rfl ?_
      refine J_iald2 (v := (S.sh sN).2.1) hx sN dX7_element_30 hT.k3 (by omega) (hT.l3 (by omega)) (hN.sz (by omega) (show rowH _ from by unfold shc at *; unfold rowH; (repeat' split at *) <;> omega)) ?_
      have rg5 := hW.z (s := sN) (by omega)
      refine J_iconst (v := 1) hx dX7_element_31 (by decide) ?_
      refine J_isub (v := (S.sh sN).2.1 - 1) hx dX7_element_32 (w32_id (by omega) (by omega)) ?_
      refine J_i2l hx dX7_element_33 ?_
      refine J_invS (As := [vL (i), vL (0), vL ((S.sh sN).2.1 - 1)]) (st := []) hx lk_X7_85 okX7_in dX7_element_34 rfl rfl (Nat.le_of_ble_eq_true rfl) (Nat.zero_add _).symm (Nat.zero_add _).symm rfl (c_X7_in (a := i) (lo := 0) (hi := (S.sh sN).2.1 - 1) ?_)
      intro v6 hv6
      refine J_if_eq (tgt := 51) hx dX7_element_37 (by decide) (fun c7 => ?_) (fun c7 => ?_)
      · refine J_lconst (v := 0) hx dX7_element_51 (by decide) ?_
        refine J_lret hx hr dX7_element_52 ?_
        have e9 : elmS S ((sN : Nat) : Int) i = 0 := by
          unfold elmS
          (try simp only [Int.toNat_natCast] at *)
          (try unfold shc at *)
          split <;> first | rfl | (exfalso; (repeat' split at *) <;> omega)
        rw [e9] at hQ
        exact hQ
      · obtain ⟨iN, rfl⟩ : ∃ z : Nat, i = ((z : Nat) : Int) := ⟨i.toNat, by omega⟩
        refine J_aload_n hx dX7_element_40 (i := 0) rfl rfl ?_
        refine J_getR (b := r + 4) hx fl_X7_21 cl_X7 dX7_element_41 hT.o (by decide) rfl hT.r3 ?_
        refine J_iload_n hx dX7_element_44 (i := 1) rfl rfl ?_
        refine J_aald (b := r + 5 + sN) hx sN dX7_element_45 hT.k4 (by decide) (by omega) (hT.l4 (by omega)) (hT.f4 (by omega)) ?_
        refine J_iload_n hx dX7_element_46 (i := 2) rfl rfl ?_
        refine J_lald2 (v := (S.sh sN).2.2 iN) hx iN dX7_element_47 (hT.kr (by omega)) (by omega) (hT.lr (by omega) (by omega)) (hN.se (by omega) (show rowH _ from by unfold shc at *; unfold rowH; (repeat' split at *) <;> omega) (by omega)) ?_
        refine J_goto (tgt := 52) hx dX7_element_48 (by decide) ?_
        refine J_lret hx hr dX7_element_52 ?_
        have e9 : elmS S ((sN : Nat) : Int) ((iN : Nat) : Int) = (S.sh sN).2.2 iN := by
          unfold elmS
          (try simp only [Int.toNat_natCast] at *)
          (try unfold shc at *)
          split <;> first | rfl | (exfalso; (repeat' split at *) <;> omega)
        rw [e9] at hQ
        exact hQ

