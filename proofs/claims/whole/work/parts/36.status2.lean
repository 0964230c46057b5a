set_option maxHeartbeats 4000000 in
theorem lp7_X7_status {g : WG} {d : Nat} {T : TT} {M : MM} {r sz : Nat} {A : YA} {Q : MVal → TT → MM → Nat → Prop} (hT : MT T r) (hN : MN M r A) (hW : WFY A) {x : CX} (hx : OKx g x RX7 cX7_status (d + 2)) (hr : RTx g x (some .int) Q) {w : Int} (hQ : Q (vI (sumF (A.att 3) A.n)) T M sz) (j : Nat) (a : Int) (hj : j ≤ A.n) (hs : a = sumF (A.att 3) j) : Jd g x 97 [vR (r), vI (w), vI (a), vI (((j : Nat) : Int))] [] T M sz 0 0 := by
  have hn8 := hW.n8
  have rgs := sumF_rg (f := A.att 3) (b := 20) (k := j) (fun i hi => hW.ti (show i < A.n by omega))
  refine J_iload_n hx dX7_status_97 (i := 3) rfl rfl ?_
  refine J_aload_n hx dX7_status_98 (i := 0) rfl rfl ?_
  refine J_getI2 (v := ((A.n : Nat) : Int)) hx fl_X7_82 cl_X7 dX7_status_99 hT.o (by decide) rfl hN.pp ?_
  have rg1 := hW.n8
  refine J_icmp_ge (tgt := 120) hx dX7_status_102 (by decide) (fun c2 => ?_) (fun c2 => ?_)
  · refine J_iload_n hx dX7_status_120 (i := 2) rfl rfl ?_
    refine J_iret hx hr dX7_status_121 ?_
    have ej : j = A.n := by omega
    subst ej
    exact Qv hQ hs.symm
  · refine J_iload_n hx dX7_status_105 (i := 2) rfl rfl ?_
    refine J_aload_n hx dX7_status_106 (i := 0) rfl rfl ?_
    refine J_getR (b := r + 20) hx fl_X7_46 cl_X7 dX7_status_107 hT.o (by decide) rfl hT.r13 ?_
    refine J_iload_n hx dX7_status_110 (i := 3) rfl rfl ?_
    refine J_iald2 (v := A.att 3 j) hx j dX7_status_111 hT.k20 (by omega) (hT.l20 (by omega)) (hN.ti (by omega)) ?_
    have rg3 := hW.ti (p := j) (by omega)
    refine J_iadd (v := a + (A.att 3 j)) hx dX7_status_112 (w32_id (by omega) (by omega)) ?_
    refine J_istore_n (lsn := [vR (r), vI (w), vI (a + (A.att 3 j)), vI (((j : Nat) : Int))]) hx dX7_status_113 (i := 2) rfl (Nat.le_of_ble_eq_true rfl) rfl rfl ?_
    refine J_iinc (v := ((j : Nat) : Int) + 1) (lsn := [vR (r), vI (w), vI (a + (A.att 3 j)), vI (((j : Nat) : Int) + 1)]) hx dX7_status_114 rfl (jinc1 (by omega) (by omega)) rfl rfl ?_
    refine J_goto (tgt := 97) hx dX7_status_117 (by decide) ?_
    exact lp7_X7_status hT hN hW hx hr hQ (j + 1) _ (by omega) (by rw [hs]; first | rfl | (show _ = sumF (A.att 3) j + A.att 3 j; omega))
termination_by A.n - j
decreasing_by all_goals omega

set_option maxHeartbeats 4000000 in
theorem lp10_X7_status {g : WG} {d : Nat} {T : TT} {M : MM} {r sz : Nat} {S : ST} {Q : MVal → TT → MM → Nat → Prop} (hT : MT T r) (hN : RN M r S) (hW : WFS S) {x : CX} (hx : OKx g x RX7 cX7_status (d + 2)) (hr : RTx g x (some .int) Q) {w : Int} (hQ : Q (vI ((useS S 8 : Nat) : Int)) T M sz) (j f : Nat) (hj : j ≤ 8) (hf : f = useS S j) : Jd g x 134 [vR (r), vI (w), vI (((f : Nat) : Int)), vI (((j : Nat) : Int))] [] T M sz 0 0 := by
  have hf8 : f ≤ j := by rw [hf]; exact cntF_le _ _
  have rgh : j < 8 → _ := fun h => hW.h (s := j) h
  refine J_iload_n hx dX7_status_134 (i := 3) rfl rfl ?_
  refine J_bipush (v := 8) hx dX7_status_135 (by decide) ?_
  refine J_icmp_ge (tgt := 163) hx dX7_status_137 (by decide) (fun c1 => ?_) (fun c1 => ?_)
  · refine J_iload_n hx dX7_status_163 (i := 2) rfl rfl ?_
    refine J_iret hx hr dX7_status_164 ?_
    have ej : j = 8 := by omega
    subst ej
    exact Qv hQ (by rw [hf])
  · refine J_iload_n hx dX7_status_140 (i := 2) rfl rfl ?_
    refine J_aload_n hx dX7_status_141 (i := 0) rfl rfl ?_
    refine J_getR (b := r + 1) hx fl_X7_7 cl_X7 dX7_status_142 hT.o (by decide) rfl hT.r0 ?_
    refine J_iload_n hx dX7_status_145 (i := 3) rfl rfl ?_
    refine J_iald2 (v := shc (S.sh j).1) hx j dX7_status_146 hT.k1 (by omega) (hT.l1 (by omega)) (hN.sc (by omega)) ?_
    refine J_if_eq (tgt := 154) hx dX7_status_147 (by decide) (fun c2 => ?_) (fun c2 => ?_)
    · refine J_iconst (v := 0) hx dX7_status_154 (by decide) ?_
      refine J_iadd (v := ((f : Nat) : Int)) hx dX7_status_155 (by rw [w32_id (by omega) (by omega)]; omega) ?_
      refine J_istore_n (lsn := [vR (r), vI (w), vI (((f : Nat) : Int)), vI (((j : Nat) : Int))]) hx dX7_status_156 (i := 2) rfl (Nat.le_of_ble_eq_true rfl) rfl rfl ?_
      refine J_iinc (v := ((j : Nat) : Int) + 1) (lsn := [vR (r), vI (w), vI (((f : Nat) : Int)), vI (((j : Nat) : Int) + 1)]) hx dX7_status_157 rfl (jinc1 (by omega) (by omega)) rfl rfl ?_
      refine J_goto (tgt := 134) hx dX7_status_160 (by decide) ?_
      exact lp10_X7_status hT hN hW hx hr hQ (j + 1) f (by omega) (by rw [hf]; unfold useS; exact (cntF_f (by unfold shc at *; simp; (repeat' split at *) <;> omega)).symm)
    · refine J_iconst (v := 1) hx dX7_status_150 (by decide) ?_
      refine J_goto (tgt := 155) hx dX7_status_151 (by decide) ?_
      refine J_iadd (v := ((f : Nat) : Int) + 1) hx dX7_status_155 (w32_id (by omega) (by omega)) ?_
      refine J_istore_n (lsn := [vR (r), vI (w), vI (((f : Nat) : Int) + 1), vI (((j : Nat) : Int))]) hx dX7_status_156 (i := 2) rfl (Nat.le_of_ble_eq_true rfl) rfl rfl ?_
      refine J_iinc (v := ((j : Nat) : Int) + 1) (lsn := [vR (r), vI (w), vI (((f : Nat) : Int) + 1), vI (((j : Nat) : Int) + 1)]) hx dX7_status_157 rfl (jinc1 (by omega) (by omega)) rfl rfl ?_
      refine J_goto (tgt := 134) hx dX7_status_160 (by decide) ?_
      exact lp10_X7_status hT hN hW hx hr hQ (j + 1) (f + 1) (by omega) (by rw [hf]; unfold useS; exact (cntF_t (by unfold shc at *; simp; (repeat' split at *) <;> omega)).symm)
termination_by 8 - j
decreasing_by all_goals omega

set_option maxHeartbeats 4000000 in
theorem c_X7_status {g : WG} {d : Nat} {T : TT} {M : MM} {r sz : Nat} {S : ST} {Q : MVal → TT → MM → Nat → Prop} (hT : MT T r) (hN : RN M r S) (hW : WFS S) {w : Int} (h_w : -2147483648 ≤ w ∧ w ≤ 2147483647) (hQ : RQ r T M sz Q (a_status S w)) : Ct g (d + 2) mX7_status [vR (r), vI (w)] T M sz 0 0 Q := by
  refine Ct_of2 (ls := [vR (r), vI (w), vU, vU]) okX7_status rfl (Nat.le_of_ble_eq_true rfl) rfl ?_
  intro x hx hr hnm
  refine J_iconst (v := 0) hx dX7_status_0 (by decide) ?_
  refine J_istore_n (lsn := [vR (r), vI (w), vI (0), vU]) hx dX7_status_1 (i := 2) rfl (Nat.le_of_ble_eq_true rfl) rfl rfl ?_
  refine J_iload_n hx dX7_status_2 (i := 1) rfl rfl ?_
  by_cases t1_0 : w = 0
  · refine J_tswIn (tgt := 60) (off := 57) hx dX7_status_3 (by omega) (by omega) (by rw [t1_0]; rfl) (by decide) ?_
    refine J_aload_n hx dX7_status_60 (i := 0) rfl rfl ?_
    refine J_getI2 (v := ((S.1.n : Nat) : Int)) hx fl_X7_82 cl_X7 dX7_status_61 hT.o (by decide) rfl hN.y.pp ?_
    have rg2 := hW.y.n8
    refine J_iret hx hr dX7_status_64 ?_
    exact hQ.same (v := ((S.1.n : Nat) : Int)) (S := S) (by
      unfold a_status
      first
      | exact (fun (e9 : w = 0) => by subst e9; first | rfl | exact congrArg (fun z => (z, S)) hW.y.tni) (by omega)
      | exact (fun (e9 : w = 1) => by subst e9; first | rfl | exact congrArg (fun z => (z, S)) hW.y.tni) (by omega)
      | exact (fun (e9 : w = 2) => by subst e9; first | rfl | exact congrArg (fun z => (z, S)) hW.y.tni) (by omega)
      | exact (fun (e9 : w = 3) => by subst e9; first | rfl | exact congrArg (fun z => (z, S)) hW.y.tni) (by omega)
      | exact (fun (e9 : w = 4) => by subst e9; first | rfl | exact congrArg (fun z => (z, S)) hW.y.tni) (by omega)
      | exact (fun (e9 : w = 5) => by subst e9; first | rfl | exact congrArg (fun z => (z, S)) hW.y.tni) (by omega)
      | exact (fun (e9 : w = 6) => by subst e9; first | rfl | exact congrArg (fun z => (z, S)) hW.y.tni) (by omega)
      | exact (fun (e9 : w = 7) => by subst e9; first | rfl | exact congrArg (fun z => (z, S)) hW.y.tni) (by omega)
      | exact (fun (e9 : w = 8) => by subst e9; first | rfl | exact congrArg (fun z => (z, S)) hW.y.tni) (by omega)
      | exact (fun (e9 : w = 9) => by subst e9; first | rfl | exact congrArg (fun z => (z, S)) hW.y.tni) (by omega)
      | exact (fun (e9 : w = 10) => by subst e9; first | rfl | exact congrArg (fun z => (z, S)) hW.y.tni) (by omega)
      | (rw [if_neg (by omega), if_neg (by omega), if_neg (by omega), if_neg (by omega), if_neg (by omega), if_neg (by omega), if_neg (by omega), if_neg (by omega), if_neg (by omega), if_neg (by omega), if_neg (by omega)]; first | (rw [if_pos (by omega)]) | (rw [if_neg (by omega)]))) hN
  by_cases t1_1 : w = 1
  · refine J_tswIn (tgt := 65) (off := 62) hx dX7_status_3 (by omega) (by omega) (by rw [t1_1]; rfl) (by decide) ?_
    refine J_aload_n hx dX7_status_65 (i := 0) rfl rfl ?_
    refine J_getI2 (v := S.1.sc 6) hx fl_X7_274 cl_X7 dX7_status_66 hT.o (by decide) rfl hN.y.s6 ?_
    have rg3 := hW.y.s6
    refine J_iret hx hr dX7_status_69 ?_
    exact hQ.same (v := S.1.sc 6) (S := S) (by
      unfold a_status
      first
      | exact (fun (e9 : w = 0) => by subst e9; first | rfl | exact congrArg (fun z => (z, S)) hW.y.tni) (by omega)
      | exact (fun (e9 : w = 1) => by subst e9; first | rfl | exact congrArg (fun z => (z, S)) hW.y.tni) (by omega)
      | exact (fun (e9 : w = 2) => by subst e9; first | rfl | exact congrArg (fun z => (z, S)) hW.y.tni) (by omega)
      | exact (fun (e9 : w = 3) => by subst e9; first | rfl | exact congrArg (fun z => (z, S)) hW.y.tni) (by omega)
      | exact (fun (e9 : w = 4) => by subst e9; first | rfl | exact congrArg (fun z => (z, S)) hW.y.tni) (by omega)
      | exact (fun (e9 : w = 5) => by subst e9; first | rfl | exact congrArg (fun z => (z, S)) hW.y.tni) (by omega)
      | exact (fun (e9 : w = 6) => by subst e9; first | rfl | exact congrArg (fun z => (z, S)) hW.y.tni) (by omega)
      | exact (fun (e9 : w = 7) => by subst e9; first | rfl | exact congrArg (fun z => (z, S)) hW.y.tni) (by omega)
      | exact (fun (e9 : w = 8) => by subst e9; first | rfl | exact congrArg (fun z => (z, S)) hW.y.tni) (by omega)
      | exact (fun (e9 : w = 9) => by subst e9; first | rfl | exact congrArg (fun z => (z, S)) hW.y.tni) (by omega)
      | exact (fun (e9 : w = 10) => by subst e9; first | rfl | exact congrArg (fun z => (z, S)) hW.y.tni) (by omega)
      | (rw [if_neg (by omega), if_neg (by omega), if_neg (by omega), if_neg (by omega), if_neg (by omega), if_neg (by omega), if_neg (by omega), if_neg (by omega), if_neg (by omega), if_neg (by omega), if_neg (by omega)]; first | (rw [if_pos (by omega)]) | (rw [if_neg (by omega)]))) hN
  by_cases t1_2 : w = 2
  · refine J_tswIn (tgt := 70) (off := 67) hx dX7_status_3 (by omega) (by omega) (by rw [t1_2]; rfl) (by decide) ?_
    refine J_aload_n hx dX7_status_70 (i := 0) rfl rfl ?_
    refine J_getI2 (v := ((S.1.tn : Nat) : Int)) hx fl_X7_148 cl_X7 dX7_status_71 hT.o (by decide) rfl (hN.y.tn hW.y) ?_
    have rg4 := hW.y.tn2
    refine J_iret hx hr dX7_status_74 ?_
    exact hQ.same (v := ((S.1.tn : Nat) : Int)) (S := S) (by
      unfold a_status
      first
      | exact (fun (e9 : w = 0) => by subst e9; first | rfl | exact congrArg (fun z => (z, S)) hW.y.tni) (by omega)
      | exact (fun (e9 : w = 1) => by subst e9; first | rfl | exact congrArg (fun z => (z, S)) hW.y.tni) (by omega)
      | exact (fun (e9 : w = 2) => by subst e9; first | rfl | exact congrArg (fun z => (z, S)) hW.y.tni) (by omega)
      | exact (fun (e9 : w = 3) => by subst e9; first | rfl | exact congrArg (fun z => (z, S)) hW.y.tni) (by omega)
      | exact (fun (e9 : w = 4) => by subst e9; first | rfl | exact congrArg (fun z => (z, S)) hW.y.tni) (by omega)
      | exact (fun (e9 : w = 5) => by subst e9; first | rfl | exact congrArg (fun z => (z, S)) hW.y.tni) (by omega)
      | exact (fun (e9 : w = 6) => by subst e9; first | rfl | exact congrArg (fun z => (z, S)) hW.y.tni) (by omega)
      | exact (fun (e9 : w = 7) => by subst e9; first | rfl | exact congrArg (fun z => (z, S)) hW.y.tni) (by omega)
      | exact (fun (e9 : w = 8) => by subst e9; first | rfl | exact congrArg (fun z => (z, S)) hW.y.tni) (by omega)
      | exact (fun (e9 : w = 9) => by subst e9; first | rfl | exact congrArg (fun z => (z, S)) hW.y.tni) (by omega)
      | exact (fun (e9 : w = 10) => by subst e9; first | rfl | exact congrArg (fun z => (z, S)) hW.y.tni) (by omega)
      | (rw [if_neg (by omega), if_neg (by omega), if_neg (by omega), if_neg (by omega), if_neg (by omega), if_neg (by omega), if_neg (by omega), if_neg (by omega), if_neg (by omega), if_neg (by omega), if_neg (by omega)]; first | (rw [if_pos (by omega)]) | (rw [if_neg (by omega)]))) hN
  by_cases t1_3 : w = 3
  · refine J_tswIn (tgt := 75) (off := 72) hx dX7_status_3 (by omega) (by omega) (by rw [t1_3]; rfl) (by decide) ?_
    refine J_aload_n hx dX7_status_75 (i := 0) rfl rfl ?_
    refine J_getI2 (v := S.1.sc 1) hx fl_X7_60 cl_X7 dX7_status_76 hT.o (by decide) rfl hN.y.s1 ?_
    have rg5 := hW.y.s1
    refine J_iret hx hr dX7_status_79 ?_
    exact hQ.same (v := S.1.sc 1) (S := S) (by
      unfold a_status
      first
      | exact (fun (e9 : w = 0) => by subst e9; first | rfl | exact congrArg (fun z => (z, S)) hW.y.tni) (by omega)
      | exact (fun (e9 : w = 1) => by subst e9; first | rfl | exact congrArg (fun z => (z, S)) hW.y.tni) (by omega)
      | exact (fun (e9 : w = 2) => by subst e9; first | rfl | exact congrArg (fun z => (z, S)) hW.y.tni) (by omega)
      | exact (fun (e9 : w = 3) => by subst e9; first | rfl | exact congrArg (fun z => (z, S)) hW.y.tni) (by omega)
      | exact (fun (e9 : w = 4) => by subst e9; first | rfl | exact congrArg (fun z => (z, S)) hW.y.tni) (by omega)
      | exact (fun (e9 : w = 5) => by subst e9; first | rfl | exact congrArg (fun z => (z, S)) hW.y.tni) (by omega)
      | exact (fun (e9 : w = 6) => by subst e9; first | rfl | exact congrArg (fun z => (z, S)) hW.y.tni) (by omega)
      | exact (fun (e9 : w = 7) => by subst e9; first | rfl | exact congrArg (fun z => (z, S)) hW.y.tni) (by omega)
      | exact (fun (e9 : w = 8) => by subst e9; first | rfl | exact congrArg (fun z => (z, S)) hW.y.tni) (by omega)
      | exact (fun (e9 : w = 9) => by subst e9; first | rfl | exact congrArg (fun z => (z, S)) hW.y.tni) (by omega)
      | exact (fun (e9 : w = 10) => by subst e9; first | rfl | exact congrArg (fun z => (z, S)) hW.y.tni) (by omega)
      | (rw [if_neg (by omega), if_neg (by omega), if_neg (by omega), if_neg (by omega), if_neg (by omega), if_neg (by omega), if_neg (by omega), if_neg (by omega), if_neg (by omega), if_neg (by omega), if_neg (by omega)]; first | (rw [if_pos (by omega)]) | (rw [if_neg (by omega)]))) hN
  by_cases t1_4 : w = 4
  · refine J_tswIn (tgt := 80) (off := 77) hx dX7_status_3 (by omega) (by omega) (by rw [t1_4]; rfl) (by decide) ?_
    refine J_aload_n hx dX7_status_80 (i := 0) rfl rfl ?_
    refine J_getI2 (v := S.1.sc 2) hx fl_X7_64 cl_X7 dX7_status_81 hT.o (by decide) rfl hN.y.s2 ?_
    have rg6 := hW.y.s2
    refine J_iret hx hr dX7_status_84 ?_
    exact hQ.same (v := S.1.sc 2) (S := S) (by
      unfold a_status
      first
      | exact (fun (e9 : w = 0) => by subst e9; first | rfl | exact congrArg (fun z => (z, S)) hW.y.tni) (by omega)
      | exact (fun (e9 : w = 1) => by subst e9; first | rfl | exact congrArg (fun z => (z, S)) hW.y.tni) (by omega)
      | exact (fun (e9 : w = 2) => by subst e9; first | rfl | exact congrArg (fun z => (z, S)) hW.y.tni) (by omega)
      | exact (fun (e9 : w = 3) => by subst e9; first | rfl | exact congrArg (fun z => (z, S)) hW.y.tni) (by omega)
      | exact (fun (e9 : w = 4) => by subst e9; first | rfl | exact congrArg (fun z => (z, S)) hW.y.tni) (by omega)
      | exact (fun (e9 : w = 5) => by subst e9; first | rfl | exact congrArg (fun z => (z, S)) hW.y.tni) (by omega)
      | exact (fun (e9 : w = 6) => by subst e9; first | rfl | exact congrArg (fun z => (z, S)) hW.y.tni) (by omega)
      | exact (fun (e9 : w = 7) => by subst e9; first | rfl | exact congrArg (fun z => (z, S)) hW.y.tni) (by omega)
      | exact (fun (e9 : w = 8) => by subst e9; first | rfl | exact congrArg (fun z => (z, S)) hW.y.tni) (by omega)
      | exact (fun (e9 : w = 9) => by subst e9; first | rfl | exact congrArg (fun z => (z, S)) hW.y.tni) (by omega)
      | exact (fun (e9 : w = 10) => by subst e9; first | rfl | exact congrArg (fun z => (z, S)) hW.y.tni) (by omega)
      | (rw [if_neg (by omega), if_neg (by omega), if_neg (by omega), if_neg (by omega), if_neg (by omega), if_neg (by omega), if_neg (by omega), if_neg (by omega), if_neg (by omega), if_neg (by omega), if_neg (by omega)]; first | (rw [if_pos (by omega)]) | (rw [if_neg (by omega)]))) hN
  by_cases t1_5 : w = 5
  · refine J_tswIn (tgt := 85) (off := 82) hx dX7_status_3 (by omega) (by omega) (by rw [t1_5]; rfl) (by decide) ?_
    refine J_aload_n hx dX7_status_85 (i := 0) rfl rfl ?_
    refine J_getI2 (v := S.1.sc 3) hx fl_X7_145 cl_X7 dX7_status_86 hT.o (by decide) rfl hN.y.s3 ?_
    have rg7 := hW.y.s3
    refine J_iret hx hr dX7_status_89 ?_
    exact hQ.same (v := S.1.sc 3) (S := S) (by
      unfold a_status
      first
      | exact (fun (e9 : w = 0) => by subst e9; first | rfl | exact congrArg (fun z => (z, S)) hW.y.tni) (by omega)
      | exact (fun (e9 : w = 1) => by subst e9; first | rfl | exact congrArg (fun z => (z, S)) hW.y.tni) (by omega)
      | exact (fun (e9 : w = 2) => by subst e9; first | rfl | exact congrArg (fun z => (z, S)) hW.y.tni) (by omega)
      | exact (fun (e9 : w = 3) => by subst e9; first | rfl | exact congrArg (fun z => (z, S)) hW.y.tni) (by omega)
      | exact (fun (e9 : w = 4) => by subst e9; first | rfl | exact congrArg (fun z => (z, S)) hW.y.tni) (by omega)
      | exact (fun (e9 : w = 5) => by subst e9; first | rfl | exact congrArg (fun z => (z, S)) hW.y.tni) (by omega)
      | exact (fun (e9 : w = 6) => by subst e9; first | rfl | exact congrArg (fun z => (z, S)) hW.y.tni) (by omega)
      | exact (fun (e9 : w = 7) => by subst e9; first | rfl | exact congrArg (fun z => (z, S)) hW.y.tni) (by omega)
      | exact (fun (e9 : w = 8) => by subst e9; first | rfl | exact congrArg (fun z => (z, S)) hW.y.tni) (by omega)
      | exact (fun (e9 : w = 9) => by subst e9; first | rfl | exact congrArg (fun z => (z, S)) hW.y.tni) (by omega)
      | exact (fun (e9 : w = 10) => by subst e9; first | rfl | exact congrArg (fun z => (z, S)) hW.y.tni) (by omega)
      | (rw [if_neg (by omega), if_neg (by omega), if_neg (by omega), if_neg (by omega), if_neg (by omega), if_neg (by omega), if_neg (by omega), if_neg (by omega), if_neg (by omega), if_neg (by omega), if_neg (by omega)]; first | (rw [if_pos (by omega)]) | (rw [if_neg (by omega)]))) hN
  by_cases t1_6 : w = 6
  · refine J_tswIn (tgt := 90) (off := 87) hx dX7_status_3 (by omega) (by omega) (by rw [t1_6]; rfl) (by decide) ?_
    refine J_aload_n hx dX7_status_90 (i := 0) rfl rfl ?_
    refine J_getI2 (v := S.1.sc 4) hx fl_X7_67 cl_X7 dX7_status_91 hT.o (by decide) rfl hN.y.s4 ?_
    have rg8 := hW.y.s4
    refine J_iret hx hr dX7_status_94 ?_
    exact hQ.same (v := S.1.sc 4) (S := S) (by
      unfold a_status
      first
      | exact (fun (e9 : w = 0) => by subst e9; first | rfl | exact congrArg (fun z => (z, S)) hW.y.tni) (by omega)
      | exact (fun (e9 : w = 1) => by subst e9; first | rfl | exact congrArg (fun z => (z, S)) hW.y.tni) (by omega)
      | exact (fun (e9 : w = 2) => by subst e9; first | rfl | exact congrArg (fun z => (z, S)) hW.y.tni) (by omega)
      | exact (fun (e9 : w = 3) => by subst e9; first | rfl | exact congrArg (fun z => (z, S)) hW.y.tni) (by omega)
      | exact (fun (e9 : w = 4) => by subst e9; first | rfl | exact congrArg (fun z => (z, S)) hW.y.tni) (by omega)
      | exact (fun (e9 : w = 5) => by subst e9; first | rfl | exact congrArg (fun z => (z, S)) hW.y.tni) (by omega)
      | exact (fun (e9 : w = 6) => by subst e9; first | rfl | exact congrArg (fun z => (z, S)) hW.y.tni) (by omega)
      | exact (fun (e9 : w = 7) => by subst e9; first | rfl | exact congrArg (fun z => (z, S)) hW.y.tni) (by omega)
      | exact (fun (e9 : w = 8) => by subst e9; first | rfl | exact congrArg (fun z => (z, S)) hW.y.tni) (by omega)
      | exact (fun (e9 : w = 9) => by subst e9; first | rfl | exact congrArg (fun z => (z, S)) hW.y.tni) (by omega)
      | exact (fun (e9 : w = 10) => by subst e9; first | rfl | exact congrArg (fun z => (z, S)) hW.y.tni) (by omega)
      | (rw [if_neg (by omega), if_neg (by omega), if_neg (by omega), if_neg (by omega), if_neg (by omega), if_neg (by omega), if_neg (by omega), if_neg (by omega), if_neg (by omega), if_neg (by omega), if_neg (by omega)]; first | (rw [if_pos (by omega)]) | (rw [if_neg (by omega)]))) hN
  by_cases t1_7 : w = 7
  · refine J_tswIn (tgt := 95) (off := 92) hx dX7_status_3 (by omega) (by omega) (by rw [t1_7]; rfl) (by decide) ?_
    refine J_iconst (v := 0) hx dX7_status_95 (by decide) ?_
    refine J_istore_n (lsn := [vR (r), vI (w), vI (0), vI (0)]) hx dX7_status_96 (i := 3) rfl (Nat.le_of_ble_eq_true rfl) rfl rfl ?_
    exact lp7_X7_status hT hN.y hW.y hx hr (hQ.same (S := S) (by
      unfold a_status
      first
      | exact (fun (e9 : w = 0) => by subst e9; first | rfl | exact congrArg (fun z => (z, S)) hW.y.tni) (by omega)
      | exact (fun (e9 : w = 1) => by subst e9; first | rfl | exact congrArg (fun z => (z, S)) hW.y.tni) (by omega)
      | exact (fun (e9 : w = 2) => by subst e9; first | rfl | exact congrArg (fun z => (z, S)) hW.y.tni) (by omega)
      | exact (fun (e9 : w = 3) => by subst e9; first | rfl | exact congrArg (fun z => (z, S)) hW.y.tni) (by omega)
      | exact (fun (e9 : w = 4) => by subst e9; first | rfl | exact congrArg (fun z => (z, S)) hW.y.tni) (by omega)
      | exact (fun (e9 : w = 5) => by subst e9; first | rfl | exact congrArg (fun z => (z, S)) hW.y.tni) (by omega)
      | exact (fun (e9 : w = 6) => by subst e9; first | rfl | exact congrArg (fun z => (z, S)) hW.y.tni) (by omega)
      | exact (fun (e9 : w = 7) => by subst e9; first | rfl | exact congrArg (fun z => (z, S)) hW.y.tni) (by omega)
      | exact (fun (e9 : w = 8) => by subst e9; first | rfl | exact congrArg (fun z => (z, S)) hW.y.tni) (by omega)
      | exact (fun (e9 : w = 9) => by subst e9; first | rfl | exact congrArg (fun z => (z, S)) hW.y.tni) (by omega)
      | exact (fun (e9 : w = 10) => by subst e9; first | rfl | exact congrArg (fun z => (z, S)) hW.y.tni) (by omega)
      | (rw [if_neg (by omega), if_neg (by omega), if_neg (by omega), if_neg (by omega), if_neg (by omega), if_neg (by omega), if_neg (by omega), if_neg (by omega), if_neg (by omega), if_neg (by omega), if_neg (by omega)]; first | (rw [if_pos (by omega)]) | (rw [if_neg (by omega)]))) hN) 0 _ (by omega) rfl
  by_cases t1_8 : w = 8
  · refine J_tswIn (tgt := 122) (off := 119) hx dX7_status_3 (by omega) (by omega) (by rw [t1_8]; rfl) (by decide) ?_
    refine J_aload_n hx dX7_status_122 (i := 0) rfl rfl ?_
    refine J_getI2 (v := ((S.tp.1 : Nat) : Int)) hx fl_X7_163 cl_X7 dX7_status_123 hT.o (by decide) rfl hN.tz ?_
    have rg9 := hW.t
    refine J_iret hx hr dX7_status_126 ?_
    exact hQ.same (v := ((S.tp.1 : Nat) : Int)) (S := S) (by
      unfold a_status
      first
      | exact (fun (e9 : w = 0) => by subst e9; first | rfl | exact congrArg (fun z => (z, S)) hW.y.tni) (by omega)
      | exact (fun (e9 : w = 1) => by subst e9; first | rfl | exact congrArg (fun z => (z, S)) hW.y.tni) (by omega)
      | exact (fun (e9 : w = 2) => by subst e9; first | rfl | exact congrArg (fun z => (z, S)) hW.y.tni) (by omega)
      | exact (fun (e9 : w = 3) => by subst e9; first | rfl | exact congrArg (fun z => (z, S)) hW.y.tni) (by omega)
      | exact (fun (e9 : w = 4) => by subst e9; first | rfl | exact congrArg (fun z => (z, S)) hW.y.tni) (by omega)
      | exact (fun (e9 : w = 5) => by subst e9; first | rfl | exact congrArg (fun z => (z, S)) hW.y.tni) (by omega)
      | exact (fun (e9 : w = 6) => by subst e9; first | rfl | exact congrArg (fun z => (z, S)) hW.y.tni) (by omega)
      | exact (fun (e9 : w = 7) => by subst e9; first | rfl | exact congrArg (fun z => (z, S)) hW.y.tni) (by omega)
      | exact (fun (e9 : w = 8) => by subst e9; first | rfl | exact congrArg (fun z => (z, S)) hW.y.tni) (by omega)
      | exact (fun (e9 : w = 9) => by subst e9; first | rfl | exact congrArg (fun z => (z, S)) hW.y.tni) (by omega)
      | exact (fun (e9 : w = 10) => by subst e9; first | rfl | exact congrArg (fun z => (z, S)) hW.y.tni) (by omega)
      | (rw [if_neg (by omega), if_neg (by omega), if_neg (by omega), if_neg (by omega), if_neg (by omega), if_neg (by omega), if_neg (by omega), if_neg (by omega), if_neg (by omega), if_neg (by omega), if_neg (by omega)]; first | (rw [if_pos (by omega)]) | (rw [if_neg (by omega)]))) hN
  by_cases t1_9 : w = 9
  · refine J_tswIn (tgt := 127) (off := 124) hx dX7_status_3 (by omega) (by omega) (by rw [t1_9]; rfl) (by decide) ?_
    refine J_aload_n hx dX7_status_127 (i := 0) rfl rfl ?_
    refine J_getI2 (v := S.1.sc 7) hx fl_X7_70 cl_X7 dX7_status_128 hT.o (by decide) rfl hN.y.s7 ?_
    have rg10 := hW.y.s7
    refine J_iret hx hr dX7_status_131 ?_
    exact hQ.same (v := S.1.sc 7) (S := S) (by
      unfold a_status
      first
      | exact (fun (e9 : w = 0) => by subst e9; first | rfl | exact congrArg (fun z => (z, S)) hW.y.tni) (by omega)
      | exact (fun (e9 : w = 1) => by subst e9; first | rfl | exact congrArg (fun z => (z, S)) hW.y.tni) (by omega)
      | exact (fun (e9 : w = 2) => by subst e9; first | rfl | exact congrArg (fun z => (z, S)) hW.y.tni) (by omega)
      | exact (fun (e9 : w = 3) => by subst e9; first | rfl | exact congrArg (fun z => (z, S)) hW.y.tni) (by omega)
      | exact (fun (e9 : w = 4) => by subst e9; first | rfl | exact congrArg (fun z => (z, S)) hW.y.tni) (by omega)
      | exact (fun (e9 : w = 5) => by subst e9; first | rfl | exact congrArg (fun z => (z, S)) hW.y.tni) (by omega)
      | exact (fun (e9 : w = 6) => by subst e9; first | rfl | exact congrArg (fun z => (z, S)) hW.y.tni) (by omega)
      | exact (fun (e9 : w = 7) => by subst e9; first | rfl | exact congrArg (fun z => (z, S)) hW.y.tni) (by omega)
      | exact (fun (e9 : w = 8) => by subst e9; first | rfl | exact congrArg (fun z => (z, S)) hW.y.tni) (by omega)
      | exact (fun (e9 : w = 9) => by subst e9; first | rfl | exact congrArg (fun z => (z, S)) hW.y.tni) (by omega)
      | exact (fun (e9 : w = 10) => by subst e9; first | rfl | exact congrArg (fun z => (z, S)) hW.y.tni) (by omega)
      | (rw [if_neg (by omega), if_neg (by omega), if_neg (by omega), if_neg (by omega), if_neg (by omega), if_neg (by omega), if_neg (by omega), if_neg (by omega), if_neg (by omega), if_neg (by omega), if_neg (by omega)]; first | (rw [if_pos (by omega)]) | (rw [if_neg (by omega)]))) hN
  by_cases t1_10 : w = 10
  · refine J_tswIn (tgt := 132) (off := 129) hx dX7_status_3 (by omega) (by omega) (by rw [t1_10]; rfl) (by decide) ?_
    refine J_iconst (v := 0) hx dX7_status_132 (by decide) ?_
    refine J_istore_n (lsn := [vR (r), vI (w), vI (0), vI (0)]) hx dX7_status_133 (i := 3) rfl (Nat.le_of_ble_eq_true rfl) rfl rfl ?_
    exact lp10_X7_status hT hN hW hx hr (hQ.same (S := S) (by
      unfold a_status
      first
      | exact (fun (e9 : w = 0) => by subst e9; first | rfl | exact congrArg (fun z => (z, S)) hW.y.tni) (by omega)
      | exact (fun (e9 : w = 1) => by subst e9; first | rfl | exact congrArg (fun z => (z, S)) hW.y.tni) (by omega)
      | exact (fun (e9 : w = 2) => by subst e9; first | rfl | exact congrArg (fun z => (z, S)) hW.y.tni) (by omega)
      | exact (fun (e9 : w = 3) => by subst e9; first | rfl | exact congrArg (fun z => (z, S)) hW.y.tni) (by omega)
      | exact (fun (e9 : w = 4) => by subst e9; first | rfl | exact congrArg (fun z => (z, S)) hW.y.tni) (by omega)
      | exact (fun (e9 : w = 5) => by subst e9; first | rfl | exact congrArg (fun z => (z, S)) hW.y.tni) (by omega)
      | exact (fun (e9 : w = 6) => by subst e9; first | rfl | exact congrArg (fun z => (z, S)) hW.y.tni) (by omega)
      | exact (fun (e9 : w = 7) => by subst e9; first | rfl | exact congrArg (fun z => (z, S)) hW.y.tni) (by omega)
      | exact (fun (e9 : w = 8) => by subst e9; first | rfl | exact congrArg (fun z => (z, S)) hW.y.tni) (by omega)
      | exact (fun (e9 : w = 9) => by subst e9; first | rfl | exact congrArg (fun z => (z, S)) hW.y.tni) (by omega)
      | exact (fun (e9 : w = 10) => by subst e9; first | rfl | exact congrArg (fun z => (z, S)) hW.y.tni) (by omega)
      | (rw [if_neg (by omega), if_neg (by omega), if_neg (by omega), if_neg (by omega), if_neg (by omega), if_neg (by omega), if_neg (by omega), if_neg (by omega), if_neg (by omega), if_neg (by omega), if_neg (by omega)]; first | (rw [if_pos (by omega)]) | (rw [if_neg (by omega)]))) hN) 0 0 (by omega) rfl
  refine J_tswOut (tgt := 165) hx dX7_status_3 (by omega) (by decide) ?_
  refine J_iload_n hx dX7_status_165 (i := 1) rfl rfl ?_
  refine J_i2l hx dX7_status_166 ?_
  refine J_ldc2 (v := 12) hx ct_X7_367 dX7_status_167 (by decide) ?_
  refine J_ldc2 (v := 16) hx ct_X7_369 dX7_status_170 (by decide) ?_
  refine J_invS (As := [vL (w), vL (12), vL (16)]) (st := []) hx lk_X7_85 okX7_in dX7_status_173 rfl rfl (Nat.le_of_ble_eq_true rfl) (Nat.zero_add _).symm (Nat.zero_add _).symm rfl (c_X7_in (a := w) (lo := 12) (hi := 16) ?_)
  intro v11 hv11
  refine J_if_eq (tgt := 191) hx dX7_status_176 (by decide) (fun c12 => ?_) (fun c12 => ?_)
  · refine J_iconst (v := -1) hx dX7_status_191 (by decide) ?_
    refine J_iret hx hr dX7_status_192 ?_
    exact hQ.same (v := (-1)) (S := S) (by
      unfold a_status
      first
      | exact (fun (e9 : w = 0) => by subst e9; first | rfl | exact congrArg (fun z => (z, S)) hW.y.tni) (by omega)
      | exact (fun (e9 : w = 1) => by subst e9; first | rfl | exact congrArg (fun z => (z, S)) hW.y.tni) (by omega)
      | exact (fun (e9 : w = 2) => by subst e9; first | rfl | exact congrArg (fun z => (z, S)) hW.y.tni) (by omega)
      | exact (fun (e9 : w = 3) => by subst e9; first | rfl | exact congrArg (fun z => (z, S)) hW.y.tni) (by omega)
      | exact (fun (e9 : w = 4) => by subst e9; first | rfl | exact congrArg (fun z => (z, S)) hW.y.tni) (by omega)
      | exact (fun (e9 : w = 5) => by subst e9; first | rfl | exact congrArg (fun z => (z, S)) hW.y.tni) (by omega)
      | exact (fun (e9 : w = 6) => by subst e9; first | rfl | exact congrArg (fun z => (z, S)) hW.y.tni) (by omega)
      | exact (fun (e9 : w = 7) => by subst e9; first | rfl | exact congrArg (fun z => (z, S)) hW.y.tni) (by omega)
      | exact (fun (e9 : w = 8) => by subst e9; first | rfl | exact congrArg (fun z => (z, S)) hW.y.tni) (by omega)
      | exact (fun (e9 : w = 9) => by subst e9; first | rfl | exact congrArg (fun z => (z, S)) hW.y.tni) (by omega)
      | exact (fun (e9 : w = 10) => by subst e9; first | rfl | exact congrArg (fun z => (z, S)) hW.y.tni) (by omega)
      | (rw [if_neg (by omega), if_neg (by omega), if_neg (by omega), if_neg (by omega), if_neg (by omega), if_neg (by omega), if_neg (by omega), if_neg (by omega), if_neg (by omega), if_neg (by omega), if_neg (by omega)]; first | (rw [if_pos (by omega)]) | (rw [if_neg (by omega)]))) hN
  · refine J_aload_n hx dX7_status_179 (i := 0) rfl rfl ?_
    refine J_getR (b := r + 16) hx fl_X7_34 cl_X7 dX7_status_180 hT.o (by decide) rfl hT.r8 ?_
    refine J_iload_n hx dX7_status_183 (i := 1) rfl rfl ?_
    refine J_bipush (v := 10) hx dX7_status_184 (by decide) ?_
    refine J_isub (v := w - 10) hx dX7_status_186 (w32_id (by omega) (by omega)) ?_
    refine J_iald2 (v := S.rf (w - 12).toNat) hx (Int.toNat (w - 10)) dX7_status_187 hT.k16 (by omega) (hT.l16 (by omega)) (by have e9 := hN.rf (j := (w - 12).toNat) (by omega); rw [show Int.toNat (w - 10) = (w - 12).toNat + 2 by omega]; exact e9) ?_
    refine J_goto (tgt := 192) hx dX7_status_188 (by decide) ?_
    refine J_iret hx hr dX7_status_192 ?_
    exact hQ.same (v := S.rf (w - 12).toNat) (S := S) (by
      unfold a_status
      first
      | exact (fun (e9 : w = 0) => by subst e9; first | rfl | exact congrArg (fun z => (z, S)) hW.y.tni) (by omega)
      | exact (fun (e9 : w = 1) => by subst e9; first | rfl | exact congrArg (fun z => (z, S)) hW.y.tni) (by omega)
      | exact (fun (e9 : w = 2) => by subst e9; first | rfl | exact congrArg (fun z => (z, S)) hW.y.tni) (by omega)
      | exact (fun (e9 : w = 3) => by subst e9; first | rfl | exact congrArg (fun z => (z, S)) hW.y.tni) (by omega)
      | exact (fun (e9 : w = 4) => by subst e9; first | rfl | exact congrArg (fun z => (z, S)) hW.y.tni) (by omega)
      | exact (fun (e9 : w = 5) => by subst e9; first | rfl | exact congrArg (fun z => (z, S)) hW.y.tni) (by omega)
      | exact (fun (e9 : w = 6) => by subst e9; first | rfl | exact congrArg (fun z => (z, S)) hW.y.tni) (by omega)
      | exact (fun (e9 : w = 7) => by subst e9; first | rfl | exact congrArg (fun z => (z, S)) hW.y.tni) (by omega)
      | exact (fun (e9 : w = 8) => by subst e9; first | rfl | exact congrArg (fun z => (z, S)) hW.y.tni) (by omega)
      | exact (fun (e9 : w = 9) => by subst e9; first | rfl | exact congrArg (fun z => (z, S)) hW.y.tni) (by omega)
      | exact (fun (e9 : w = 10) => by subst e9; first | rfl | exact congrArg (fun z => (z, S)) hW.y.tni) (by omega)
      | (rw [if_neg (by omega), if_neg (by omega), if_neg (by omega), if_neg (by omega), if_neg (by omega), if_neg (by omega), if_neg (by omega), if_neg (by omega), if_neg (by omega), if_neg (by omega), if_neg (by omega)]; first | (rw [if_pos (by omega)]) | (rw [if_neg (by omega)]))) hN

