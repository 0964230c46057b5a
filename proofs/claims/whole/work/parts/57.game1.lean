set_option maxHeartbeats 4000000 in
theorem c_X0_valueFrom_0 {g : WG} {d : Nat} {T : TT} {M : MM} {o sz : Nat} {S : ST} {Q : MVal → TT → MM → Nat → Prop} (hC : CT T o) (hN : CN M o S) (hW : WFS S) (hQ : ∀ M', CN M' o S → (∀ b, (b < o ∨ o + 83 ≤ b) → M' b = M b) → Q (vI (gmV 0 S.1)) T M' sz) : Ct g (d + 3) mX0_valueFrom [vR (o + 35), vR (o + 1), vI (0)] T M sz 0 0 Q := by
  refine Ct_of2 (ls := [vR (o + 35), vR (o + 1), vI (0)]) okX0_valueFrom rfl (Nat.le_of_ble_eq_true rfl) rfl ?_
  intro x hx hr hnm
  refine J_aload_n hx dX0_valueFrom_0 (i := 0) rfl rfl ?_
  refine J_getR (b := o + 36) hx fl_X0_11 cl_X0 dX0_valueFrom_1 hC.k35 (by decide) rfl hC.g0 ?_
  refine J_iload_n hx dX0_valueFrom_4 (i := 2) rfl rfl ?_
  refine J_aald (b := o + 23) hx 0 dX0_valueFrom_5 hC.k36 (by decide) (by omega) (by rw [hC.n36]; decide) hC.q0 ?_
  refine J_aload_n hx dX0_valueFrom_6 (i := 1) rfl rfl ?_
  refine J_invVv (As := [vR (o + 1)]) (st := []) hx lk_X0_18 okX5_becomeAs dX0_valueFrom_7 hC.y2.o (by decide) rfl rfl rfl (Nat.le_of_ble_eq_true rfl) (Nat.zero_add _).symm (Nat.zero_add _).symm rfl (c_X5_becomeAs hC.y2 hC.y0 hN.y hW.y (by omega) ?_)
  intro M1 hY1 hF1
  refine J_aload_n hx dX0_valueFrom_10 (i := 0) rfl rfl ?_
  refine J_iload_n hx dX0_valueFrom_11 (i := 2) rfl rfl ?_
  refine J_invV (As := [vI (0)]) (st := []) hx lk_X0_22 okX0_mostByCall dX0_valueFrom_12 hC.k35 (by decide) rfl rfl rfl (Nat.le_of_ble_eq_true rfl) (Nat.zero_add _).symm (Nat.zero_add _).symm rfl (c_X0_mostByCall_0 hC hW.y hY1 ?_)
  show Jd _ _ _ _ (vI (gmV 0 S.1) :: _) _ _ _ _ _
  refine J_iret hx hr dX0_valueFrom_15 ?_
  exact hQ M1 (hN.g2 ((FrG1.y hF1).to2)) (fun b9 h9 => ((FrG1.y hF1).to2) b9 (by omega) (by omega) (by omega))

set_option maxHeartbeats 4000000 in
theorem c_X0_valueFrom_1 {g : WG} {d : Nat} {T : TT} {M : MM} {o sz : Nat} {S : ST} {Q : MVal → TT → MM → Nat → Prop} (hC : CT T o) (hN : CN M o S) (hW : WFS S) (hQ : ∀ M', CN M' o S → (∀ b, (b < o ∨ o + 83 ≤ b) → M' b = M b) → (¬ overY S.1 → M' (o + 35) 1 = gmC (gmV 0) S.1) → Q (vI (gmV 1 S.1)) T M' sz) : Ct g (d + 6) mX0_valueFrom [vR (o + 35), vR (o + 1), vI (1)] T M sz 0 0 Q := by
  refine Ct_of2 (ls := [vR (o + 35), vR (o + 1), vI (1)]) okX0_valueFrom rfl (Nat.le_of_ble_eq_true rfl) rfl ?_
  intro x hx hr hnm
  refine J_aload_n hx dX0_valueFrom_0 (i := 0) rfl rfl ?_
  refine J_getR (b := o + 36) hx fl_X0_11 cl_X0 dX0_valueFrom_1 hC.k35 (by decide) rfl hC.g0 ?_
  refine J_iload_n hx dX0_valueFrom_4 (i := 2) rfl rfl ?_
  refine J_aald (b := o + 37) hx 1 dX0_valueFrom_5 hC.k36 (by decide) (by omega) (by rw [hC.n36]; decide) hC.q1 ?_
  refine J_aload_n hx dX0_valueFrom_6 (i := 1) rfl rfl ?_
  refine J_invVv (As := [vR (o + 1)]) (st := []) hx lk_X0_18 okX5_becomeAs dX0_valueFrom_7 hC.y3.o (by decide) rfl rfl rfl (Nat.le_of_ble_eq_true rfl) (Nat.zero_add _).symm (Nat.zero_add _).symm rfl (c_X5_becomeAs hC.y3 hC.y0 hN.y hW.y (by omega) ?_)
  intro M1 hY1 hF1
  refine J_aload_n hx dX0_valueFrom_10 (i := 0) rfl rfl ?_
  refine J_iload_n hx dX0_valueFrom_11 (i := 2) rfl rfl ?_
  refine J_invV (As := [vI (1)]) (st := []) hx lk_X0_22 okX0_mostByCall dX0_valueFrom_12 hC.k35 (by decide) rfl rfl rfl (Nat.le_of_ble_eq_true rfl) (Nat.zero_add _).symm (Nat.zero_add _).symm rfl (c_X0_mostByCall_1 hC hW.y hY1 ?_)
  intro M2 hF2 hch
  refine J_iret hx hr dX0_valueFrom_15 ?_
  exact hQ M2 (hN.g2 ((FrG2.y hF1).tr hF2.to2)) (fun b9 h9 => ((FrG2.y hF1).tr hF2.to2) b9 (by omega) (by omega) (by omega)) hch

set_option maxHeartbeats 4000000 in
theorem c_X0_valueFrom_2 {g : WG} {d : Nat} {T : TT} {M : MM} {o sz : Nat} {S : ST} {Q : MVal → TT → MM → Nat → Prop} (hC : CT T o) (hN : CN M o S) (hW : WFS S) (hQ : ∀ M', CN M' o S → (∀ b, (b < o ∨ o + 83 ≤ b) → M' b = M b) → (¬ overY S.1 → M' (o + 35) 1 = gmC (gmV 1) S.1) → Q (vI (gmV 2 S.1)) T M' sz) : Ct g (d + 9) mX0_valueFrom [vR (o + 35), vR (o + 1), vI (2)] T M sz 0 0 Q := by
  refine Ct_of2 (ls := [vR (o + 35), vR (o + 1), vI (2)]) okX0_valueFrom rfl (Nat.le_of_ble_eq_true rfl) rfl ?_
  intro x hx hr hnm
  refine J_aload_n hx dX0_valueFrom_0 (i := 0) rfl rfl ?_
  refine J_getR (b := o + 36) hx fl_X0_11 cl_X0 dX0_valueFrom_1 hC.k35 (by decide) rfl hC.g0 ?_
  refine J_iload_n hx dX0_valueFrom_4 (i := 2) rfl rfl ?_
  refine J_aald (b := o + 48) hx 2 dX0_valueFrom_5 hC.k36 (by decide) (by omega) (by rw [hC.n36]; decide) hC.q2 ?_
  refine J_aload_n hx dX0_valueFrom_6 (i := 1) rfl rfl ?_
  refine J_invVv (As := [vR (o + 1)]) (st := []) hx lk_X0_18 okX5_becomeAs dX0_valueFrom_7 hC.y4.o (by decide) rfl rfl rfl (Nat.le_of_ble_eq_true rfl) (Nat.zero_add _).symm (Nat.zero_add _).symm rfl (c_X5_becomeAs hC.y4 hC.y0 hN.y hW.y (by omega) ?_)
  intro M1 hY1 hF1
  refine J_aload_n hx dX0_valueFrom_10 (i := 0) rfl rfl ?_
  refine J_iload_n hx dX0_valueFrom_11 (i := 2) rfl rfl ?_
  refine J_invV (As := [vI (2)]) (st := []) hx lk_X0_22 okX0_mostByCall dX0_valueFrom_12 hC.k35 (by decide) rfl rfl rfl (Nat.le_of_ble_eq_true rfl) (Nat.zero_add _).symm (Nat.zero_add _).symm rfl (c_X0_mostByCall_2 hC hW.y hY1 ?_)
  intro M2 hF2 hch
  refine J_iret hx hr dX0_valueFrom_15 ?_
  exact hQ M2 (hN.same (fun a9 h9 => by rw [hF2 a9 (by omega) (by omega) (by omega), hF1 a9 (by omega)]) (by rw [hF2 o (by omega) (by omega) (by omega), hF1 o (by omega)]) (by rw [hF2 _ (by omega) (by omega) (by omega), hF1 _ (by omega)])) (fun b9 h9 => by rw [hF2 b9 (by omega) (by omega) (by omega), hF1 b9 (by omega)]) hch

set_option maxHeartbeats 4000000 in
theorem c_X6_game {g : WG} {d : Nat} {T : TT} {M : MM} {o sz : Nat} {S : ST} {Q : MVal → TT → MM → Nat → Prop} (hC : CT T o) (hN : CN M o S) (hW : WFS S) {d1 : Int} (h_d : -2147483648 ≤ d1 ∧ d1 ≤ 2147483647) (hQ : CQ o T M sz Q (a_game S d1)) : Ct g (d + 10) mX6_game [vR (o), vI (d1)] T M sz 0 0 Q := by
  refine Ct_of2 (ls := [vR (o), vI (d1)]) okX6_game rfl (Nat.le_of_ble_eq_true rfl) rfl ?_
  intro x hx hr hnm
  refine J_iload_n hx dX6_game_0 (i := 1) rfl rfl ?_
  refine J_if_lt (tgt := 9) hx dX6_game_1 (by decide) (fun c1 => ?_) (fun c1 => ?_)
  · refine J_sipush (v := -1000) hx dX6_game_9 (by decide) ?_
    refine J_aload_n hx dX6_game_12 (i := 0) rfl rfl ?_
    refine J_bipush (v := -2) hx dX6_game_13 (by decide) ?_
    refine J_invV (As := [vI ((-2))]) (st := [vI ((-1000))]) hx lk_X6_67 okX6_refuse dX6_game_15 hC.o (by decide) rfl rfl rfl (Nat.le_of_ble_eq_true rfl) (Nat.zero_add _).symm (Nat.zero_add _).symm rfl (c_X6_refuse hC hN hW (k := 0) (by decide) ?_)
    intro M1 hN1 hf1
    refine J_iadd (v := (-1002)) hx dX6_game_18 (w32_id (by decide) (by decide)) ?_
    refine J_iret hx hr dX6_game_19 ?_
    exact hQ.to (v := (-1002)) (S := rfS S 0) (by
      unfold a_game
      all_goals (try unfold overY at *)
      all_goals (try unfold mayQ at *)
      all_goals (try simp only [Int.toNat_natCast] at *)
      all_goals ((repeat' split) <;> first | rfl | (exfalso; omega) | (congr 1; omega))) hC hN1 hf1
  · refine J_iload_n hx dX6_game_4 (i := 1) rfl rfl ?_
    refine J_iconst (v := 2) hx dX6_game_5 (by decide) ?_
    refine J_icmp_le (tgt := 20) hx dX6_game_6 (by decide) (fun c2 => ?_) (fun c2 => ?_)
    · refine J_aload_n hx dX6_game_20 (i := 0) rfl rfl ?_
      refine J_getR (b := o + 1) hx fl_X6_10 cl_X6 dX6_game_21 hC.o (by decide) rfl hC.r0 ?_
      refine J_invV (As := []) (st := []) hx lk_X6_229 okX5_isOver dX6_game_24 hC.y0.o (by decide) rfl rfl rfl (Nat.le_of_ble_eq_true rfl) (Nat.zero_add _).symm (Nat.zero_add _).symm rfl (c_X5_isOver hC.y0 hN.y hW.y  ?_)
      intro v3 hv3
      refine J_if_eq (tgt := 41) hx dX6_game_27 (by decide) (fun c4 => ?_) (fun c4 => ?_)
      · rcases (show d1 = 0 ∨ d1 = 1 ∨ d1 = 2 by omega) with rfl | rfl | rfl
        · refine J_aload_n hx dX6_game_41 (i := 0) rfl rfl ?_
          refine J_getR (b := o + 35) hx fl_X6_34 cl_X6 dX6_game_42 hC.o (by decide) rfl hC.r4 ?_
          refine J_aload_n hx dX6_game_45 (i := 0) rfl rfl ?_
          refine J_getR (b := o + 1) hx fl_X6_10 cl_X6 dX6_game_46 hC.o (by decide) rfl hC.r0 ?_
          refine J_iload_n hx dX6_game_49 (i := 1) rfl rfl ?_
          refine J_invV (As := [vR (o + 1), vI (0)]) (st := []) hx lk_X6_286 okX0_valueFrom dX6_game_50 hC.k35 (by decide) rfl rfl rfl (Nat.le_of_ble_eq_true rfl) (Nat.zero_add _).symm (Nat.zero_add _).symm rfl (c_X0_valueFrom_0 hC hN hW ?_)
          intro M1 hN1 hf1
          refine J_iret hx hr dX6_game_53 ?_
          exact hQ.to (v := gmV 0 S.1) (S := S) (by
            unfold a_game
            all_goals (try unfold overY at *)
            all_goals (try unfold mayQ at *)
            all_goals (try simp only [Int.toNat_natCast] at *)
            all_goals ((repeat' split) <;> first | rfl | (exfalso; omega) | (congr 1; omega) | (rw [show Int.toNat 0 = 0 from rfl]))) hC hN1 hf1
        · refine J_aload_n hx dX6_game_41 (i := 0) rfl rfl ?_
          refine J_getR (b := o + 35) hx fl_X6_34 cl_X6 dX6_game_42 hC.o (by decide) rfl hC.r4 ?_
          refine J_aload_n hx dX6_game_45 (i := 0) rfl rfl ?_
          refine J_getR (b := o + 1) hx fl_X6_10 cl_X6 dX6_game_46 hC.o (by decide) rfl hC.r0 ?_
          refine J_iload_n hx dX6_game_49 (i := 1) rfl rfl ?_
          refine J_invV (As := [vR (o + 1), vI (1)]) (st := []) hx lk_X6_286 okX0_valueFrom dX6_game_50 hC.k35 (by decide) rfl rfl rfl (Nat.le_of_ble_eq_true rfl) (Nat.zero_add _).symm (Nat.zero_add _).symm rfl (c_X0_valueFrom_1 hC hN hW ?_)
          intro M1 hN1 hf1 hch
          refine J_iret hx hr dX6_game_53 ?_
          exact hQ.to (v := gmV 1 S.1) (S := S) (by
            unfold a_game
            all_goals (try unfold overY at *)
            all_goals (try unfold mayQ at *)
            all_goals (try simp only [Int.toNat_natCast] at *)
            all_goals ((repeat' split) <;> first | rfl | (exfalso; omega) | (congr 1; omega) | (rw [show Int.toNat 1 = 1 from rfl]))) hC hN1 hf1
        · refine J_aload_n hx dX6_game_41 (i := 0) rfl rfl ?_
          refine J_getR (b := o + 35) hx fl_X6_34 cl_X6 dX6_game_42 hC.o (by decide) rfl hC.r4 ?_
          refine J_aload_n hx dX6_game_45 (i := 0) rfl rfl ?_
          refine J_getR (b := o + 1) hx fl_X6_10 cl_X6 dX6_game_46 hC.o (by decide) rfl hC.r0 ?_
          refine J_iload_n hx dX6_game_49 (i := 1) rfl rfl ?_
          refine J_invV (As := [vR (o + 1), vI (2)]) (st := []) hx lk_X6_286 okX0_valueFrom dX6_game_50 hC.k35 (by decide) rfl rfl rfl (Nat.le_of_ble_eq_true rfl) (Nat.zero_add _).symm (Nat.zero_add _).symm rfl (c_X0_valueFrom_2 hC hN hW ?_)
          intro M1 hN1 hf1 hch
          refine J_iret hx hr dX6_game_53 ?_
          exact hQ.to (v := gmV 2 S.1) (S := S) (by
            unfold a_game
            all_goals (try unfold overY at *)
            all_goals (try unfold mayQ at *)
            all_goals (try simp only [Int.toNat_natCast] at *)
            all_goals ((repeat' split) <;> first | rfl | (exfalso; omega) | (congr 1; omega) | (rw [show Int.toNat 2 = 2 from rfl]))) hC hN1 hf1
      · refine J_sipush (v := -1000) hx dX6_game_30 (by decide) ?_
        refine J_aload_n hx dX6_game_33 (i := 0) rfl rfl ?_
        refine J_bipush (v := -5) hx dX6_game_34 (by decide) ?_
        refine J_invV (As := [vI ((-5))]) (st := [vI ((-1000))]) hx lk_X6_67 okX6_refuse dX6_game_36 hC.o (by decide) rfl rfl rfl (Nat.le_of_ble_eq_true rfl) (Nat.zero_add _).symm (Nat.zero_add _).symm rfl (c_X6_refuse hC hN hW (k := 3) (by decide) ?_)
        intro M1 hN1 hf1
        refine J_iadd (v := (-1005)) hx dX6_game_39 (w32_id (by decide) (by decide)) ?_
        refine J_iret hx hr dX6_game_40 ?_
        exact hQ.to (v := (-1005)) (S := rfS S 3) (by
          unfold a_game
          all_goals (try unfold overY at *)
          all_goals (try unfold mayQ at *)
          all_goals (try simp only [Int.toNat_natCast] at *)
          all_goals ((repeat' split) <;> first | rfl | (exfalso; omega) | (congr 1; omega))) hC hN1 hf1
    · refine J_sipush (v := -1000) hx dX6_game_9 (by decide) ?_
      refine J_aload_n hx dX6_game_12 (i := 0) rfl rfl ?_
      refine J_bipush (v := -2) hx dX6_game_13 (by decide) ?_
      refine J_invV (As := [vI ((-2))]) (st := [vI ((-1000))]) hx lk_X6_67 okX6_refuse dX6_game_15 hC.o (by decide) rfl rfl rfl (Nat.le_of_ble_eq_true rfl) (Nat.zero_add _).symm (Nat.zero_add _).symm rfl (c_X6_refuse hC hN hW (k := 0) (by decide) ?_)
      intro M1 hN1 hf1
      refine J_iadd (v := (-1002)) hx dX6_game_18 (w32_id (by decide) (by decide)) ?_
      refine J_iret hx hr dX6_game_19 ?_
      exact hQ.to (v := (-1002)) (S := rfS S 0) (by
        unfold a_game
        all_goals (try unfold overY at *)
        all_goals (try unfold mayQ at *)
        all_goals (try simp only [Int.toNat_natCast] at *)
        all_goals ((repeat' split) <;> first | rfl | (exfalso; omega) | (congr 1; omega))) hC hN1 hf1

set_option maxHeartbeats 4000000 in
theorem c_X6_first {g : WG} {d : Nat} {T : TT} {M : MM} {o sz : Nat} {S : ST} {Q : MVal → TT → MM → Nat → Prop} (hC : CT T o) (hN : CN M o S) (hW : WFS S) {d1 : Int} (h_d : -2147483648 ≤ d1 ∧ d1 ≤ 2147483647) (hQ : CQ o T M sz Q (a_first S d1)) : Ct g (d + 10) mX6_first [vR (o), vI (d1)] T M sz 0 0 Q := by
  refine Ct_of2 (ls := [vR (o), vI (d1)]) okX6_first rfl (Nat.le_of_ble_eq_true rfl) rfl ?_
  intro x hx hr hnm
  refine J_iload_n hx dX6_first_0 (i := 1) rfl rfl ?_
  refine J_iconst (v := 1) hx dX6_first_1 (by decide) ?_
  refine J_icmp_lt (tgt := 10) hx dX6_first_2 (by decide) (fun c1 => ?_) (fun c1 => ?_)
  · refine J_aload_n hx dX6_first_10 (i := 0) rfl rfl ?_
    refine J_bipush (v := -2) hx dX6_first_11 (by decide) ?_
    refine J_invV (As := [vI ((-2))]) (st := []) hx lk_X6_67 okX6_refuse dX6_first_13 hC.o (by decide) rfl rfl rfl (Nat.le_of_ble_eq_true rfl) (Nat.zero_add _).symm (Nat.zero_add _).symm rfl (c_X6_refuse hC hN hW (k := 0) (by decide) ?_)
    intro M1 hN1 hf1
    refine J_iret hx hr dX6_first_16 ?_
    exact hQ.to (v := -((0 + 2 : Nat) : Int)) (S := rfS S 0) (by
      unfold a_first
      all_goals (try unfold overY at *)
      all_goals (try unfold mayQ at *)
      all_goals (try simp only [Int.toNat_natCast] at *)
      all_goals ((repeat' split) <;> first | rfl | (exfalso; omega) | (congr 1; omega))) hC hN1 hf1
  · refine J_iload_n hx dX6_first_5 (i := 1) rfl rfl ?_
    refine J_iconst (v := 2) hx dX6_first_6 (by decide) ?_
    refine J_icmp_le (tgt := 17) hx dX6_first_7 (by decide) (fun c2 => ?_) (fun c2 => ?_)
    · refine J_aload_n hx dX6_first_17 (i := 0) rfl rfl ?_
      refine J_getR (b := o + 1) hx fl_X6_10 cl_X6 dX6_first_18 hC.o (by decide) rfl hC.r0 ?_
      refine J_invV (As := []) (st := []) hx lk_X6_229 okX5_isOver dX6_first_21 hC.y0.o (by decide) rfl rfl rfl (Nat.le_of_ble_eq_true rfl) (Nat.zero_add _).symm (Nat.zero_add _).symm rfl (c_X5_isOver hC.y0 hN.y hW.y  ?_)
      intro v3 hv3
      refine J_if_eq (tgt := 34) hx dX6_first_24 (by decide) (fun c4 => ?_) (fun c4 => ?_)
      · rcases (show d1 = 1 ∨ d1 = 2 by omega) with rfl | rfl
        · refine J_aload_n hx dX6_first_34 (i := 0) rfl rfl ?_
          refine J_getR (b := o + 35) hx fl_X6_34 cl_X6 dX6_first_35 hC.o (by decide) rfl hC.r4 ?_
          refine J_aload_n hx dX6_first_38 (i := 0) rfl rfl ?_
          refine J_getR (b := o + 1) hx fl_X6_10 cl_X6 dX6_first_39 hC.o (by decide) rfl hC.r0 ?_
          refine J_iload_n hx dX6_first_42 (i := 1) rfl rfl ?_
          refine J_invV (As := [vR (o + 1), vI (1)]) (st := []) hx lk_X6_286 okX0_valueFrom dX6_first_43 hC.k35 (by decide) rfl rfl rfl (Nat.le_of_ble_eq_true rfl) (Nat.zero_add _).symm (Nat.zero_add _).symm rfl (c_X0_valueFrom_1 hC hN hW ?_)
          intro M1 hN1 hf1 hch
          refine J_pop hx dX6_first_46 rfl ?_
          refine J_aload_n hx dX6_first_47 (i := 0) rfl rfl ?_
          refine J_getR (b := o + 35) hx fl_X6_34 cl_X6 dX6_first_48 hC.o (by decide) rfl hC.r4 ?_
          refine J_getI2 (v := gmC (gmV 0) S.1) hx fl_X6_289 cl_X0 dX6_first_51 hC.k35 (by decide) rfl (hch (fun q9 => by unfold overY at *; omega)) ?_
          refine J_iret hx hr dX6_first_54 ?_
          exact hQ.to (v := gmC (gmV 0) S.1) (S := S) (by
            unfold a_first
            all_goals (try unfold overY at *)
            all_goals (try unfold mayQ at *)
            all_goals (try simp only [Int.toNat_natCast] at *)
            all_goals ((repeat' split) <;> first | rfl | (exfalso; omega) | (congr 1; omega) | (rw [show Int.toNat 1 = 1 from rfl]))) hC hN1 hf1
        · refine J_aload_n hx dX6_first_34 (i := 0) rfl rfl ?_
          refine J_getR (b := o + 35) hx fl_X6_34 cl_X6 dX6_first_35 hC.o (by decide) rfl hC.r4 ?_
          refine J_aload_n hx dX6_first_38 (i := 0) rfl rfl ?_
          refine J_getR (b := o + 1) hx fl_X6_10 cl_X6 dX6_first_39 hC.o (by decide) rfl hC.r0 ?_
          refine J_iload_n hx dX6_first_42 (i := 1) rfl rfl ?_
          refine J_invV (As := [vR (o + 1), vI (2)]) (st := []) hx lk_X6_286 okX0_valueFrom dX6_first_43 hC.k35 (by decide) rfl rfl rfl (Nat.le_of_ble_eq_true rfl) (Nat.zero_add _).symm (Nat.zero_add _).symm rfl (c_X0_valueFrom_2 hC hN hW ?_)
          intro M1 hN1 hf1 hch
          refine J_pop hx dX6_first_46 rfl ?_
          refine J_aload_n hx dX6_first_47 (i := 0) rfl rfl ?_
          refine J_getR (b := o + 35) hx fl_X6_34 cl_X6 dX6_first_48 hC.o (by decide) rfl hC.r4 ?_
          refine J_getI2 (v := gmC (gmV 1) S.1) hx fl_X6_289 cl_X0 dX6_first_51 hC.k35 (by decide) rfl (hch (fun q9 => by unfold overY at *; omega)) ?_
          refine J_iret hx hr dX6_first_54 ?_
          exact hQ.to (v := gmC (gmV 1) S.1) (S := S) (by
            unfold a_first
            all_goals (try unfold overY at *)
            all_goals (try unfold mayQ at *)
            all_goals (try simp only [Int.toNat_natCast] at *)
            all_goals ((repeat' split) <;> first | rfl | (exfalso; omega) | (congr 1; omega) | (rw [show Int.toNat 2 = 2 from rfl]))) hC hN1 hf1
      · refine J_aload_n hx dX6_first_27 (i := 0) rfl rfl ?_
        refine J_bipush (v := -5) hx dX6_first_28 (by decide) ?_
        refine J_invV (As := [vI ((-5))]) (st := []) hx lk_X6_67 okX6_refuse dX6_first_30 hC.o (by decide) rfl rfl rfl (Nat.le_of_ble_eq_true rfl) (Nat.zero_add _).symm (Nat.zero_add _).symm rfl (c_X6_refuse hC hN hW (k := 3) (by decide) ?_)
        intro M1 hN1 hf1
        refine J_iret hx hr dX6_first_33 ?_
        exact hQ.to (v := -((3 + 2 : Nat) : Int)) (S := rfS S 3) (by
          unfold a_first
          all_goals (try unfold overY at *)
          all_goals (try unfold mayQ at *)
          all_goals (try simp only [Int.toNat_natCast] at *)
          all_goals ((repeat' split) <;> first | rfl | (exfalso; omega) | (congr 1; omega))) hC hN1 hf1
    · refine J_aload_n hx dX6_first_10 (i := 0) rfl rfl ?_
      refine J_bipush (v := -2) hx dX6_first_11 (by decide) ?_
      refine J_invV (As := [vI ((-2))]) (st := []) hx lk_X6_67 okX6_refuse dX6_first_13 hC.o (by decide) rfl rfl rfl (Nat.le_of_ble_eq_true rfl) (Nat.zero_add _).symm (Nat.zero_add _).symm rfl (c_X6_refuse hC hN hW (k := 0) (by decide) ?_)
      intro M1 hN1 hf1
      refine J_iret hx hr dX6_first_16 ?_
      exact hQ.to (v := -((0 + 2 : Nat) : Int)) (S := rfS S 0) (by
        unfold a_first
        all_goals (try unfold overY at *)
        all_goals (try unfold mayQ at *)
        all_goals (try simp only [Int.toNat_natCast] at *)
        all_goals ((repeat' split) <;> first | rfl | (exfalso; omega) | (congr 1; omega))) hC hN1 hf1

