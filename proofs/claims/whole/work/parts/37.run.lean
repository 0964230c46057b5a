def a_run (S : ST) (p j e : Int) : Int × ST := if ¬ (0 ≤ p ∧ p < S.1.n ∧ 0 ≤ j ∧ j + 1 < (S.1.ch S.1.tn).length ∧ 0 ≤ e ∧ e ≤ 1) then rA S 0 else if S.1.co p.toNat = S.1.tn ∨ ((S.1.ch 0).length < 2 ∨ (S.1.ch 1).length < 2 ∨ S.1.sc 4 ≤ S.1.sc 6) then rA S 3 else if strl S.1 (S.1.ch S.1.tn) j.toNat < force S.1 p.toNat + drwS (nxtS (S.1.sc 7)) (S.1.sc 2) then (1, yS S (runT (drawn S.1) p.toNat j.toNat (takenY S.1 j.toNat e.toNat))) else (0, yS S (runH (drawn S.1) p.toNat j.toNat))
set_option maxHeartbeats 4000000 in
theorem c_X6_run {g : WG} {d : Nat} {T : TT} {M : MM} {o sz : Nat} {S : ST} {Q : MVal → TT → MM → Nat → Prop} (hC : CT T o) (hN : CN M o S) (hW : WFS S) {p j e : Int} (h_p : -2147483648 ≤ p ∧ p ≤ 2147483647) (h_j : -2147483648 ≤ j ∧ j ≤ 2147483647) (h_e : -2147483648 ≤ e ∧ e ≤ 2147483647) (hQ : CQ o T M sz Q (a_run S p j e)) : Ct g (d + 5) mX6_run [vR (o), vI (p), vI (j), vI (e)] T M sz 0 0 Q := by
  refine Ct_of2 (ls := [vR (o), vI (p), vI (j), vI (e)]) okX6_run rfl (Nat.le_of_ble_eq_true rfl) rfl ?_
  intro x hx hr hnm
  have hn8 := hW.y.n8
  have ht2 := hW.y.tn2
  have hl8 := hW.y.len8 ht2
  refine J_aload_n hx dX6_run_0 (i := 0) rfl rfl ?_
  refine J_getR (b := o + 1) hx fl_X6_10 cl_X6 dX6_run_1 hC.o (by decide) rfl hC.r0 ?_
  refine J_iload_n hx dX6_run_4 (i := 1) rfl rfl ?_
  refine J_invV (As := [vI (p)]) (st := []) hx lk_X6_111 okX5_has dX6_run_5 hC.y0.o (by decide) rfl rfl rfl (Nat.le_of_ble_eq_true rfl) (Nat.zero_add _).symm (Nat.zero_add _).symm rfl (c_X5_has hC.y0 hN.y hW.y (one := p) ?_)
  intro v1 hv1
  refine J_if_eq (tgt := 38) hx dX6_run_8 (by decide) (fun c2 => ?_) (fun c2 => ?_)
  · refine J_aload_n hx dX6_run_38 (i := 0) rfl rfl ?_
    refine J_bipush (v := -2) hx dX6_run_39 (by decide) ?_
    refine J_invV (As := [vI ((-2))]) (st := []) hx lk_X6_67 okX6_refuse dX6_run_41 hC.o (by decide) rfl rfl rfl (Nat.le_of_ble_eq_true rfl) (Nat.zero_add _).symm (Nat.zero_add _).symm rfl (c_X6_refuse hC hN hW (k := 0) (by decide) ?_)
    intro M1 hN1 hf1
    refine J_iret hx hr dX6_run_44 ?_
    exact hQ.to (v := -((0 + 2 : Nat) : Int)) (S := rfS S 0) (by
      unfold a_run
      all_goals (try unfold overY at *)
      all_goals (try unfold mayQ at *)
      all_goals (try simp only [Int.toNat_natCast] at *)
      all_goals ((repeat' split) <;> first | rfl | (exfalso; omega) | (congr 1; omega))) hC hN1 hf1
  · refine J_aload_n hx dX6_run_11 (i := 0) rfl rfl ?_
    refine J_getR (b := o + 1) hx fl_X6_10 cl_X6 dX6_run_12 hC.o (by decide) rfl hC.r0 ?_
    refine J_aload_n hx dX6_run_15 (i := 0) rfl rfl ?_
    refine J_getR (b := o + 1) hx fl_X6_10 cl_X6 dX6_run_16 hC.o (by decide) rfl hC.r0 ?_
    refine J_getI2 (v := ((S.1.tn : Nat) : Int)) hx fl_X6_169 cl_X5 dX6_run_19 hC.y0.o (by decide) rfl (hN.y.tn hW.y) ?_
    have rg3 := hW.y.tn2
    refine J_iload_n hx dX6_run_22 (i := 2) rfl rfl ?_
    refine J_invV (As := [vI (((S.1.tn : Nat) : Int)), vI (j)]) (st := []) hx lk_X6_205 okX5_hasJoint dX6_run_23 hC.y0.o (by decide) rfl rfl rfl (Nat.le_of_ble_eq_true rfl) (Nat.zero_add _).symm (Nat.zero_add _).symm rfl (c_X5_hasJoint hC.y0 hN.y hW.y (c := S.1.tn) (by omega) (k := j) ?_)
    intro v4 hv4
    refine J_if_eq (tgt := 38) hx dX6_run_26 (by decide) (fun c5 => ?_) (fun c5 => ?_)
    · refine J_aload_n hx dX6_run_38 (i := 0) rfl rfl ?_
      refine J_bipush (v := -2) hx dX6_run_39 (by decide) ?_
      refine J_invV (As := [vI ((-2))]) (st := []) hx lk_X6_67 okX6_refuse dX6_run_41 hC.o (by decide) rfl rfl rfl (Nat.le_of_ble_eq_true rfl) (Nat.zero_add _).symm (Nat.zero_add _).symm rfl (c_X6_refuse hC hN hW (k := 0) (by decide) ?_)
      intro M1 hN1 hf1
      refine J_iret hx hr dX6_run_44 ?_
      exact hQ.to (v := -((0 + 2 : Nat) : Int)) (S := rfS S 0) (by
        unfold a_run
        all_goals (try unfold overY at *)
        all_goals (try unfold mayQ at *)
        all_goals (try simp only [Int.toNat_natCast] at *)
        all_goals ((repeat' split) <;> first | rfl | (exfalso; omega) | (congr 1; omega))) hC hN1 hf1
    · refine J_iload_n hx dX6_run_29 (i := 3) rfl rfl ?_
      refine J_if_lt (tgt := 38) hx dX6_run_30 (by decide) (fun c6 => ?_) (fun c6 => ?_)
      · refine J_aload_n hx dX6_run_38 (i := 0) rfl rfl ?_
        refine J_bipush (v := -2) hx dX6_run_39 (by decide) ?_
        refine J_invV (As := [vI ((-2))]) (st := []) hx lk_X6_67 okX6_refuse dX6_run_41 hC.o (by decide) rfl rfl rfl (Nat.le_of_ble_eq_true rfl) (Nat.zero_add _).symm (Nat.zero_add _).symm rfl (c_X6_refuse hC hN hW (k := 0) (by decide) ?_)
        intro M1 hN1 hf1
        refine J_iret hx hr dX6_run_44 ?_
        exact hQ.to (v := -((0 + 2 : Nat) : Int)) (S := rfS S 0) (by
          unfold a_run
          all_goals (try unfold overY at *)
          all_goals (try unfold mayQ at *)
          all_goals (try simp only [Int.toNat_natCast] at *)
          all_goals ((repeat' split) <;> first | rfl | (exfalso; omega) | (congr 1; omega))) hC hN1 hf1
      · refine J_iload_n hx dX6_run_33 (i := 3) rfl rfl ?_
        refine J_iconst (v := 1) hx dX6_run_34 (by decide) ?_
        refine J_icmp_le (tgt := 45) hx dX6_run_35 (by decide) (fun c7 => ?_) (fun c7 => ?_)
        · obtain ⟨pN, rfl⟩ : ∃ z : Nat, p = ((z : Nat) : Int) := ⟨p.toNat, by omega⟩
          refine J_aload_n hx dX6_run_45 (i := 0) rfl rfl ?_
          refine J_getR (b := o + 1) hx fl_X6_10 cl_X6 dX6_run_46 hC.o (by decide) rfl hC.r0 ?_
          refine J_iload_n hx dX6_run_49 (i := 1) rfl rfl ?_
          refine J_invV (As := [vI (((pN : Nat) : Int))]) (st := []) hx lk_X6_226 okX5_isCalled dX6_run_50 hC.y0.o (by decide) rfl rfl rfl (Nat.le_of_ble_eq_true rfl) (Nat.zero_add _).symm (Nat.zero_add _).symm rfl (c_X5_isCalled hC.y0 hN.y hW.y (p := pN) (by omega) ?_)
          intro v8 hv8
          refine J_if_eq (tgt := 66) hx dX6_run_53 (by decide) (fun c9 => ?_) (fun c9 => ?_)
          · refine J_aload_n hx dX6_run_66 (i := 0) rfl rfl ?_
            refine J_bipush (v := -5) hx dX6_run_67 (by decide) ?_
            refine J_invV (As := [vI ((-5))]) (st := []) hx lk_X6_67 okX6_refuse dX6_run_69 hC.o (by decide) rfl rfl rfl (Nat.le_of_ble_eq_true rfl) (Nat.zero_add _).symm (Nat.zero_add _).symm rfl (c_X6_refuse hC hN hW (k := 3) (by decide) ?_)
            intro M1 hN1 hf1
            refine J_iret hx hr dX6_run_72 ?_
            exact hQ.to (v := -((3 + 2 : Nat) : Int)) (S := rfS S 3) (by
              unfold a_run
              all_goals (try unfold overY at *)
              all_goals (try unfold mayQ at *)
              all_goals (try simp only [Int.toNat_natCast] at *)
              all_goals ((repeat' split) <;> first | rfl | (exfalso; omega) | (congr 1; omega))) hC hN1 hf1
          · refine J_aload_n hx dX6_run_56 (i := 0) rfl rfl ?_
            refine J_getR (b := o + 1) hx fl_X6_10 cl_X6 dX6_run_57 hC.o (by decide) rfl hC.r0 ?_
            refine J_invV (As := []) (st := []) hx lk_X6_229 okX5_isOver dX6_run_60 hC.y0.o (by decide) rfl rfl rfl (Nat.le_of_ble_eq_true rfl) (Nat.zero_add _).symm (Nat.zero_add _).symm rfl (c_X5_isOver hC.y0 hN.y hW.y  ?_)
            intro v10 hv10
            refine J_if_eq (tgt := 73) hx dX6_run_63 (by decide) (fun c11 => ?_) (fun c11 => ?_)
            · obtain ⟨jN, rfl⟩ : ∃ z : Nat, j = ((z : Nat) : Int) := ⟨j.toNat, by omega⟩
              obtain ⟨eN, rfl⟩ : ∃ z : Nat, e = ((z : Nat) : Int) := ⟨e.toNat, by omega⟩
              have hov : ¬ overY S.1 := fun q9 => by unfold overY at *; omega
              refine J_aload_n hx dX6_run_73 (i := 0) rfl rfl ?_
              refine J_getR (b := o + 1) hx fl_X6_10 cl_X6 dX6_run_74 hC.o (by decide) rfl hC.r0 ?_
              refine J_iload_n hx dX6_run_77 (i := 1) rfl rfl ?_
              refine J_iload_n hx dX6_run_78 (i := 2) rfl rfl ?_
              refine J_iload_n hx dX6_run_79 (i := 3) rfl rfl ?_
              refine J_invV (As := [vI (((pN : Nat) : Int)), vI (((jN : Nat) : Int)), vI (((eN : Nat) : Int))]) (st := []) hx lk_X6_310 okX5_runByDraw dX6_run_80 hC.y0.o (by decide) rfl rfl rfl (Nat.le_of_ble_eq_true rfl) (Nat.zero_add _).symm (Nat.zero_add _).symm rfl (c_X5_runByDraw hC.y0 hN.y hW.y (p := pN) (j := jN) (sd := eN) (by omega) (by omega) (by omega) hov (by omega) ?_ ?_)
              · intro ht M2 hN2 hf2
                unfold tornY at ht
                refine J_if_eq (tgt := 90) hx dX6_run_83 (by decide) (fun c9 => absurd c9 (by decide)) (fun _ => ?_)
                refine J_iconst (v := 1) hx dX6_run_86 (by decide) ?_
                refine J_goto (tgt := 91) hx dX6_run_87 (by decide) ?_
                refine J_iret hx hr dX6_run_91 ?_
                exact hQ.to (v := 1) (S := yS S (runT (drawn S.1) pN jN (takenY S.1 jN eN))) (by
                  unfold a_run
                  all_goals (try unfold overY at *)
                  all_goals (try unfold mayQ at *)
                  all_goals (try simp only [Int.toNat_natCast] at *)
                  all_goals ((repeat' split) <;> first | rfl | (exfalso; omega) | (congr 1; omega))) hC (hN.yard hN2 hf2) (fun b hb => hf2 b (by omega))
              · intro ht M2 hN2 hf2
                unfold tornY at ht
                refine J_if_eq (tgt := 90) hx dX6_run_83 (by decide) (fun _ => ?_) (fun c9 => absurd c9 (by decide))
                refine J_iconst (v := 0) hx dX6_run_90 (by decide) ?_
                refine J_iret hx hr dX6_run_91 ?_
                exact hQ.to (v := 0) (S := yS S (runH (drawn S.1) pN jN)) (by
                  unfold a_run
                  all_goals (try unfold overY at *)
                  all_goals (try unfold mayQ at *)
                  all_goals (try simp only [Int.toNat_natCast] at *)
                  all_goals ((repeat' split) <;> first | rfl | (exfalso; omega) | (congr 1; omega))) hC (hN.yard hN2 hf2) (fun b hb => hf2 b (by omega))
            · refine J_aload_n hx dX6_run_66 (i := 0) rfl rfl ?_
              refine J_bipush (v := -5) hx dX6_run_67 (by decide) ?_
              refine J_invV (As := [vI ((-5))]) (st := []) hx lk_X6_67 okX6_refuse dX6_run_69 hC.o (by decide) rfl rfl rfl (Nat.le_of_ble_eq_true rfl) (Nat.zero_add _).symm (Nat.zero_add _).symm rfl (c_X6_refuse hC hN hW (k := 3) (by decide) ?_)
              intro M1 hN1 hf1
              refine J_iret hx hr dX6_run_72 ?_
              exact hQ.to (v := -((3 + 2 : Nat) : Int)) (S := rfS S 3) (by
                unfold a_run
                all_goals (try unfold overY at *)
                all_goals (try unfold mayQ at *)
                all_goals (try simp only [Int.toNat_natCast] at *)
                all_goals ((repeat' split) <;> first | rfl | (exfalso; omega) | (congr 1; omega))) hC hN1 hf1
        · refine J_aload_n hx dX6_run_38 (i := 0) rfl rfl ?_
          refine J_bipush (v := -2) hx dX6_run_39 (by decide) ?_
          refine J_invV (As := [vI ((-2))]) (st := []) hx lk_X6_67 okX6_refuse dX6_run_41 hC.o (by decide) rfl rfl rfl (Nat.le_of_ble_eq_true rfl) (Nat.zero_add _).symm (Nat.zero_add _).symm rfl (c_X6_refuse hC hN hW (k := 0) (by decide) ?_)
          intro M1 hN1 hf1
          refine J_iret hx hr dX6_run_44 ?_
          exact hQ.to (v := -((0 + 2 : Nat) : Int)) (S := rfS S 0) (by
            unfold a_run
            all_goals (try unfold overY at *)
            all_goals (try unfold mayQ at *)
            all_goals (try simp only [Int.toNat_natCast] at *)
            all_goals ((repeat' split) <;> first | rfl | (exfalso; omega) | (congr 1; omega))) hC hN1 hf1

set_option maxHeartbeats 4000000 in
theorem c_X7_run {g : WG} {d : Nat} {T : TT} {M : MM} {r sz : Nat} {S : ST} {Q : MVal → TT → MM → Nat → Prop} (hT : MT T r) (hN : RN M r S) (hW : WFS S) {p j e : Int} (h_p : -2147483648 ≤ p ∧ p ≤ 2147483647) (h_j : -2147483648 ≤ j ∧ j ≤ 2147483647) (h_e : -2147483648 ≤ e ∧ e ≤ 2147483647) (hQ : RQ r T M sz Q (a_run S p j e)) : Ct g (d + 5) mX7_run [vR (r), vI (p), vI (j), vI (e)] T M sz 0 0 Q := by
  refine Ct_of2 (ls := [vR (r), vI (p), vI (j), vI (e)]) okX7_run rfl (Nat.le_of_ble_eq_true rfl) rfl ?_
  intro x hx hr hnm
  have hn8 := hW.y.n8
  have ht2 := hW.y.tn2
  have hl8 := hW.y.len8 ht2
  refine J_aload_n hx dX7_run_0 (i := 0) rfl rfl ?_
  refine J_iload_n hx dX7_run_1 (i := 1) rfl rfl ?_
  refine J_invV (As := [vI (p)]) (st := []) hx lk_X7_109 okX7_isOne dX7_run_2 hT.o (by decide) rfl rfl rfl (Nat.le_of_ble_eq_true rfl) (Nat.zero_add _).symm (Nat.zero_add _).symm rfl (c_X7_isOne hT hN.y hW.y (one := p) (by omega) ?_)
  intro v1 hv1
  refine J_if_eq (tgt := 30) hx dX7_run_5 (by decide) (fun c2 => ?_) (fun c2 => ?_)
  · refine J_aload_n hx dX7_run_30 (i := 0) rfl rfl ?_
    refine J_bipush (v := -2) hx dX7_run_31 (by decide) ?_
    refine J_invV (As := [vI ((-2))]) (st := []) hx lk_X7_99 okX7_refuse dX7_run_33 hT.o (by decide) rfl rfl rfl (Nat.le_of_ble_eq_true rfl) (Nat.zero_add _).symm (Nat.zero_add _).symm rfl (c_X7_refuseS hT hN hW (k := 0) (by decide) ?_)
    intro M1 hN1 hf1
    refine J_iret hx hr dX7_run_36 ?_
    exact hQ.to (v := -((0 + 2 : Nat) : Int)) (S := rfS S 0) (by
      unfold a_run
      all_goals (try unfold overY at *)
      all_goals (try unfold mayQ at *)
      all_goals (try simp only [Int.toNat_natCast] at *)
      all_goals ((repeat' split) <;> first | rfl | (exfalso; omega) | (congr 1; omega))) hN1 hf1
  · refine J_aload_n hx dX7_run_8 (i := 0) rfl rfl ?_
    refine J_aload_n hx dX7_run_9 (i := 0) rfl rfl ?_
    refine J_getI2 (v := ((S.1.tn : Nat) : Int)) hx fl_X7_148 cl_X7 dX7_run_10 hT.o (by decide) rfl (hN.y.tn hW.y) ?_
    have rg3 := hW.y.tn2
    refine J_iload_n hx dX7_run_13 (i := 2) rfl rfl ?_
    refine J_invV (As := [vI (((S.1.tn : Nat) : Int)), vI (j)]) (st := []) hx lk_X7_263 okX7_isJoint dX7_run_14 hT.o (by decide) rfl rfl rfl (Nat.le_of_ble_eq_true rfl) (Nat.zero_add _).symm (Nat.zero_add _).symm rfl (c_X7_isJoint hT hN.y hW.y (c := S.1.tn) (by omega) (k := j) ?_)
    intro v4 hv4
    refine J_if_eq (tgt := 30) hx dX7_run_17 (by decide) (fun c5 => ?_) (fun c5 => ?_)
    · refine J_aload_n hx dX7_run_30 (i := 0) rfl rfl ?_
      refine J_bipush (v := -2) hx dX7_run_31 (by decide) ?_
      refine J_invV (As := [vI ((-2))]) (st := []) hx lk_X7_99 okX7_refuse dX7_run_33 hT.o (by decide) rfl rfl rfl (Nat.le_of_ble_eq_true rfl) (Nat.zero_add _).symm (Nat.zero_add _).symm rfl (c_X7_refuseS hT hN hW (k := 0) (by decide) ?_)
      intro M1 hN1 hf1
      refine J_iret hx hr dX7_run_36 ?_
      exact hQ.to (v := -((0 + 2 : Nat) : Int)) (S := rfS S 0) (by
        unfold a_run
        all_goals (try unfold overY at *)
        all_goals (try unfold mayQ at *)
        all_goals (try simp only [Int.toNat_natCast] at *)
        all_goals ((repeat' split) <;> first | rfl | (exfalso; omega) | (congr 1; omega))) hN1 hf1
    · refine J_iload_n hx dX7_run_20 (i := 3) rfl rfl ?_
      refine J_i2l hx dX7_run_21 ?_
      refine J_lconst (v := 0) hx dX7_run_22 (by decide) ?_
      refine J_lconst (v := 1) hx dX7_run_23 (by decide) ?_
      refine J_invS (As := [vL (e), vL (0), vL (1)]) (st := []) hx lk_X7_85 okX7_in dX7_run_24 rfl rfl (Nat.le_of_ble_eq_true rfl) (Nat.zero_add _).symm (Nat.zero_add _).symm rfl (c_X7_in (a := e) (lo := 0) (hi := 1) ?_)
      intro v6 hv6
      refine J_if_ne (tgt := 37) hx dX7_run_27 (by decide) (fun c7 => ?_) (fun c7 => ?_)
      · obtain ⟨pN, rfl⟩ : ∃ z : Nat, p = ((z : Nat) : Int) := ⟨p.toNat, by omega⟩
        refine J_aload_n hx dX7_run_37 (i := 0) rfl rfl ?_
        refine J_iload_n hx dX7_run_38 (i := 1) rfl rfl ?_
        refine J_invV (As := [vI (((pN : Nat) : Int))]) (st := []) hx lk_X7_119 okX7_chainAt dX7_run_39 hT.o (by decide) rfl rfl rfl (Nat.le_of_ble_eq_true rfl) (Nat.zero_add _).symm (Nat.zero_add _).symm rfl (c_X7_chainAt hT hN.y hW.y (p := pN) (by omega) ?_)
        have rg8 := S.1.co2 pN
        refine J_aload_n hx dX7_run_42 (i := 0) rfl rfl ?_
        refine J_getI2 (v := ((S.1.tn : Nat) : Int)) hx fl_X7_148 cl_X7 dX7_run_43 hT.o (by decide) rfl (hN.y.tn hW.y) ?_
        have rg9 := hW.y.tn2
        refine J_icmp_eq (tgt := 56) hx dX7_run_46 (by decide) (fun c10 => ?_) (fun c10 => ?_)
        · refine J_aload_n hx dX7_run_56 (i := 0) rfl rfl ?_
          refine J_bipush (v := -5) hx dX7_run_57 (by decide) ?_
          refine J_invV (As := [vI ((-5))]) (st := []) hx lk_X7_99 okX7_refuse dX7_run_59 hT.o (by decide) rfl rfl rfl (Nat.le_of_ble_eq_true rfl) (Nat.zero_add _).symm (Nat.zero_add _).symm rfl (c_X7_refuseS hT hN hW (k := 3) (by decide) ?_)
          intro M1 hN1 hf1
          refine J_iret hx hr dX7_run_62 ?_
          exact hQ.to (v := -((3 + 2 : Nat) : Int)) (S := rfS S 3) (by
            unfold a_run
            all_goals (try unfold overY at *)
            all_goals (try unfold mayQ at *)
            all_goals (try simp only [Int.toNat_natCast] at *)
            all_goals ((repeat' split) <;> first | rfl | (exfalso; omega) | (congr 1; omega))) hN1 hf1
        · refine J_aload_n hx dX7_run_49 (i := 0) rfl rfl ?_
          refine J_invV (As := []) (st := []) hx lk_X7_208 okX7_isOver dX7_run_50 hT.o (by decide) rfl rfl rfl (Nat.le_of_ble_eq_true rfl) (Nat.zero_add _).symm (Nat.zero_add _).symm rfl (c_X7_isOver hT hN.y hW.y  ?_)
          intro v11 hv11
          refine J_if_eq (tgt := 63) hx dX7_run_53 (by decide) (fun c12 => ?_) (fun c12 => ?_)
          · obtain ⟨jN, rfl⟩ : ∃ z : Nat, j = ((z : Nat) : Int) := ⟨j.toNat, by omega⟩
            obtain ⟨eN, rfl⟩ : ∃ z : Nat, e = ((z : Nat) : Int) := ⟨e.toNat, by omega⟩
            have hov : ¬ overY S.1 := fun q9 => by unfold overY at *; omega
            refine J_aload_n hx dX7_run_63 (i := 0) rfl rfl ?_
            refine J_iload_n hx dX7_run_64 (i := 1) rfl rfl ?_
            refine J_iload_n hx dX7_run_65 (i := 2) rfl rfl ?_
            refine J_iload_n hx dX7_run_66 (i := 3) rfl rfl ?_
            refine J_invV (As := [vI (((pN : Nat) : Int)), vI (((jN : Nat) : Int)), vI (((eN : Nat) : Int))]) (st := []) hx lk_X7_357 okX7_goesRun dX7_run_67 hT.o (by decide) rfl rfl rfl (Nat.le_of_ble_eq_true rfl) (Nat.zero_add _).symm (Nat.zero_add _).symm rfl (c_X7_goesRun hT hN.y hW.y (p := pN) (j := jN) (sd := eN) (by omega) (by omega) (by omega) hov (by omega) ?_ ?_)
            · intro ht M2 hN2 hf2
              unfold tornY at ht
              refine J_if_eq (tgt := 77) hx dX7_run_70 (by decide) (fun c9 => absurd c9 (by decide)) (fun _ => ?_)
              refine J_iconst (v := 1) hx dX7_run_73 (by decide) ?_
              refine J_goto (tgt := 78) hx dX7_run_74 (by decide) ?_
              refine J_iret hx hr dX7_run_78 ?_
              exact hQ.to (v := 1) (S := yS S (runT (drawn S.1) pN jN (takenY S.1 jN eN))) (by
                unfold a_run
                all_goals (try unfold overY at *)
                all_goals (try unfold mayQ at *)
                all_goals (try simp only [Int.toNat_natCast] at *)
                all_goals ((repeat' split) <;> first | rfl | (exfalso; omega) | (congr 1; omega))) (hN.yard hN2 hf2) (fun b hb => hf2.out (by omega))
            · intro ht M2 hN2 hf2
              unfold tornY at ht
              refine J_if_eq (tgt := 77) hx dX7_run_70 (by decide) (fun _ => ?_) (fun c9 => absurd c9 (by decide))
              refine J_iconst (v := 0) hx dX7_run_77 (by decide) ?_
              refine J_iret hx hr dX7_run_78 ?_
              exact hQ.to (v := 0) (S := yS S (runH (drawn S.1) pN jN)) (by
                unfold a_run
                all_goals (try unfold overY at *)
                all_goals (try unfold mayQ at *)
                all_goals (try simp only [Int.toNat_natCast] at *)
                all_goals ((repeat' split) <;> first | rfl | (exfalso; omega) | (congr 1; omega))) (hN.yard hN2 hf2) (fun b hb => hf2.out (by omega))
          · refine J_aload_n hx dX7_run_56 (i := 0) rfl rfl ?_
            refine J_bipush (v := -5) hx dX7_run_57 (by decide) ?_
            refine J_invV (As := [vI ((-5))]) (st := []) hx lk_X7_99 okX7_refuse dX7_run_59 hT.o (by decide) rfl rfl rfl (Nat.le_of_ble_eq_true rfl) (Nat.zero_add _).symm (Nat.zero_add _).symm rfl (c_X7_refuseS hT hN hW (k := 3) (by decide) ?_)
            intro M1 hN1 hf1
            refine J_iret hx hr dX7_run_62 ?_
            exact hQ.to (v := -((3 + 2 : Nat) : Int)) (S := rfS S 3) (by
              unfold a_run
              all_goals (try unfold overY at *)
              all_goals (try unfold mayQ at *)
              all_goals (try simp only [Int.toNat_natCast] at *)
              all_goals ((repeat' split) <;> first | rfl | (exfalso; omega) | (congr 1; omega))) hN1 hf1
      · refine J_aload_n hx dX7_run_30 (i := 0) rfl rfl ?_
        refine J_bipush (v := -2) hx dX7_run_31 (by decide) ?_
        refine J_invV (As := [vI ((-2))]) (st := []) hx lk_X7_99 okX7_refuse dX7_run_33 hT.o (by decide) rfl rfl rfl (Nat.le_of_ble_eq_true rfl) (Nat.zero_add _).symm (Nat.zero_add _).symm rfl (c_X7_refuseS hT hN hW (k := 0) (by decide) ?_)
        intro M1 hN1 hf1
        refine J_iret hx hr dX7_run_36 ?_
        exact hQ.to (v := -((0 + 2 : Nat) : Int)) (S := rfS S 0) (by
          unfold a_run
          all_goals (try unfold overY at *)
          all_goals (try unfold mayQ at *)
          all_goals (try simp only [Int.toNat_natCast] at *)
          all_goals ((repeat' split) <;> first | rfl | (exfalso; omega) | (congr 1; omega))) hN1 hf1

