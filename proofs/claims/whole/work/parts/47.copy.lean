theorem shc_rg {S : ST} (hW : WFS S) {s : Nat} (hs : s < 8) : ((S.sh s).1 = -1 ∧ shc (S.sh s).1 = 0) ∨ ((0 ≤ (S.sh s).1 ∧ (S.sh s).1 ≤ 4) ∧ shc (S.sh s).1 = 1) ∨ (10 ≤ (S.sh s).1 ∧ shc (S.sh s).1 = 2) := by
  have h := hW.h hs
  unfold shc
  (repeat' split) <;> omega
theorem RN.moved {M M' : MM} {r : Nat} {S : ST} (h : RN M r S) (hF : ∀ a, a ≠ r + 13 → M' a = M a) : RN M' r S := by
  obtain ⟨h2, h4, ⟨h5, h6⟩, h7⟩ := h
  refine ⟨h2.same (fun a j h8 => by rw [hF _ (by omega)]), fun s hs => ?_, ⟨by rw [hF _ (by omega)]; exact h5, fun j hj => by rw [hF _ (by omega)]; exact h6 j hj⟩, fun j hj => by rw [hF _ (by omega)]; exact h7 j hj⟩
  rw [hF _ (by omega), hF _ (by omega), hF _ (by omega), hF _ (by omega), hF _ (by omega)]
  exact h4 s hs
def a_copy (S : ST) (p q i j n : Int) : Int × ST := if ¬ (0 ≤ p ∧ p < 8 ∧ 0 ≤ q ∧ q < 8) then rA S 0 else if 10 ≤ (S.sh p.toNat).1 ∨ 10 ≤ (S.sh q.toNat).1 ∨ ((S.sh p.toNat).1 ≠ -1 ∧ (S.sh q.toNat).1 ≠ -1 ∧ (S.sh p.toNat).1 ≠ (S.sh q.toNat).1) then rA S 1 else if (S.sh p.toNat).1 = -1 ∨ (S.sh q.toNat).1 = -1 then rA S 2 else if ¬ (0 ≤ i ∧ 0 ≤ j ∧ 0 ≤ n ∧ n ≤ (S.sh p.toNat).2.1 ∧ n ≤ (S.sh q.toNat).2.1 ∧ i ≤ (S.sh p.toNat).2.1 - n ∧ j ≤ (S.sh q.toNat).2.1 - n) then rA S 0 else (n, shS S q.toNat ((S.sh q.toNat).1, (S.sh q.toNat).2.1, fun k => if j.toNat ≤ k ∧ k < j.toNat + n.toNat then (S.sh p.toNat).2.2 (i.toNat + (k - j.toNat)) else (S.sh q.toNat).2.2 k))
set_option maxHeartbeats 4000000 in
theorem c_X6_copy {g : WG} {d : Nat} {T : TT} {M : MM} {o sz : Nat} {S : ST} {Q : MVal → TT → MM → Nat → Prop} (hC : CT T o) (hN : CN M o S) (hW : WFS S) {p q i j n : Int} (h_p : -2147483648 ≤ p ∧ p ≤ 2147483647) (h_q : -2147483648 ≤ q ∧ q ≤ 2147483647) (h_i : -2147483648 ≤ i ∧ i ≤ 2147483647) (h_j : -2147483648 ≤ j ∧ j ≤ 2147483647) (h_n : -2147483648 ≤ n ∧ n ≤ 2147483647) (hQ : CQ o T M sz Q (a_copy S p q i j n)) : Ct g (d + 2) mX6_copy [vR (o), vI (p), vI (q), vI (i), vI (j), vI (n)] T M sz 0 0 Q := by
  refine Ct_of2 (ls := [vR (o), vI (p), vI (q), vI (i), vI (j), vI (n), vU, vU, vU]) okX6_copy rfl (Nat.le_of_ble_eq_true rfl) rfl ?_
  intro x hx hr hnm
  refine J_iload_n hx dX6_copy_0 (i := 1) rfl rfl ?_
  refine J_invS (As := [vI (p)]) (st := []) hx lk_X6_63 okX6_isShelf dX6_copy_1 rfl rfl (Nat.le_of_ble_eq_true rfl) (Nat.zero_add _).symm (Nat.zero_add _).symm rfl (c_X6_isShelf (a := p) ?_)
  intro v1 hv1
  refine J_if_eq (tgt := 14) hx dX6_copy_4 (by decide) (fun c2 => ?_) (fun c2 => ?_)
  · refine J_aload_n hx dX6_copy_14 (i := 0) rfl rfl ?_
    refine J_bipush (v := -2) hx dX6_copy_15 (by decide) ?_
    refine J_invV (As := [vI ((-2))]) (st := []) hx lk_X6_67 okX6_refuse dX6_copy_17 hC.o (by decide) rfl rfl rfl (Nat.le_of_ble_eq_true rfl) (Nat.zero_add _).symm (Nat.zero_add _).symm rfl (c_X6_refuse hC hN hW (k := 0) (by decide) ?_)
    intro M1 hN1 hf1
    refine J_iret hx hr dX6_copy_20 ?_
    exact hQ.to (v := -((0 + 2 : Nat) : Int)) (S := rfS S 0) (by
      unfold a_copy
      all_goals (try unfold overY at *)
      all_goals (try unfold mayQ at *)
      all_goals (try simp only [Int.toNat_natCast] at *)
      all_goals ((repeat' split) <;> first | rfl | (exfalso; omega) | (congr 1; omega))) hC hN1 hf1
  · refine J_iload_n hx dX6_copy_7 (i := 2) rfl rfl ?_
    refine J_invS (As := [vI (q)]) (st := []) hx lk_X6_63 okX6_isShelf dX6_copy_8 rfl rfl (Nat.le_of_ble_eq_true rfl) (Nat.zero_add _).symm (Nat.zero_add _).symm rfl (c_X6_isShelf (a := q) ?_)
    intro v3 hv3
    refine J_if_ne (tgt := 21) hx dX6_copy_11 (by decide) (fun c4 => ?_) (fun c4 => ?_)
    · obtain ⟨pN, rfl⟩ : ∃ z : Nat, p = ((z : Nat) : Int) := ⟨p.toNat, by omega⟩
      obtain ⟨qN, rfl⟩ : ∃ z : Nat, q = ((z : Nat) : Int) := ⟨q.toNat, by omega⟩
      refine J_aload_n hx dX6_copy_21 (i := 0) rfl rfl ?_
      refine J_getR (b := o + 65) hx fl_X6_54 cl_X6 dX6_copy_22 hC.o (by decide) rfl hC.r7 ?_
      refine J_iload_n hx dX6_copy_25 (i := 1) rfl rfl ?_
      refine J_aald (b := o + 67 + 2 * pN) hx pN dX6_copy_26 hC.k65 (by decide) (by omega) (by rw [hC.n65]; omega) (hC.sre (by omega)) ?_
      refine J_astore (lsn := [vR (o), vI (((pN : Nat) : Int)), vI (((qN : Nat) : Int)), vI (i), vI (j), vI (n), vR (o + 67 + 2 * pN), vU, vU]) hx dX6_copy_27 (Nat.le_of_ble_eq_true rfl) rfl rfl ?_
      refine J_aload_n hx dX6_copy_29 (i := 0) rfl rfl ?_
      refine J_getR (b := o + 65) hx fl_X6_54 cl_X6 dX6_copy_30 hC.o (by decide) rfl hC.r7 ?_
      refine J_iload_n hx dX6_copy_33 (i := 2) rfl rfl ?_
      refine J_aald (b := o + 67 + 2 * qN) hx qN dX6_copy_34 hC.k65 (by decide) (by omega) (by rw [hC.n65]; omega) (hC.sre (by omega)) ?_
      refine J_astore (lsn := [vR (o), vI (((pN : Nat) : Int)), vI (((qN : Nat) : Int)), vI (i), vI (j), vI (n), vR (o + 67 + 2 * pN), vR (o + 67 + 2 * qN), vU]) hx dX6_copy_35 (Nat.le_of_ble_eq_true rfl) rfl rfl ?_
      refine J_aload hx dX6_copy_37 rfl ?_
      refine J_getI2 (v := (S.sh pN).1) hx fl_X6_87 cl_X3 dX6_copy_39 (hC.skd (by omega)) (by decide) rfl (hN.hd (by omega)) ?_
      have rg5 := hW.h (s := pN) (by omega)
      refine J_iconst (v := -1) hx dX6_copy_42 (by decide) ?_
      refine J_icmp_eq (tgt := 55) hx dX6_copy_43 (by decide) (fun c6 => ?_) (fun c6 => ?_)
      · refine J_iconst (v := 1) hx dX6_copy_55 (by decide) ?_
        refine J_goto (tgt := 60) hx dX6_copy_56 (by decide) ?_
        refine J_istore (lsn := [vR (o), vI (((pN : Nat) : Int)), vI (((qN : Nat) : Int)), vI (i), vI (j), vI (n), vR (o + 67 + 2 * pN), vR (o + 67 + 2 * qN), vI (1)]) hx dX6_copy_60 (Nat.le_of_ble_eq_true rfl) rfl rfl ?_
        refine J_aload hx dX6_copy_62 rfl ?_
        refine J_invV (As := []) (st := []) hx lk_X6_90 okX3_isSomebody dX6_copy_64 (hC.skd (by omega)) (by decide) rfl rfl rfl (Nat.le_of_ble_eq_true rfl) (Nat.zero_add _).symm (Nat.zero_add _).symm rfl (c_X3_isSomebody (hC.sht (by omega)) (hN.hd (s := pN) (by omega)) ?_)
        intro v7 hv7
        have rg8 := hW.h (s := pN) (by omega)
        refine J_if_ne (tgt := 96) hx dX6_copy_67 (by decide) (fun c9 => ?_) (fun c9 => ?_)
        · refine J_aload_n hx dX6_copy_96 (i := 0) rfl rfl ?_
          refine J_bipush (v := -3) hx dX6_copy_97 (by decide) ?_
          refine J_invV (As := [vI ((-3))]) (st := []) hx lk_X6_67 okX6_refuse dX6_copy_99 hC.o (by decide) rfl rfl rfl (Nat.le_of_ble_eq_true rfl) (Nat.zero_add _).symm (Nat.zero_add _).symm rfl (c_X6_refuse hC hN hW (k := 1) (by decide) ?_)
          intro M1 hN1 hf1
          refine J_iret hx hr dX6_copy_102 ?_
          exact hQ.to (v := -((1 + 2 : Nat) : Int)) (S := rfS S 1) (by
            unfold a_copy
            all_goals (try unfold overY at *)
            all_goals (try unfold mayQ at *)
            all_goals (try simp only [Int.toNat_natCast] at *)
            all_goals ((repeat' split) <;> first | rfl | (exfalso; omega) | (congr 1; omega))) hC hN1 hf1
        · refine J_aload hx dX6_copy_70 rfl ?_
          refine J_invV (As := []) (st := []) hx lk_X6_90 okX3_isSomebody dX6_copy_72 (hC.skd (by omega)) (by decide) rfl rfl rfl (Nat.le_of_ble_eq_true rfl) (Nat.zero_add _).symm (Nat.zero_add _).symm rfl (c_X3_isSomebody (hC.sht (by omega)) (hN.hd (s := qN) (by omega)) ?_)
          intro v10 hv10
          have rg11 := hW.h (s := qN) (by omega)
          refine J_if_ne (tgt := 96) hx dX6_copy_75 (by decide) (fun c12 => ?_) (fun c12 => ?_)
          · refine J_aload_n hx dX6_copy_96 (i := 0) rfl rfl ?_
            refine J_bipush (v := -3) hx dX6_copy_97 (by decide) ?_
            refine J_invV (As := [vI ((-3))]) (st := []) hx lk_X6_67 okX6_refuse dX6_copy_99 hC.o (by decide) rfl rfl rfl (Nat.le_of_ble_eq_true rfl) (Nat.zero_add _).symm (Nat.zero_add _).symm rfl (c_X6_refuse hC hN hW (k := 1) (by decide) ?_)
            intro M1 hN1 hf1
            refine J_iret hx hr dX6_copy_102 ?_
            exact hQ.to (v := -((1 + 2 : Nat) : Int)) (S := rfS S 1) (by
              unfold a_copy
              all_goals (try unfold overY at *)
              all_goals (try unfold mayQ at *)
              all_goals (try simp only [Int.toNat_natCast] at *)
              all_goals ((repeat' split) <;> first | rfl | (exfalso; omega) | (congr 1; omega))) hC hN1 hf1
          · refine J_iload hx dX6_copy_78 rfl ?_
            refine J_if_ne (tgt := 103) hx dX6_copy_80 (by decide) (fun _ => ?_) (fun c9 => absurd c9 (by decide))
            refine J_iload hx dX6_copy_103 rfl ?_
            refine J_if_eq (tgt := 115) hx dX6_copy_105 (by decide) (fun c9 => absurd c9 (by decide)) (fun _ => ?_)
            refine J_aload_n hx dX6_copy_108 (i := 0) rfl rfl ?_
            refine J_bipush (v := -4) hx dX6_copy_109 (by decide) ?_
            refine J_invV (As := [vI ((-4))]) (st := []) hx lk_X6_67 okX6_refuse dX6_copy_111 hC.o (by decide) rfl rfl rfl (Nat.le_of_ble_eq_true rfl) (Nat.zero_add _).symm (Nat.zero_add _).symm rfl (c_X6_refuse hC hN hW (k := 2) (by decide) ?_)
            intro M1 hN1 hf1
            refine J_iret hx hr dX6_copy_114 ?_
            exact hQ.to (v := -((2 + 2 : Nat) : Int)) (S := rfS S 2) (by
              unfold a_copy
              all_goals (try unfold overY at *)
              all_goals (try unfold mayQ at *)
              all_goals (try simp only [Int.toNat_natCast] at *)
              all_goals ((repeat' split) <;> first | rfl | (exfalso; omega) | (congr 1; omega))) hC hN1 hf1
      · refine J_aload hx dX6_copy_46 rfl ?_
        refine J_getI2 (v := (S.sh qN).1) hx fl_X6_87 cl_X3 dX6_copy_48 (hC.skd (by omega)) (by decide) rfl (hN.hd (by omega)) ?_
        have rg15 := hW.h (s := qN) (by omega)
        refine J_iconst (v := -1) hx dX6_copy_51 (by decide) ?_
        refine J_icmp_ne (tgt := 59) hx dX6_copy_52 (by decide) (fun c16 => ?_) (fun c16 => ?_)
        · refine J_iconst (v := 0) hx dX6_copy_59 (by decide) ?_
          refine J_istore (lsn := [vR (o), vI (((pN : Nat) : Int)), vI (((qN : Nat) : Int)), vI (i), vI (j), vI (n), vR (o + 67 + 2 * pN), vR (o + 67 + 2 * qN), vI (0)]) hx dX6_copy_60 (Nat.le_of_ble_eq_true rfl) rfl rfl ?_
          refine J_aload hx dX6_copy_62 rfl ?_
          refine J_invV (As := []) (st := []) hx lk_X6_90 okX3_isSomebody dX6_copy_64 (hC.skd (by omega)) (by decide) rfl rfl rfl (Nat.le_of_ble_eq_true rfl) (Nat.zero_add _).symm (Nat.zero_add _).symm rfl (c_X3_isSomebody (hC.sht (by omega)) (hN.hd (s := pN) (by omega)) ?_)
          intro v17 hv17
          have rg18 := hW.h (s := pN) (by omega)
          refine J_if_ne (tgt := 96) hx dX6_copy_67 (by decide) (fun c19 => ?_) (fun c19 => ?_)
          · refine J_aload_n hx dX6_copy_96 (i := 0) rfl rfl ?_
            refine J_bipush (v := -3) hx dX6_copy_97 (by decide) ?_
            refine J_invV (As := [vI ((-3))]) (st := []) hx lk_X6_67 okX6_refuse dX6_copy_99 hC.o (by decide) rfl rfl rfl (Nat.le_of_ble_eq_true rfl) (Nat.zero_add _).symm (Nat.zero_add _).symm rfl (c_X6_refuse hC hN hW (k := 1) (by decide) ?_)
            intro M1 hN1 hf1
            refine J_iret hx hr dX6_copy_102 ?_
            exact hQ.to (v := -((1 + 2 : Nat) : Int)) (S := rfS S 1) (by
              unfold a_copy
              all_goals (try unfold overY at *)
              all_goals (try unfold mayQ at *)
              all_goals (try simp only [Int.toNat_natCast] at *)
              all_goals ((repeat' split) <;> first | rfl | (exfalso; omega) | (congr 1; omega))) hC hN1 hf1
          · refine J_aload hx dX6_copy_70 rfl ?_
            refine J_invV (As := []) (st := []) hx lk_X6_90 okX3_isSomebody dX6_copy_72 (hC.skd (by omega)) (by decide) rfl rfl rfl (Nat.le_of_ble_eq_true rfl) (Nat.zero_add _).symm (Nat.zero_add _).symm rfl (c_X3_isSomebody (hC.sht (by omega)) (hN.hd (s := qN) (by omega)) ?_)
            intro v20 hv20
            have rg21 := hW.h (s := qN) (by omega)
            refine J_if_ne (tgt := 96) hx dX6_copy_75 (by decide) (fun c22 => ?_) (fun c22 => ?_)
            · refine J_aload_n hx dX6_copy_96 (i := 0) rfl rfl ?_
              refine J_bipush (v := -3) hx dX6_copy_97 (by decide) ?_
              refine J_invV (As := [vI ((-3))]) (st := []) hx lk_X6_67 okX6_refuse dX6_copy_99 hC.o (by decide) rfl rfl rfl (Nat.le_of_ble_eq_true rfl) (Nat.zero_add _).symm (Nat.zero_add _).symm rfl (c_X6_refuse hC hN hW (k := 1) (by decide) ?_)
              intro M1 hN1 hf1
              refine J_iret hx hr dX6_copy_102 ?_
              exact hQ.to (v := -((1 + 2 : Nat) : Int)) (S := rfS S 1) (by
                unfold a_copy
                all_goals (try unfold overY at *)
                all_goals (try unfold mayQ at *)
                all_goals (try simp only [Int.toNat_natCast] at *)
                all_goals ((repeat' split) <;> first | rfl | (exfalso; omega) | (congr 1; omega))) hC hN1 hf1
            · refine J_iload hx dX6_copy_78 rfl ?_
              refine J_if_ne (tgt := 103) hx dX6_copy_80 (by decide) (fun c9 => absurd c9 (by decide)) (fun _ => ?_)
              refine J_aload hx dX6_copy_83 rfl ?_
              refine J_getI2 (v := (S.sh pN).1) hx fl_X6_87 cl_X3 dX6_copy_85 (hC.skd (by omega)) (by decide) rfl (hN.hd (by omega)) ?_
              have rg24 := hW.h (s := pN) (by omega)
              refine J_aload hx dX6_copy_88 rfl ?_
              refine J_getI2 (v := (S.sh qN).1) hx fl_X6_87 cl_X3 dX6_copy_90 (hC.skd (by omega)) (by decide) rfl (hN.hd (by omega)) ?_
              have rg25 := hW.h (s := qN) (by omega)
              refine J_icmp_eq (tgt := 103) hx dX6_copy_93 (by decide) (fun c26 => ?_) (fun c26 => ?_)
              · refine J_iload hx dX6_copy_103 rfl ?_
                refine J_if_eq (tgt := 115) hx dX6_copy_105 (by decide) (fun _ => ?_) (fun c9 => absurd c9 (by decide))
                refine J_aload hx dX6_copy_115 rfl ?_
                refine J_iload_n hx dX6_copy_117 (i := 3) rfl rfl ?_
                refine J_iload hx dX6_copy_118 rfl ?_
                refine J_invV (As := [vI (i), vI (n)]) (st := []) hx lk_X6_94 okX3_hasStretch dX6_copy_120 (hC.skd (by omega)) (by decide) rfl rfl rfl (Nat.le_of_ble_eq_true rfl) (Nat.zero_add _).symm (Nat.zero_add _).symm rfl (c_X3_hasStretch (hC.sht (s := pN) (by omega)) (fr := i) (n := n) (hN.hz (by omega) (show rowH _ from ⟨by omega, by omega⟩)) (hW.z (by omega)) ?_)
                intro v28 hv28
                have rzv28 := hW.z (s := pN) (by omega)
                refine J_if_eq (tgt := 138) hx dX6_copy_123 (by decide) (fun c29 => ?_) (fun c29 => ?_)
                · refine J_aload_n hx dX6_copy_138 (i := 0) rfl rfl ?_
                  refine J_bipush (v := -2) hx dX6_copy_139 (by decide) ?_
                  refine J_invV (As := [vI ((-2))]) (st := []) hx lk_X6_67 okX6_refuse dX6_copy_141 hC.o (by decide) rfl rfl rfl (Nat.le_of_ble_eq_true rfl) (Nat.zero_add _).symm (Nat.zero_add _).symm rfl (c_X6_refuse hC hN hW (k := 0) (by decide) ?_)
                  intro M1 hN1 hf1
                  refine J_iret hx hr dX6_copy_144 ?_
                  exact hQ.to (v := -((0 + 2 : Nat) : Int)) (S := rfS S 0) (by
                    unfold a_copy
                    all_goals (try unfold overY at *)
                    all_goals (try unfold mayQ at *)
                    all_goals (try simp only [Int.toNat_natCast] at *)
                    all_goals ((repeat' split) <;> first | rfl | (exfalso; omega) | (congr 1; omega))) hC hN1 hf1
                · refine J_aload hx dX6_copy_126 rfl ?_
                  refine J_iload hx dX6_copy_128 rfl ?_
                  refine J_iload hx dX6_copy_130 rfl ?_
                  refine J_invV (As := [vI (j), vI (n)]) (st := []) hx lk_X6_94 okX3_hasStretch dX6_copy_132 (hC.skd (by omega)) (by decide) rfl rfl rfl (Nat.le_of_ble_eq_true rfl) (Nat.zero_add _).symm (Nat.zero_add _).symm rfl (c_X3_hasStretch (hC.sht (s := qN) (by omega)) (fr := j) (n := n) (hN.hz (by omega) (show rowH _ from ⟨by omega, by omega⟩)) (hW.z (by omega)) ?_)
                  intro v30 hv30
                  have rzv30 := hW.z (s := qN) (by omega)
                  refine J_if_ne (tgt := 145) hx dX6_copy_135 (by decide) (fun c31 => ?_) (fun c31 => ?_)
                  · obtain ⟨iN, rfl⟩ : ∃ z : Nat, i = ((z : Nat) : Int) := ⟨i.toNat, by omega⟩
                    obtain ⟨jN, rfl⟩ : ∃ z : Nat, j = ((z : Nat) : Int) := ⟨j.toNat, by omega⟩
                    obtain ⟨nN, rfl⟩ : ∃ z : Nat, n = ((z : Nat) : Int) := ⟨n.toNat, by omega⟩
                    refine J_aload hx dX6_copy_145 rfl ?_
                    refine J_getR (b := o + 67 + 2 * pN + 1) hx fl_X6_98 cl_X3 dX6_copy_147 (hC.skd (by omega)) (by decide) rfl (hC.sel (by omega)) ?_
                    refine J_iload_n hx dX6_copy_150 (i := 3) rfl rfl ?_
                    refine J_aload hx dX6_copy_151 rfl ?_
                    refine J_getR (b := o + 67 + 2 * qN + 1) hx fl_X6_98 cl_X3 dX6_copy_153 (hC.skd (by omega)) (by decide) rfl (hC.sel (by omega)) ?_
                    refine J_iload hx dX6_copy_156 rfl ?_
                    refine J_iload hx dX6_copy_158 rfl ?_
                    refine J_copyL hx iN jN nN lk_X6_102 dX6_copy_160 (hC.sak (s := pN) (by omega)) (hC.sak (s := qN) (by omega)) rfl rfl rfl (by rw [hC.san (by omega)]; omega) (by rw [hC.san (by omega)]; omega) (Nat.le_of_ble_eq_true rfl) ?_
                    refine J_iload hx dX6_copy_163 rfl ?_
                    refine J_iret hx hr dX6_copy_165 ?_
                    have hr9 : rowH (S.sh pN).1 ∧ rowH (S.sh qN).1 := ⟨⟨by omega, by omega⟩, ⟨by omega, by omega⟩⟩
                    exact hQ.to (v := ((nN : Nat) : Int)) (S := shS S qN ((S.sh qN).1, (S.sh qN).2.1, fun k => if jN ≤ k ∧ k < jN + nN then (S.sh pN).2.2 (iN + (k - jN)) else (S.sh qN).2.2 k)) (by
                      unfold a_copy
                      all_goals (try unfold overY at *)
                      all_goals (try unfold mayQ at *)
                      all_goals (try simp only [Int.toNat_natCast] at *)
                      all_goals ((repeat' split) <;> first | rfl | (exfalso; omega) | (congr 1; omega))) hC (hN.shelf (by omega) (by rw [cpM_row (by omega)]; exact hN.hd (by omega)) (fun _ => ⟨by rw [cpM_row (by omega)]; exact hN.hz (by omega) hr9.2, fun k9 h9 => by
                        dsimp only
                        by_cases e : jN ≤ k9 ∧ k9 < jN + nN
                        · rw [if_pos e, cpM_at e]; exact hN.he (by omega) hr9.1 (by omega)
                        · rw [if_neg e]; unfold cpM; rw [if_neg (fun z => e z.2)]; exact hN.he (by omega) hr9.2 h9⟩) (fun a9 h8 h9 => cpM_row h9)) (fun b9 h9 => cpM_row (by omega))
                  · refine J_aload_n hx dX6_copy_138 (i := 0) rfl rfl ?_
                    refine J_bipush (v := -2) hx dX6_copy_139 (by decide) ?_
                    refine J_invV (As := [vI ((-2))]) (st := []) hx lk_X6_67 okX6_refuse dX6_copy_141 hC.o (by decide) rfl rfl rfl (Nat.le_of_ble_eq_true rfl) (Nat.zero_add _).symm (Nat.zero_add _).symm rfl (c_X6_refuse hC hN hW (k := 0) (by decide) ?_)
                    intro M1 hN1 hf1
                    refine J_iret hx hr dX6_copy_144 ?_
                    exact hQ.to (v := -((0 + 2 : Nat) : Int)) (S := rfS S 0) (by
                      unfold a_copy
                      all_goals (try unfold overY at *)
                      all_goals (try unfold mayQ at *)
                      all_goals (try simp only [Int.toNat_natCast] at *)
                      all_goals ((repeat' split) <;> first | rfl | (exfalso; omega) | (congr 1; omega))) hC hN1 hf1
              · refine J_aload_n hx dX6_copy_96 (i := 0) rfl rfl ?_
                refine J_bipush (v := -3) hx dX6_copy_97 (by decide) ?_
                refine J_invV (As := [vI ((-3))]) (st := []) hx lk_X6_67 okX6_refuse dX6_copy_99 hC.o (by decide) rfl rfl rfl (Nat.le_of_ble_eq_true rfl) (Nat.zero_add _).symm (Nat.zero_add _).symm rfl (c_X6_refuse hC hN hW (k := 1) (by decide) ?_)
                intro M1 hN1 hf1
                refine J_iret hx hr dX6_copy_102 ?_
                exact hQ.to (v := -((1 + 2 : Nat) : Int)) (S := rfS S 1) (by
                  unfold a_copy
                  all_goals (try unfold overY at *)
                  all_goals (try unfold mayQ at *)
                  all_goals (try simp only [Int.toNat_natCast] at *)
                  all_goals ((repeat' split) <;> first | rfl | (exfalso; omega) | (congr 1; omega))) hC hN1 hf1
        · refine J_iconst (v := 1) hx dX6_copy_55 (by decide) ?_
          refine J_goto (tgt := 60) hx dX6_copy_56 (by decide) ?_
          refine J_istore (lsn := [vR (o), vI (((pN : Nat) : Int)), vI (((qN : Nat) : Int)), vI (i), vI (j), vI (n), vR (o + 67 + 2 * pN), vR (o + 67 + 2 * qN), vI (1)]) hx dX6_copy_60 (Nat.le_of_ble_eq_true rfl) rfl rfl ?_
          refine J_aload hx dX6_copy_62 rfl ?_
          refine J_invV (As := []) (st := []) hx lk_X6_90 okX3_isSomebody dX6_copy_64 (hC.skd (by omega)) (by decide) rfl rfl rfl (Nat.le_of_ble_eq_true rfl) (Nat.zero_add _).symm (Nat.zero_add _).symm rfl (c_X3_isSomebody (hC.sht (by omega)) (hN.hd (s := pN) (by omega)) ?_)
          intro v32 hv32
          have rg33 := hW.h (s := pN) (by omega)
          refine J_if_ne (tgt := 96) hx dX6_copy_67 (by decide) (fun c34 => ?_) (fun c34 => ?_)
          · refine J_aload_n hx dX6_copy_96 (i := 0) rfl rfl ?_
            refine J_bipush (v := -3) hx dX6_copy_97 (by decide) ?_
            refine J_invV (As := [vI ((-3))]) (st := []) hx lk_X6_67 okX6_refuse dX6_copy_99 hC.o (by decide) rfl rfl rfl (Nat.le_of_ble_eq_true rfl) (Nat.zero_add _).symm (Nat.zero_add _).symm rfl (c_X6_refuse hC hN hW (k := 1) (by decide) ?_)
            intro M1 hN1 hf1
            refine J_iret hx hr dX6_copy_102 ?_
            exact hQ.to (v := -((1 + 2 : Nat) : Int)) (S := rfS S 1) (by
              unfold a_copy
              all_goals (try unfold overY at *)
              all_goals (try unfold mayQ at *)
              all_goals (try simp only [Int.toNat_natCast] at *)
              all_goals ((repeat' split) <;> first | rfl | (exfalso; omega) | (congr 1; omega))) hC hN1 hf1
          · refine J_aload hx dX6_copy_70 rfl ?_
            refine J_invV (As := []) (st := []) hx lk_X6_90 okX3_isSomebody dX6_copy_72 (hC.skd (by omega)) (by decide) rfl rfl rfl (Nat.le_of_ble_eq_true rfl) (Nat.zero_add _).symm (Nat.zero_add _).symm rfl (c_X3_isSomebody (hC.sht (by omega)) (hN.hd (s := qN) (by omega)) ?_)
            intro v35 hv35
            have rg36 := hW.h (s := qN) (by omega)
            refine J_if_ne (tgt := 96) hx dX6_copy_75 (by decide) (fun c37 => ?_) (fun c37 => ?_)
            · refine J_aload_n hx dX6_copy_96 (i := 0) rfl rfl ?_
              refine J_bipush (v := -3) hx dX6_copy_97 (by decide) ?_
              refine J_invV (As := [vI ((-3))]) (st := []) hx lk_X6_67 okX6_refuse dX6_copy_99 hC.o (by decide) rfl rfl rfl (Nat.le_of_ble_eq_true rfl) (Nat.zero_add _).symm (Nat.zero_add _).symm rfl (c_X6_refuse hC hN hW (k := 1) (by decide) ?_)
              intro M1 hN1 hf1
              refine J_iret hx hr dX6_copy_102 ?_
              exact hQ.to (v := -((1 + 2 : Nat) : Int)) (S := rfS S 1) (by
                unfold a_copy
                all_goals (try unfold overY at *)
                all_goals (try unfold mayQ at *)
                all_goals (try simp only [Int.toNat_natCast] at *)
                all_goals ((repeat' split) <;> first | rfl | (exfalso; omega) | (congr 1; omega))) hC hN1 hf1
            · refine J_iload hx dX6_copy_78 rfl ?_
              refine J_if_ne (tgt := 103) hx dX6_copy_80 (by decide) (fun _ => ?_) (fun c9 => absurd c9 (by decide))
              refine J_iload hx dX6_copy_103 rfl ?_
              refine J_if_eq (tgt := 115) hx dX6_copy_105 (by decide) (fun c9 => absurd c9 (by decide)) (fun _ => ?_)
              refine J_aload_n hx dX6_copy_108 (i := 0) rfl rfl ?_
              refine J_bipush (v := -4) hx dX6_copy_109 (by decide) ?_
              refine J_invV (As := [vI ((-4))]) (st := []) hx lk_X6_67 okX6_refuse dX6_copy_111 hC.o (by decide) rfl rfl rfl (Nat.le_of_ble_eq_true rfl) (Nat.zero_add _).symm (Nat.zero_add _).symm rfl (c_X6_refuse hC hN hW (k := 2) (by decide) ?_)
              intro M1 hN1 hf1
              refine J_iret hx hr dX6_copy_114 ?_
              exact hQ.to (v := -((2 + 2 : Nat) : Int)) (S := rfS S 2) (by
                unfold a_copy
                all_goals (try unfold overY at *)
                all_goals (try unfold mayQ at *)
                all_goals (try simp only [Int.toNat_natCast] at *)
                all_goals ((repeat' split) <;> first | rfl | (exfalso; omega) | (congr 1; omega))) hC hN1 hf1
    · refine J_aload_n hx dX6_copy_14 (i := 0) rfl rfl ?_
      refine J_bipush (v := -2) hx dX6_copy_15 (by decide) ?_
      refine J_invV (As := [vI ((-2))]) (st := []) hx lk_X6_67 okX6_refuse dX6_copy_17 hC.o (by decide) rfl rfl rfl (Nat.le_of_ble_eq_true rfl) (Nat.zero_add _).symm (Nat.zero_add _).symm rfl (c_X6_refuse hC hN hW (k := 0) (by decide) ?_)
      intro M1 hN1 hf1
      refine J_iret hx hr dX6_copy_20 ?_
      exact hQ.to (v := -((0 + 2 : Nat) : Int)) (S := rfS S 0) (by
        unfold a_copy
        all_goals (try unfold overY at *)
        all_goals (try unfold mayQ at *)
        all_goals (try simp only [Int.toNat_natCast] at *)
        all_goals ((repeat' split) <;> first | rfl | (exfalso; omega) | (congr 1; omega))) hC hN1 hf1

