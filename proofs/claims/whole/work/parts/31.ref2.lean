set_option maxHeartbeats 4000000 in
theorem c_X7_one {g : WG} {d : Nat} {T : TT} {M : MM} {r sz : Nat} {S : ST} {Q : MVal → TT → MM → Nat → Prop} (hT : MT T r) (hN : RN M r S) (hW : WFS S) {c k gr w a : Int} (h_c : -2147483648 ≤ c ∧ c ≤ 2147483647) (h_k : -2147483648 ≤ k ∧ k ≤ 2147483647) (h_gr : -2147483648 ≤ gr ∧ gr ≤ 2147483647) (h_w : -2147483648 ≤ w ∧ w ≤ 2147483647) (h_a : -2147483648 ≤ a ∧ a ≤ 2147483647) (hQ : RQ r T M sz Q (a_one S c k gr w a)) : Ct g (d + 3) mX7_one [vR (r), vI (c), vI (k), vI (gr), vI (w), vI (a)] T M sz 0 0 Q := by
  refine Ct_of2 (ls := [vR (r), vI (c), vI (k), vI (gr), vI (w), vI (a)]) okX7_one rfl (Nat.le_of_ble_eq_true rfl) rfl ?_
  intro x hx hr hnm
  have hn8 := hW.y.n8
  have ht2 := hW.y.tn2
  have hl8 := hW.y.len8 ht2
  have htz := hW.t
  refine J_iload_n hx dX7_one_0 (i := 1) rfl rfl ?_
  refine J_i2l hx dX7_one_1 ?_
  refine J_lconst (v := 0) hx dX7_one_2 (by decide) ?_
  refine J_lconst (v := 1) hx dX7_one_3 (by decide) ?_
  refine J_invS (As := [vL (c), vL (0), vL (1)]) (st := []) hx lk_X7_85 okX7_in dX7_one_4 rfl rfl (Nat.le_of_ble_eq_true rfl) (Nat.zero_add _).symm (Nat.zero_add _).symm rfl (c_X7_in (a := c) (lo := 0) (hi := 1) ?_)
  intro v1 hv1
  refine J_if_eq (tgt := 60) hx dX7_one_7 (by decide) (fun c2 => ?_) (fun c2 => ?_)
  · refine J_aload_n hx dX7_one_60 (i := 0) rfl rfl ?_
    refine J_bipush (v := -2) hx dX7_one_61 (by decide) ?_
    refine J_invV (As := [vI ((-2))]) (st := []) hx lk_X7_99 okX7_refuse dX7_one_63 hT.o (by decide) rfl rfl rfl (Nat.le_of_ble_eq_true rfl) (Nat.zero_add _).symm (Nat.zero_add _).symm rfl (c_X7_refuseS hT hN hW (k := 0) (by decide) ?_)
    intro M1 hN1 hf1
    refine J_iret hx hr dX7_one_66 ?_
    exact hQ.to (v := -((0 + 2 : Nat) : Int)) (S := rfS S 0) (by
      unfold a_one
      all_goals (try unfold overY at *)
      all_goals (try unfold mayQ at *)
      all_goals (try simp only [Int.toNat_natCast] at *)
      all_goals ((repeat' split) <;> first | rfl | (exfalso; omega) | (congr 1; omega) | (congr 1 <;> omega))) hN1 hf1
  · refine J_iload_n hx dX7_one_10 (i := 2) rfl rfl ?_
    refine J_i2l hx dX7_one_11 ?_
    refine J_lconst (v := 0) hx dX7_one_12 (by decide) ?_
    refine J_ldc2 (v := 5) hx ct_X7_113 dX7_one_13 (by decide) ?_
    refine J_invS (As := [vL (k), vL (0), vL (5)]) (st := []) hx lk_X7_85 okX7_in dX7_one_16 rfl rfl (Nat.le_of_ble_eq_true rfl) (Nat.zero_add _).symm (Nat.zero_add _).symm rfl (c_X7_in (a := k) (lo := 0) (hi := 5) ?_)
    intro v3 hv3
    refine J_if_eq (tgt := 60) hx dX7_one_19 (by decide) (fun c4 => ?_) (fun c4 => ?_)
    · refine J_aload_n hx dX7_one_60 (i := 0) rfl rfl ?_
      refine J_bipush (v := -2) hx dX7_one_61 (by decide) ?_
      refine J_invV (As := [vI ((-2))]) (st := []) hx lk_X7_99 okX7_refuse dX7_one_63 hT.o (by decide) rfl rfl rfl (Nat.le_of_ble_eq_true rfl) (Nat.zero_add _).symm (Nat.zero_add _).symm rfl (c_X7_refuseS hT hN hW (k := 0) (by decide) ?_)
      intro M1 hN1 hf1
      refine J_iret hx hr dX7_one_66 ?_
      exact hQ.to (v := -((0 + 2 : Nat) : Int)) (S := rfS S 0) (by
        unfold a_one
        all_goals (try unfold overY at *)
        all_goals (try unfold mayQ at *)
        all_goals (try simp only [Int.toNat_natCast] at *)
        all_goals ((repeat' split) <;> first | rfl | (exfalso; omega) | (congr 1; omega) | (congr 1 <;> omega))) hN1 hf1
    · refine J_iload_n hx dX7_one_22 (i := 3) rfl rfl ?_
      refine J_i2l hx dX7_one_23 ?_
      refine J_lconst (v := 0) hx dX7_one_24 (by decide) ?_
      refine J_ldc2 (v := 20) hx ct_X7_129 dX7_one_25 (by decide) ?_
      refine J_invS (As := [vL (gr), vL (0), vL (20)]) (st := []) hx lk_X7_85 okX7_in dX7_one_28 rfl rfl (Nat.le_of_ble_eq_true rfl) (Nat.zero_add _).symm (Nat.zero_add _).symm rfl (c_X7_in (a := gr) (lo := 0) (hi := 20) ?_)
      intro v5 hv5
      refine J_if_eq (tgt := 60) hx dX7_one_31 (by decide) (fun c6 => ?_) (fun c6 => ?_)
      · refine J_aload_n hx dX7_one_60 (i := 0) rfl rfl ?_
        refine J_bipush (v := -2) hx dX7_one_61 (by decide) ?_
        refine J_invV (As := [vI ((-2))]) (st := []) hx lk_X7_99 okX7_refuse dX7_one_63 hT.o (by decide) rfl rfl rfl (Nat.le_of_ble_eq_true rfl) (Nat.zero_add _).symm (Nat.zero_add _).symm rfl (c_X7_refuseS hT hN hW (k := 0) (by decide) ?_)
        intro M1 hN1 hf1
        refine J_iret hx hr dX7_one_66 ?_
        exact hQ.to (v := -((0 + 2 : Nat) : Int)) (S := rfS S 0) (by
          unfold a_one
          all_goals (try unfold overY at *)
          all_goals (try unfold mayQ at *)
          all_goals (try simp only [Int.toNat_natCast] at *)
          all_goals ((repeat' split) <;> first | rfl | (exfalso; omega) | (congr 1; omega) | (congr 1 <;> omega))) hN1 hf1
      · refine J_iload hx dX7_one_34 rfl ?_
        refine J_i2l hx dX7_one_36 ?_
        refine J_lconst (v := 0) hx dX7_one_37 (by decide) ?_
        refine J_ldc2 (v := 20) hx ct_X7_129 dX7_one_38 (by decide) ?_
        refine J_invS (As := [vL (w), vL (0), vL (20)]) (st := []) hx lk_X7_85 okX7_in dX7_one_41 rfl rfl (Nat.le_of_ble_eq_true rfl) (Nat.zero_add _).symm (Nat.zero_add _).symm rfl (c_X7_in (a := w) (lo := 0) (hi := 20) ?_)
        intro v7 hv7
        refine J_if_eq (tgt := 60) hx dX7_one_44 (by decide) (fun c8 => ?_) (fun c8 => ?_)
        · refine J_aload_n hx dX7_one_60 (i := 0) rfl rfl ?_
          refine J_bipush (v := -2) hx dX7_one_61 (by decide) ?_
          refine J_invV (As := [vI ((-2))]) (st := []) hx lk_X7_99 okX7_refuse dX7_one_63 hT.o (by decide) rfl rfl rfl (Nat.le_of_ble_eq_true rfl) (Nat.zero_add _).symm (Nat.zero_add _).symm rfl (c_X7_refuseS hT hN hW (k := 0) (by decide) ?_)
          intro M1 hN1 hf1
          refine J_iret hx hr dX7_one_66 ?_
          exact hQ.to (v := -((0 + 2 : Nat) : Int)) (S := rfS S 0) (by
            unfold a_one
            all_goals (try unfold overY at *)
            all_goals (try unfold mayQ at *)
            all_goals (try simp only [Int.toNat_natCast] at *)
            all_goals ((repeat' split) <;> first | rfl | (exfalso; omega) | (congr 1; omega) | (congr 1 <;> omega))) hN1 hf1
        · refine J_iload hx dX7_one_47 rfl ?_
          refine J_i2l hx dX7_one_49 ?_
          refine J_lconst (v := 0) hx dX7_one_50 (by decide) ?_
          refine J_ldc2 (v := 9) hx ct_X7_131 dX7_one_51 (by decide) ?_
          refine J_invS (As := [vL (a), vL (0), vL (9)]) (st := []) hx lk_X7_85 okX7_in dX7_one_54 rfl rfl (Nat.le_of_ble_eq_true rfl) (Nat.zero_add _).symm (Nat.zero_add _).symm rfl (c_X7_in (a := a) (lo := 0) (hi := 9) ?_)
          intro v9 hv9
          refine J_if_ne (tgt := 67) hx dX7_one_57 (by decide) (fun c10 => ?_) (fun c10 => ?_)
          · refine J_aload_n hx dX7_one_67 (i := 0) rfl rfl ?_
            refine J_getI2 (v := ((S.1.n : Nat) : Int)) hx fl_X7_82 cl_X7 dX7_one_68 hT.o (by decide) rfl hN.y.pp ?_
            have rg11 := hW.y.n8
            refine J_bipush (v := 8) hx dX7_one_71 (by decide) ?_
            refine J_icmp_ne (tgt := 83) hx dX7_one_73 (by decide) (fun c12 => ?_) (fun c12 => ?_)
            · obtain ⟨cN, rfl⟩ : ∃ z : Nat, c = ((z : Nat) : Int) := ⟨c.toNat, by omega⟩
              refine J_aload_n hx dX7_one_83 (i := 0) rfl rfl ?_
              refine J_iload_n hx dX7_one_84 (i := 1) rfl rfl ?_
              refine J_iload_n hx dX7_one_85 (i := 2) rfl rfl ?_
              refine J_iload_n hx dX7_one_86 (i := 3) rfl rfl ?_
              refine J_iload hx dX7_one_87 rfl ?_
              refine J_iload hx dX7_one_89 rfl ?_
              refine J_invVv (As := [vI (((cN : Nat) : Int)), vI (k), vI (gr), vI (w), vI (a)]) (st := []) hx lk_X7_133 okX7_addOne dX7_one_91 hT.o (by decide) rfl rfl rfl (Nat.le_of_ble_eq_true rfl) (Nat.zero_add _).symm (Nat.zero_add _).symm rfl (c_X7_addOne hT hN.y hW.y (c := cN) (by omega) (by omega) ?_)
              intro M1 hN_1 hf1
              have hF1 := (FrN.rf (r := r) (M := M)).tr hf1
              refine J_aload_n hx dX7_one_94 (i := 0) rfl rfl ?_
              refine J_getI2 (v := ((S.1.n + 1 : Nat) : Int)) hx fl_X7_82 cl_X7 dX7_one_95 hT.o (by decide) rfl (hN_1.pp) ?_
              refine J_iconst (v := 1) hx dX7_one_98 (by decide) ?_
              refine J_isub (v := ((S.1.n : Nat) : Int)) hx dX7_one_99 (by rw [w32_id (by omega) (by omega)]; omega) ?_
              refine J_iret hx hr dX7_one_100 ?_
              exact hQ.to (v := ((S.1.n : Nat) : Int)) (S := yS S (addY S.1 cN k gr w a)) (by
                unfold a_one
                all_goals (try unfold overY at *)
                all_goals (try unfold mayQ at *)
                all_goals (try simp only [Int.toNat_natCast] at *)
                all_goals ((repeat' split) <;> first | rfl | (exfalso; omega) | (congr 1; omega) | (congr 1 <;> omega))) (hN.yard hN_1 hF1) (fun b hb => hF1.out (by omega))
            · refine J_aload_n hx dX7_one_76 (i := 0) rfl rfl ?_
              refine J_bipush (v := -6) hx dX7_one_77 (by decide) ?_
              refine J_invV (As := [vI ((-6))]) (st := []) hx lk_X7_99 okX7_refuse dX7_one_79 hT.o (by decide) rfl rfl rfl (Nat.le_of_ble_eq_true rfl) (Nat.zero_add _).symm (Nat.zero_add _).symm rfl (c_X7_refuseS hT hN hW (k := 4) (by decide) ?_)
              intro M1 hN1 hf1
              refine J_iret hx hr dX7_one_82 ?_
              exact hQ.to (v := -((4 + 2 : Nat) : Int)) (S := rfS S 4) (by
                unfold a_one
                all_goals (try unfold overY at *)
                all_goals (try unfold mayQ at *)
                all_goals (try simp only [Int.toNat_natCast] at *)
                all_goals ((repeat' split) <;> first | rfl | (exfalso; omega) | (congr 1; omega) | (congr 1 <;> omega))) hN1 hf1
          · refine J_aload_n hx dX7_one_60 (i := 0) rfl rfl ?_
            refine J_bipush (v := -2) hx dX7_one_61 (by decide) ?_
            refine J_invV (As := [vI ((-2))]) (st := []) hx lk_X7_99 okX7_refuse dX7_one_63 hT.o (by decide) rfl rfl rfl (Nat.le_of_ble_eq_true rfl) (Nat.zero_add _).symm (Nat.zero_add _).symm rfl (c_X7_refuseS hT hN hW (k := 0) (by decide) ?_)
            intro M1 hN1 hf1
            refine J_iret hx hr dX7_one_66 ?_
            exact hQ.to (v := -((0 + 2 : Nat) : Int)) (S := rfS S 0) (by
              unfold a_one
              all_goals (try unfold overY at *)
              all_goals (try unfold mayQ at *)
              all_goals (try simp only [Int.toNat_natCast] at *)
              all_goals ((repeat' split) <;> first | rfl | (exfalso; omega) | (congr 1; omega) | (congr 1 <;> omega))) hN1 hf1

set_option maxHeartbeats 4000000 in
theorem c_X7_tell {g : WG} {d : Nat} {T : TT} {M : MM} {r sz : Nat} {S : ST} {Q : MVal → TT → MM → Nat → Prop} (hT : MT T r) (hN : RN M r S) (hW : WFS S) {p w v : Int} (h_p : -2147483648 ≤ p ∧ p ≤ 2147483647) (h_w : -2147483648 ≤ w ∧ w ≤ 2147483647) (h_v : -2147483648 ≤ v ∧ v ≤ 2147483647) (hQ : RQ r T M sz Q (a_tell S p w v)) : Ct g (d + 3) mX7_tell [vR (r), vI (p), vI (w), vI (v)] T M sz 0 0 Q := by
  refine Ct_of2 (ls := [vR (r), vI (p), vI (w), vI (v), vU, vU]) okX7_tell rfl (Nat.le_of_ble_eq_true rfl) rfl ?_
  intro x hx hr hnm
  have hn8 := hW.y.n8
  have ht2 := hW.y.tn2
  have hl8 := hW.y.len8 ht2
  have htz := hW.t
  refine J_aload_n hx dX7_tell_0 (i := 0) rfl rfl ?_
  refine J_iload_n hx dX7_tell_1 (i := 1) rfl rfl ?_
  refine J_invV (As := [vI (p)]) (st := []) hx lk_X7_109 okX7_isOne dX7_tell_2 hT.o (by decide) rfl rfl rfl (Nat.le_of_ble_eq_true rfl) (Nat.zero_add _).symm (Nat.zero_add _).symm rfl (c_X7_isOne hT hN.y hW.y (one := p) (by omega) ?_)
  intro v1 hv1
  refine J_if_eq (tgt := 32) hx dX7_tell_5 (by decide) (fun c2 => ?_) (fun c2 => ?_)
  · refine J_aload_n hx dX7_tell_32 (i := 0) rfl rfl ?_
    refine J_bipush (v := -2) hx dX7_tell_33 (by decide) ?_
    refine J_invV (As := [vI ((-2))]) (st := []) hx lk_X7_99 okX7_refuse dX7_tell_35 hT.o (by decide) rfl rfl rfl (Nat.le_of_ble_eq_true rfl) (Nat.zero_add _).symm (Nat.zero_add _).symm rfl (c_X7_refuseS hT hN hW (k := 0) (by decide) ?_)
    intro M1 hN1 hf1
    refine J_iret hx hr dX7_tell_38 ?_
    exact hQ.to (v := -((0 + 2 : Nat) : Int)) (S := rfS S 0) (by
      unfold a_tell
      all_goals (try unfold overY at *)
      all_goals (try unfold mayQ at *)
      all_goals (try simp only [Int.toNat_natCast] at *)
      all_goals ((repeat' split) <;> first | rfl | (exfalso; omega) | (congr 1; omega) | (rcases (show w = 0 ∨ w = 1 ∨ w = 2 by omega) with rfl | rfl | rfl <;> first | rfl | (exfalso; omega)))) hN1 hf1
  · refine J_iload_n hx dX7_tell_8 (i := 2) rfl rfl ?_
    refine J_i2l hx dX7_tell_9 ?_
    refine J_lconst (v := 0) hx dX7_tell_10 (by decide) ?_
    refine J_ldc2 (v := 2) hx ct_X7_137 dX7_tell_11 (by decide) ?_
    refine J_invS (As := [vL (w), vL (0), vL (2)]) (st := []) hx lk_X7_85 okX7_in dX7_tell_14 rfl rfl (Nat.le_of_ble_eq_true rfl) (Nat.zero_add _).symm (Nat.zero_add _).symm rfl (c_X7_in (a := w) (lo := 0) (hi := 2) ?_)
    intro v3 hv3
    refine J_if_eq (tgt := 32) hx dX7_tell_17 (by decide) (fun c4 => ?_) (fun c4 => ?_)
    · refine J_aload_n hx dX7_tell_32 (i := 0) rfl rfl ?_
      refine J_bipush (v := -2) hx dX7_tell_33 (by decide) ?_
      refine J_invV (As := [vI ((-2))]) (st := []) hx lk_X7_99 okX7_refuse dX7_tell_35 hT.o (by decide) rfl rfl rfl (Nat.le_of_ble_eq_true rfl) (Nat.zero_add _).symm (Nat.zero_add _).symm rfl (c_X7_refuseS hT hN hW (k := 0) (by decide) ?_)
      intro M1 hN1 hf1
      refine J_iret hx hr dX7_tell_38 ?_
      exact hQ.to (v := -((0 + 2 : Nat) : Int)) (S := rfS S 0) (by
        unfold a_tell
        all_goals (try unfold overY at *)
        all_goals (try unfold mayQ at *)
        all_goals (try simp only [Int.toNat_natCast] at *)
        all_goals ((repeat' split) <;> first | rfl | (exfalso; omega) | (congr 1; omega) | (rcases (show w = 0 ∨ w = 1 ∨ w = 2 by omega) with rfl | rfl | rfl <;> first | rfl | (exfalso; omega)))) hN1 hf1
    · refine J_iload_n hx dX7_tell_20 (i := 3) rfl rfl ?_
      refine J_i2l hx dX7_tell_21 ?_
      refine J_lconst (v := 0) hx dX7_tell_22 (by decide) ?_
      refine J_ldc2 (v := 20) hx ct_X7_129 dX7_tell_23 (by decide) ?_
      refine J_invS (As := [vL (v), vL (0), vL (20)]) (st := []) hx lk_X7_85 okX7_in dX7_tell_26 rfl rfl (Nat.le_of_ble_eq_true rfl) (Nat.zero_add _).symm (Nat.zero_add _).symm rfl (c_X7_in (a := v) (lo := 0) (hi := 20) ?_)
      intro v5 hv5
      refine J_if_ne (tgt := 39) hx dX7_tell_29 (by decide) (fun c6 => ?_) (fun c6 => ?_)
      · obtain ⟨pN, rfl⟩ : ∃ z : Nat, p = ((z : Nat) : Int) := ⟨p.toNat, by omega⟩
        refine J_iload_n hx dX7_tell_39 (i := 2) rfl rfl ?_
        refine J_if_ne (tgt := 50) hx dX7_tell_40 (by decide) (fun c7 => ?_) (fun c7 => ?_)
        · refine J_iload_n hx dX7_tell_50 (i := 2) rfl rfl ?_
          refine J_iconst (v := 1) hx dX7_tell_51 (by decide) ?_
          refine J_icmp_ne (tgt := 62) hx dX7_tell_52 (by decide) (fun c8 => ?_) (fun c8 => ?_)
          · refine J_aload_n hx dX7_tell_62 (i := 0) rfl rfl ?_
            refine J_getR (b := r + 20) hx fl_X7_46 cl_X7 dX7_tell_63 hT.o (by decide) rfl hT.r13 ?_
            refine J_astore (lsn := [vR (r), vI (((pN : Nat) : Int)), vI (w), vI (v), vR (r + 20), vU]) hx dX7_tell_66 (Nat.le_of_ble_eq_true rfl) rfl rfl ?_
            refine J_aload hx dX7_tell_68 rfl ?_
            refine J_iload_n hx dX7_tell_70 (i := 1) rfl rfl ?_
            refine J_iald2 (v := S.1.att 3 pN) hx pN dX7_tell_71 hT.k20 (by omega) (hT.l20 (by omega)) (hN.y.ti (by omega)) ?_
            have rg9 := hW.y.ti (p := pN) (by omega)
            refine J_istore (lsn := [vR (r), vI (((pN : Nat) : Int)), vI (w), vI (v), vR (r + 20), vI (S.1.att 3 pN)]) hx dX7_tell_72 (Nat.le_of_ble_eq_true rfl) rfl rfl ?_
            refine J_aload hx dX7_tell_74 rfl ?_
            refine J_iload_n hx dX7_tell_76 (i := 1) rfl rfl ?_
            refine J_iload_n hx dX7_tell_77 (i := 3) rfl rfl ?_
            refine J_iast hx pN dX7_tell_78 hT.k20 (by omega) (hT.l20 (by omega)) ?_
            have hN1 : MN (up2 M (r + 20) pN v) r (S.1.setA 3 pN v) := hN.y.setA (f := 3) _ (by decide)
            have hF1 : FrN r M (up2 M (r + 20) pN v) := (FrN.rf (r := r) (M := M)).up (Or.inl (by omega)) _
            generalize eM1 : up2 M (r + 20) pN v = M1 at hN1 hF1 ⊢
            refine J_iload hx dX7_tell_79 rfl ?_
            refine J_iret hx hr dX7_tell_81 ?_
            exact hQ.to (v := S.1.att 3 pN) (S := yS S (S.1.setA 3 pN v)) (by
              unfold a_tell
              all_goals (try unfold overY at *)
              all_goals (try unfold mayQ at *)
              all_goals (try simp only [Int.toNat_natCast] at *)
              all_goals ((repeat' split) <;> first | rfl | (exfalso; omega) | (congr 1; omega) | (rcases (show w = 0 ∨ w = 1 ∨ w = 2 by omega) with rfl | rfl | rfl <;> first | rfl | (exfalso; omega)))) (hN.yard hN1 hF1) (fun b hb => hF1.out (by omega))
          · refine J_aload_n hx dX7_tell_55 (i := 0) rfl rfl ?_
            refine J_getR (b := r + 19) hx fl_X7_43 cl_X7 dX7_tell_56 hT.o (by decide) rfl hT.r12 ?_
            refine J_goto (tgt := 66) hx dX7_tell_59 (by decide) ?_
            refine J_astore (lsn := [vR (r), vI (((pN : Nat) : Int)), vI (w), vI (v), vR (r + 19), vU]) hx dX7_tell_66 (Nat.le_of_ble_eq_true rfl) rfl rfl ?_
            refine J_aload hx dX7_tell_68 rfl ?_
            refine J_iload_n hx dX7_tell_70 (i := 1) rfl rfl ?_
            refine J_iald2 (v := S.1.att 2 pN) hx pN dX7_tell_71 hT.k19 (by omega) (hT.l19 (by omega)) (hN.y.we (by omega)) ?_
            have rg10 := hW.y.we (p := pN) (by omega)
            refine J_istore (lsn := [vR (r), vI (((pN : Nat) : Int)), vI (w), vI (v), vR (r + 19), vI (S.1.att 2 pN)]) hx dX7_tell_72 (Nat.le_of_ble_eq_true rfl) rfl rfl ?_
            refine J_aload hx dX7_tell_74 rfl ?_
            refine J_iload_n hx dX7_tell_76 (i := 1) rfl rfl ?_
            refine J_iload_n hx dX7_tell_77 (i := 3) rfl rfl ?_
            refine J_iast hx pN dX7_tell_78 hT.k19 (by omega) (hT.l19 (by omega)) ?_
            have hN1 : MN (up2 M (r + 19) pN v) r (S.1.setA 2 pN v) := hN.y.setA (f := 2) _ (by decide)
            have hF1 : FrN r M (up2 M (r + 19) pN v) := (FrN.rf (r := r) (M := M)).up (Or.inl (by omega)) _
            generalize eM1 : up2 M (r + 19) pN v = M1 at hN1 hF1 ⊢
            refine J_iload hx dX7_tell_79 rfl ?_
            refine J_iret hx hr dX7_tell_81 ?_
            exact hQ.to (v := S.1.att 2 pN) (S := yS S (S.1.setA 2 pN v)) (by
              unfold a_tell
              all_goals (try unfold overY at *)
              all_goals (try unfold mayQ at *)
              all_goals (try simp only [Int.toNat_natCast] at *)
              all_goals ((repeat' split) <;> first | rfl | (exfalso; omega) | (congr 1; omega) | (rcases (show w = 0 ∨ w = 1 ∨ w = 2 by omega) with rfl | rfl | rfl <;> first | rfl | (exfalso; omega)))) (hN.yard hN1 hF1) (fun b hb => hF1.out (by omega))
        · refine J_aload_n hx dX7_tell_43 (i := 0) rfl rfl ?_
          refine J_getR (b := r + 18) hx fl_X7_40 cl_X7 dX7_tell_44 hT.o (by decide) rfl hT.r11 ?_
          refine J_goto (tgt := 66) hx dX7_tell_47 (by decide) ?_
          refine J_astore (lsn := [vR (r), vI (((pN : Nat) : Int)), vI (w), vI (v), vR (r + 18), vU]) hx dX7_tell_66 (Nat.le_of_ble_eq_true rfl) rfl rfl ?_
          refine J_aload hx dX7_tell_68 rfl ?_
          refine J_iload_n hx dX7_tell_70 (i := 1) rfl rfl ?_
          refine J_iald2 (v := S.1.att 1 pN) hx pN dX7_tell_71 hT.k18 (by omega) (hT.l18 (by omega)) (hN.y.gr (by omega)) ?_
          have rg11 := hW.y.gr (p := pN) (by omega)
          refine J_istore (lsn := [vR (r), vI (((pN : Nat) : Int)), vI (w), vI (v), vR (r + 18), vI (S.1.att 1 pN)]) hx dX7_tell_72 (Nat.le_of_ble_eq_true rfl) rfl rfl ?_
          refine J_aload hx dX7_tell_74 rfl ?_
          refine J_iload_n hx dX7_tell_76 (i := 1) rfl rfl ?_
          refine J_iload_n hx dX7_tell_77 (i := 3) rfl rfl ?_
          refine J_iast hx pN dX7_tell_78 hT.k18 (by omega) (hT.l18 (by omega)) ?_
          have hN1 : MN (up2 M (r + 18) pN v) r (S.1.setA 1 pN v) := hN.y.setA (f := 1) _ (by decide)
          have hF1 : FrN r M (up2 M (r + 18) pN v) := (FrN.rf (r := r) (M := M)).up (Or.inl (by omega)) _
          generalize eM1 : up2 M (r + 18) pN v = M1 at hN1 hF1 ⊢
          refine J_iload hx dX7_tell_79 rfl ?_
          refine J_iret hx hr dX7_tell_81 ?_
          exact hQ.to (v := S.1.att 1 pN) (S := yS S (S.1.setA 1 pN v)) (by
            unfold a_tell
            all_goals (try unfold overY at *)
            all_goals (try unfold mayQ at *)
            all_goals (try simp only [Int.toNat_natCast] at *)
            all_goals ((repeat' split) <;> first | rfl | (exfalso; omega) | (congr 1; omega) | (rcases (show w = 0 ∨ w = 1 ∨ w = 2 by omega) with rfl | rfl | rfl <;> first | rfl | (exfalso; omega)))) (hN.yard hN1 hF1) (fun b hb => hF1.out (by omega))
      · refine J_aload_n hx dX7_tell_32 (i := 0) rfl rfl ?_
        refine J_bipush (v := -2) hx dX7_tell_33 (by decide) ?_
        refine J_invV (As := [vI ((-2))]) (st := []) hx lk_X7_99 okX7_refuse dX7_tell_35 hT.o (by decide) rfl rfl rfl (Nat.le_of_ble_eq_true rfl) (Nat.zero_add _).symm (Nat.zero_add _).symm rfl (c_X7_refuseS hT hN hW (k := 0) (by decide) ?_)
        intro M1 hN1 hf1
        refine J_iret hx hr dX7_tell_38 ?_
        exact hQ.to (v := -((0 + 2 : Nat) : Int)) (S := rfS S 0) (by
          unfold a_tell
          all_goals (try unfold overY at *)
          all_goals (try unfold mayQ at *)
          all_goals (try simp only [Int.toNat_natCast] at *)
          all_goals ((repeat' split) <;> first | rfl | (exfalso; omega) | (congr 1; omega) | (rcases (show w = 0 ∨ w = 1 ∨ w = 2 by omega) with rfl | rfl | rfl <;> first | rfl | (exfalso; omega)))) hN1 hf1

set_option maxHeartbeats 4000000 in
theorem c_X7_ask {g : WG} {d : Nat} {T : TT} {M : MM} {r sz : Nat} {S : ST} {Q : MVal → TT → MM → Nat → Prop} (hT : MT T r) (hN : RN M r S) (hW : WFS S) {what v : Int} (h_what : -2147483648 ≤ what ∧ what ≤ 2147483647) (h_v : -2147483648 ≤ v ∧ v ≤ 2147483647) (hQ : RQ r T M sz Q (a_ask S what v)) : Ct g (d + 3) mX7_ask [vR (r), vI (what), vI (v)] T M sz 0 0 Q := by
  refine Ct_of2 (ls := [vR (r), vI (what), vI (v), vU]) okX7_ask rfl (Nat.le_of_ble_eq_true rfl) rfl ?_
  intro x hx hr hnm
  have hn8 := hW.y.n8
  have ht2 := hW.y.tn2
  have hl8 := hW.y.len8 ht2
  have htz := hW.t
  refine J_iload_n hx dX7_ask_0 (i := 1) rfl rfl ?_
  refine J_iload_n hx dX7_ask_1 (i := 2) rfl rfl ?_
  refine J_invS (As := [vI (what), vI (v)]) (st := []) hx lk_X7_151 okX7_mayAsk dX7_ask_2 rfl rfl (Nat.le_of_ble_eq_true rfl) (Nat.zero_add _).symm (Nat.zero_add _).symm rfl (c_X7_mayAsk (what := what) (v := v) ?_)
  intro v1 hv1
  refine J_if_ne (tgt := 15) hx dX7_ask_5 (by decide) (fun c2 => ?_) (fun c2 => ?_)
  · refine J_aload_n hx dX7_ask_15 (i := 0) rfl rfl ?_
    refine J_iload_n hx dX7_ask_16 (i := 1) rfl rfl ?_
    refine J_invV (As := [vI (what)]) (st := []) hx lk_X7_154 okX7_asked dX7_ask_17 hT.o (by decide) rfl rfl rfl (Nat.le_of_ble_eq_true rfl) (Nat.zero_add _).symm (Nat.zero_add _).symm rfl (c_X7_asked hT hN.y (what := what) (by unfold mayQ at *; omega) ?_)
    refine J_istore_n (lsn := [vR (r), vI (what), vI (v), vI (S.1.sc (what.toNat + 1))]) hx dX7_ask_20 (i := 3) rfl (Nat.le_of_ble_eq_true rfl) rfl rfl ?_
    refine J_aload_n hx dX7_ask_21 (i := 0) rfl rfl ?_
    refine J_iload_n hx dX7_ask_22 (i := 1) rfl rfl ?_
    refine J_iload_n hx dX7_ask_23 (i := 2) rfl rfl ?_
    refine J_invVv (As := [vI (what), vI (v)]) (st := []) hx lk_X7_157 okX7_becomes dX7_ask_24 hT.o (by decide) rfl rfl rfl (Nat.le_of_ble_eq_true rfl) (Nat.zero_add _).symm (Nat.zero_add _).symm rfl (c_X7_becomes hT hN.y (what := what) (by unfold mayQ at *; omega) ?_)
    intro M1 hN_1 hf1
    have hF1 := (FrN.rf (r := r) (M := M)).tr hf1
    refine J_iload_n hx dX7_ask_27 (i := 3) rfl rfl ?_
    refine J_iret hx hr dX7_ask_28 ?_
    exact hQ.to (v := S.1.sc (what.toNat + 1)) (S := yS S (S.1.setS (what.toNat + 1) v)) (by
      unfold a_ask
      all_goals (try unfold overY at *)
      all_goals (try unfold mayQ at *)
      all_goals (try simp only [Int.toNat_natCast] at *)
      all_goals ((repeat' split) <;> first | rfl | (exfalso; omega) | (congr 1; omega))) (hN.yard hN_1 hF1) (fun b hb => hF1.out (by omega))
  · refine J_aload_n hx dX7_ask_8 (i := 0) rfl rfl ?_
    refine J_bipush (v := -2) hx dX7_ask_9 (by decide) ?_
    refine J_invV (As := [vI ((-2))]) (st := []) hx lk_X7_99 okX7_refuse dX7_ask_11 hT.o (by decide) rfl rfl rfl (Nat.le_of_ble_eq_true rfl) (Nat.zero_add _).symm (Nat.zero_add _).symm rfl (c_X7_refuseS hT hN hW (k := 0) (by decide) ?_)
    intro M1 hN1 hf1
    refine J_iret hx hr dX7_ask_14 ?_
    exact hQ.to (v := -((0 + 2 : Nat) : Int)) (S := rfS S 0) (by
      unfold a_ask
      all_goals (try unfold overY at *)
      all_goals (try unfold mayQ at *)
      all_goals (try simp only [Int.toNat_natCast] at *)
      all_goals ((repeat' split) <;> first | rfl | (exfalso; omega) | (congr 1; omega))) hN1 hf1

set_option maxHeartbeats 4000000 in
theorem c_X7_seed {g : WG} {d : Nat} {T : TT} {M : MM} {r sz : Nat} {S : ST} {Q : MVal → TT → MM → Nat → Prop} (hT : MT T r) (hN : RN M r S) (hW : WFS S) {v : Int} (h_v : -2147483648 ≤ v ∧ v ≤ 2147483647) (hQ : RQ r T M sz Q (a_seed S v)) : Ct g (d + 1) mX7_seed [vR (r), vI (v)] T M sz 0 0 Q := by
  refine Ct_of2 (ls := [vR (r), vI (v), vU]) okX7_seed rfl (Nat.le_of_ble_eq_true rfl) rfl ?_
  intro x hx hr hnm
  have hn8 := hW.y.n8
  have ht2 := hW.y.tn2
  have hl8 := hW.y.len8 ht2
  have htz := hW.t
  refine J_aload_n hx dX7_seed_0 (i := 0) rfl rfl ?_
  refine J_getI2 (v := S.1.sc 7) hx fl_X7_70 cl_X7 dX7_seed_1 hT.o (by decide) rfl hN.y.s7 ?_
  have rg1 := hW.y.s7
  refine J_istore_n (lsn := [vR (r), vI (v), vI (S.1.sc 7)]) hx dX7_seed_4 (i := 2) rfl (Nat.le_of_ble_eq_true rfl) rfl rfl ?_
  refine J_aload_n hx dX7_seed_5 (i := 0) rfl rfl ?_
  refine J_iload_n hx dX7_seed_6 (i := 1) rfl rfl ?_
  refine J_putI hx fl_X7_70 cl_X7 dX7_seed_7 hT.o (by decide) rfl (Or.inl rfl) (by decide) ?_
  have hN1 : MN (up2 M r 23 v) r (S.1.setS 7 v) := hN.y.setS (q := 7) _ (by decide)
  have hF1 : FrN r M (up2 M r 23 v) := (FrN.rf (r := r) (M := M)).up (Or.inr (by omega)) _
  generalize eM1 : up2 M r 23 v = M1 at hN1 hF1 ⊢
  refine J_iload_n hx dX7_seed_10 (i := 2) rfl rfl ?_
  refine J_iret hx hr dX7_seed_11 ?_
  exact hQ.to (v := S.1.sc 7) (S := yS S (S.1.setS 7 v)) (by
    unfold a_seed
    all_goals (try unfold overY at *)
    all_goals (try unfold mayQ at *)
    all_goals (try simp only [Int.toNat_natCast] at *)
    all_goals ((repeat' split) <;> first | rfl | (exfalso; omega) | (congr 1; omega))) (hN.yard hN1 hF1) (fun b hb => hF1.out (by omega))

set_option maxHeartbeats 4000000 in
theorem c_X7_wipe {g : WG} {d : Nat} {T : TT} {M : MM} {r sz : Nat} {S : ST} {Q : MVal → TT → MM → Nat → Prop} (hT : MT T r) (hN : RN M r S) (hW : WFS S)  (hQ : RQ r T M sz Q (a_wipe S)) : Ct g (d + 1) mX7_wipe [vR (r)] T M sz 0 0 Q := by
  refine Ct_of2 (ls := [vR (r), vU]) okX7_wipe rfl (Nat.le_of_ble_eq_true rfl) rfl ?_
  intro x hx hr hnm
  have hn8 := hW.y.n8
  have ht2 := hW.y.tn2
  have hl8 := hW.y.len8 ht2
  have htz := hW.t
  refine J_aload_n hx dX7_wipe_0 (i := 0) rfl rfl ?_
  refine J_getI2 (v := ((S.tp.1 : Nat) : Int)) hx fl_X7_163 cl_X7 dX7_wipe_1 hT.o (by decide) rfl hN.tz ?_
  have rg1 := hW.t
  refine J_istore_n (lsn := [vR (r), vI (((S.tp.1 : Nat) : Int))]) hx dX7_wipe_4 (i := 1) rfl (Nat.le_of_ble_eq_true rfl) rfl rfl ?_
  refine J_aload_n hx dX7_wipe_5 (i := 0) rfl rfl ?_
  refine J_iconst (v := 0) hx dX7_wipe_6 (by decide) ?_
  refine J_putI hx fl_X7_163 cl_X7 dX7_wipe_7 hT.o (by decide) rfl (Or.inl rfl) (by decide) ?_
  generalize eM1 : up2 M r 7 0 = M1
  have hM1a : M1 r 7 = 0 := by rw [← eM1]; exact up2_at
  have hM1o : ∀ b9 j9, (b9 ≠ r ∨ j9 ≠ 7) → M1 b9 j9 = M b9 j9 := fun b9 j9 h9 => by rw [← eM1]; exact up2_ne h9
  have hM1r : ∀ b9, b9 ≠ r → M1 b9 = M b9 := fun b9 h9 => by rw [← eM1]; exact up2_row h9
  refine J_iload_n hx dX7_wipe_10 (i := 1) rfl rfl ?_
  refine J_iret hx hr dX7_wipe_11 ?_
  exact hQ.to (v := ((S.tp.1 : Nat) : Int)) (S := tpS S (0, S.tp.2)) (by
    unfold a_wipe
    all_goals (try unfold overY at *)
    all_goals (try unfold mayQ at *)
    all_goals (try simp only [Int.toNat_natCast] at *)
    all_goals ((repeat' split) <;> first | rfl | (exfalso; omega) | (congr 1; omega))) (hN.tape hM1a (fun j9 h9 => absurd h9 (Nat.not_lt_zero j9)) (fun a j h1 h2 => hM1o a j (by omega))) (fun b9 hb9 => hM1r b9 (by omega))

set_option maxHeartbeats 4000000 in
theorem c_X7_feed {g : WG} {d : Nat} {T : TT} {M : MM} {r sz : Nat} {S : ST} {Q : MVal → TT → MM → Nat → Prop} (hT : MT T r) (hN : RN M r S) (hW : WFS S) {b : Int} (h_b : -2147483648 ≤ b ∧ b ≤ 2147483647) (hQ : RQ r T M sz Q (a_feed S b)) : Ct g (d + 2) mX7_feed [vR (r), vI (b)] T M sz 0 0 Q := by
  refine Ct_of2 (ls := [vR (r), vI (b)]) okX7_feed rfl (Nat.le_of_ble_eq_true rfl) rfl ?_
  intro x hx hr hnm
  have hn8 := hW.y.n8
  have ht2 := hW.y.tn2
  have hl8 := hW.y.len8 ht2
  have htz := hW.t
  refine J_iload_n hx dX7_feed_0 (i := 1) rfl rfl ?_
  refine J_i2l hx dX7_feed_1 ?_
  refine J_lconst (v := 0) hx dX7_feed_2 (by decide) ?_
  refine J_ldc2 (v := 255) hx ct_X7_161 dX7_feed_3 (by decide) ?_
  refine J_invS (As := [vL (b), vL (0), vL (255)]) (st := []) hx lk_X7_85 okX7_in dX7_feed_6 rfl rfl (Nat.le_of_ble_eq_true rfl) (Nat.zero_add _).symm (Nat.zero_add _).symm rfl (c_X7_in (a := b) (lo := 0) (hi := 255) ?_)
  intro v1 hv1
  refine J_if_ne (tgt := 19) hx dX7_feed_9 (by decide) (fun c2 => ?_) (fun c2 => ?_)
  · refine J_aload_n hx dX7_feed_19 (i := 0) rfl rfl ?_
    refine J_getI2 (v := ((S.tp.1 : Nat) : Int)) hx fl_X7_163 cl_X7 dX7_feed_20 hT.o (by decide) rfl hN.tz ?_
    have rg3 := hW.t
    refine J_sipush (v := 250) hx dX7_feed_23 (by decide) ?_
    refine J_icmp_ne (tgt := 36) hx dX7_feed_26 (by decide) (fun c4 => ?_) (fun c4 => ?_)
    · refine J_aload_n hx dX7_feed_36 (i := 0) rfl rfl ?_
      refine J_getR (b := r + 15) hx fl_X7_31 cl_X7 dX7_feed_37 hT.o (by decide) rfl hT.r6 ?_
      refine J_aload_n hx dX7_feed_40 (i := 0) rfl rfl ?_
      refine J_dup hx dX7_feed_41 rfl ?_
      refine J_getI2 (v := ((S.tp.1 : Nat) : Int)) hx fl_X7_163 cl_X7 dX7_feed_42 hT.o (by decide) rfl hN.tz ?_
      have rg5 := hW.t
      refine J_dup_x1 hx dX7_feed_45 rfl rfl ?_
      refine J_iconst (v := 1) hx dX7_feed_46 (by decide) ?_
      refine J_iadd (v := ((S.tp.1 : Nat) : Int) + 1) hx dX7_feed_47 (w32_id (by omega) (by omega)) ?_
      refine J_putI hx fl_X7_163 cl_X7 dX7_feed_48 hT.o (by decide) rfl (Or.inl rfl) (by decide) ?_
      generalize eM1 : up2 M r 7 (((S.tp.1 : Nat) : Int) + 1) = M1
      have hM1a : M1 r 7 = ((S.tp.1 : Nat) : Int) + 1 := by rw [← eM1]; exact up2_at
      have hM1o : ∀ b9 j9, (b9 ≠ r ∨ j9 ≠ 7) → M1 b9 j9 = M b9 j9 := fun b9 j9 h9 => by rw [← eM1]; exact up2_ne h9
      have hM1r : ∀ b9, b9 ≠ r → M1 b9 = M b9 := fun b9 h9 => by rw [← eM1]; exact up2_row h9
      refine J_iload_n hx dX7_feed_51 (i := 1) rfl rfl ?_
      refine J_iast hx S.tp.1 dX7_feed_52 hT.k15 (by omega) (hT.l15 (by omega)) ?_
      generalize eM2 : up2 M1 (r + 15) S.tp.1 b = M2
      have hM2a : M2 (r + 15) S.tp.1 = b := by rw [← eM2]; exact up2_at
      have hM2o : ∀ b9 j9, (b9 ≠ r + 15 ∨ j9 ≠ S.tp.1) → M2 b9 j9 = M1 b9 j9 := fun b9 j9 h9 => by rw [← eM2]; exact up2_ne h9
      have hM2r : ∀ b9, b9 ≠ r + 15 → M2 b9 = M1 b9 := fun b9 h9 => by rw [← eM2]; exact up2_row h9
      refine J_aload_n hx dX7_feed_53 (i := 0) rfl rfl ?_
      refine J_getI2 (v := ((S.tp.1 : Nat) : Int) + 1) hx fl_X7_163 cl_X7 dX7_feed_54 hT.o (by decide) rfl (by rw [hM2r _ (by omega)]; exact hM1a) ?_
      refine J_iret hx hr dX7_feed_57 ?_
      exact hQ.to (v := ((S.tp.1 : Nat) : Int) + 1) (S := tpS S (S.tp.1 + 1, fun j => if j = S.tp.1 then b else S.tp.2 j)) (by
        unfold a_feed
        all_goals (try unfold overY at *)
        all_goals (try unfold mayQ at *)
        all_goals (try simp only [Int.toNat_natCast] at *)
        all_goals ((repeat' split) <;> first | rfl | (exfalso; omega) | (congr 1; omega))) (hN.tape (by rw [hM2r _ (by omega), hM1a]; dsimp only; omega) (fun j9 h9 => by
          dsimp only at h9 ⊢
          by_cases e : j9 = S.tp.1
          · rw [if_pos e, e]; exact hM2a
          · rw [if_neg e, hM2o _ _ (Or.inr e), hM1r _ (by omega)]; exact hN.tb (by omega)) (fun a j h1 h2 => by rw [hM2r a h2, hM1o a j (by omega)])) (fun b9 hb9 => by rw [hM2r b9 (by omega), hM1r b9 (by omega)])
    · refine J_aload_n hx dX7_feed_29 (i := 0) rfl rfl ?_
      refine J_bipush (v := -6) hx dX7_feed_30 (by decide) ?_
      refine J_invV (As := [vI ((-6))]) (st := []) hx lk_X7_99 okX7_refuse dX7_feed_32 hT.o (by decide) rfl rfl rfl (Nat.le_of_ble_eq_true rfl) (Nat.zero_add _).symm (Nat.zero_add _).symm rfl (c_X7_refuseS hT hN hW (k := 4) (by decide) ?_)
      intro M1 hN1 hf1
      refine J_iret hx hr dX7_feed_35 ?_
      exact hQ.to (v := -((4 + 2 : Nat) : Int)) (S := rfS S 4) (by
        unfold a_feed
        all_goals (try unfold overY at *)
        all_goals (try unfold mayQ at *)
        all_goals (try simp only [Int.toNat_natCast] at *)
        all_goals ((repeat' split) <;> first | rfl | (exfalso; omega) | (congr 1; omega))) hN1 hf1
  · refine J_aload_n hx dX7_feed_12 (i := 0) rfl rfl ?_
    refine J_bipush (v := -2) hx dX7_feed_13 (by decide) ?_
    refine J_invV (As := [vI ((-2))]) (st := []) hx lk_X7_99 okX7_refuse dX7_feed_15 hT.o (by decide) rfl rfl rfl (Nat.le_of_ble_eq_true rfl) (Nat.zero_add _).symm (Nat.zero_add _).symm rfl (c_X7_refuseS hT hN hW (k := 0) (by decide) ?_)
    intro M1 hN1 hf1
    refine J_iret hx hr dX7_feed_18 ?_
    exact hQ.to (v := -((0 + 2 : Nat) : Int)) (S := rfS S 0) (by
      unfold a_feed
      all_goals (try unfold overY at *)
      all_goals (try unfold mayQ at *)
      all_goals (try simp only [Int.toNat_natCast] at *)
      all_goals ((repeat' split) <;> first | rfl | (exfalso; omega) | (congr 1; omega))) hN1 hf1

set_option maxHeartbeats 4000000 in
theorem c_X7_show {g : WG} {d : Nat} {T : TT} {M : MM} {r sz : Nat} {S : ST} {Q : MVal → TT → MM → Nat → Prop} (hT : MT T r) (hN : RN M r S) (hW : WFS S) {s p : Int} (h_s : -2147483648 ≤ s ∧ s ≤ 2147483647) (h_p : -2147483648 ≤ p ∧ p ≤ 2147483647) (hQ : RQ r T M sz Q (a_show S s p)) : Ct g (d + 3) mX7_show [vR (r), vI (s), vI (p)] T M sz 0 0 Q := by
  refine Ct_of2 (ls := [vR (r), vI (s), vI (p)]) okX7_show rfl (Nat.le_of_ble_eq_true rfl) rfl ?_
  intro x hx hr hnm
  have hn8 := hW.y.n8
  have ht2 := hW.y.tn2
  have hl8 := hW.y.len8 ht2
  have htz := hW.t
  refine J_iload_n hx dX7_show_0 (i := 1) rfl rfl ?_
  refine J_i2l hx dX7_show_1 ?_
  refine J_lconst (v := 0) hx dX7_show_2 (by decide) ?_
  refine J_ldc2 (v := 7) hx ct_X7_93 dX7_show_3 (by decide) ?_
  refine J_invS (As := [vL (s), vL (0), vL (7)]) (st := []) hx lk_X7_85 okX7_in dX7_show_6 rfl rfl (Nat.le_of_ble_eq_true rfl) (Nat.zero_add _).symm (Nat.zero_add _).symm rfl (c_X7_in (a := s) (lo := 0) (hi := 7) ?_)
  intro v1 hv1
  refine J_if_eq (tgt := 25) hx dX7_show_9 (by decide) (fun c2 => ?_) (fun c2 => ?_)
  · refine J_aload_n hx dX7_show_25 (i := 0) rfl rfl ?_
    refine J_bipush (v := -2) hx dX7_show_26 (by decide) ?_
    refine J_invV (As := [vI ((-2))]) (st := []) hx lk_X7_99 okX7_refuse dX7_show_28 hT.o (by decide) rfl rfl rfl (Nat.le_of_ble_eq_true rfl) (Nat.zero_add _).symm (Nat.zero_add _).symm rfl (c_X7_refuseS hT hN hW (k := 0) (by decide) ?_)
    intro M1 hN1 hf1
    refine J_iret hx hr dX7_show_31 ?_
    exact hQ.to (v := -((0 + 2 : Nat) : Int)) (S := rfS S 0) (by
      unfold a_show
      all_goals (try unfold overY at *)
      all_goals (try unfold mayQ at *)
      all_goals (try simp only [Int.toNat_natCast] at *)
      all_goals ((repeat' split) <;> first | rfl | (exfalso; omega) | (congr 1; omega))) hN1 hf1
  · refine J_iload_n hx dX7_show_12 (i := 2) rfl rfl ?_
    refine J_iconst (v := -1) hx dX7_show_13 (by decide) ?_
    refine J_icmp_eq (tgt := 32) hx dX7_show_14 (by decide) (fun c3 => ?_) (fun c3 => ?_)
    · obtain ⟨sN, rfl⟩ : ∃ z : Nat, s = ((z : Nat) : Int) := ⟨s.toNat, by omega⟩
      refine J_aload_n hx dX7_show_32 (i := 0) rfl rfl ?_
      refine J_getR (b := r + 1) hx fl_X7_7 cl_X7 dX7_show_33 hT.o (by decide) rfl hT.r0 ?_
      refine J_iload_n hx dX7_show_36 (i := 1) rfl rfl ?_
      refine J_iload_n hx dX7_show_37 (i := 2) rfl rfl ?_
      refine J_iconst (v := -1) hx dX7_show_38 (by decide) ?_
      refine J_icmp_ne (tgt := 46) hx dX7_show_39 (by decide) (fun c4 => ?_) (fun c4 => ?_)
      · refine J_iconst (v := 2) hx dX7_show_46 (by decide) ?_
        refine J_iast hx sN dX7_show_47 hT.k1 (by omega) (hT.l1 (by omega)) ?_
        generalize eM1 : up2 M (r + 1) sN 2 = M1
        have hM1a : M1 (r + 1) sN = 2 := by rw [← eM1]; exact up2_at
        have hM1o : ∀ b9 j9, (b9 ≠ r + 1 ∨ j9 ≠ sN) → M1 b9 j9 = M b9 j9 := fun b9 j9 h9 => by rw [← eM1]; exact up2_ne h9
        have hM1r : ∀ b9, b9 ≠ r + 1 → M1 b9 = M b9 := fun b9 h9 => by rw [← eM1]; exact up2_row h9
        refine J_aload_n hx dX7_show_48 (i := 0) rfl rfl ?_
        refine J_getR (b := r + 14) hx fl_X7_28 cl_X7 dX7_show_49 hT.o (by decide) rfl hT.r5 ?_
        refine J_iload_n hx dX7_show_52 (i := 1) rfl rfl ?_
        refine J_iload_n hx dX7_show_53 (i := 2) rfl rfl ?_
        refine J_iast hx sN dX7_show_54 hT.k14 (by omega) (hT.l14 (by omega)) ?_
        generalize eM2 : up2 M1 (r + 14) sN p = M2
        have hM2a : M2 (r + 14) sN = p := by rw [← eM2]; exact up2_at
        have hM2o : ∀ b9 j9, (b9 ≠ r + 14 ∨ j9 ≠ sN) → M2 b9 j9 = M1 b9 j9 := fun b9 j9 h9 => by rw [← eM2]; exact up2_ne h9
        have hM2r : ∀ b9, b9 ≠ r + 14 → M2 b9 = M1 b9 := fun b9 h9 => by rw [← eM2]; exact up2_row h9
        refine J_iconst (v := 1) hx dX7_show_55 (by decide) ?_
        refine J_iret hx hr dX7_show_56 ?_
        exact hQ.to (v := 1) (S := shS S sN (if p = -1 then -1 else 10 + p, 0, fun _ => 0)) (by
          unfold a_show
          all_goals (try unfold overY at *)
          all_goals (try unfold mayQ at *)
          all_goals (try simp only [Int.toNat_natCast] at *)
          all_goals ((repeat' split) <;> first | rfl | (exfalso; omega) | (congr 1; omega))) (hN.shelf (by omega) (by rw [hM2r _ (by omega), hM1a]; unfold shc; dsimp only; (repeat' split) <;> omega) (fun q9 => absurd q9 (by unfold rowH; dsimp only; split <;> omega)) (fun q9 => by rw [hM2a]; dsimp only at q9 ⊢; split at q9 <;> first | omega | (rw [if_neg (by assumption)]; omega)) (fun a j h1 h2 => by rw [hM2o a j (by omega), hM1o a j (by omega)])) (fun b9 hb9 => by rw [hM2r b9 (by omega), hM1r b9 (by omega)])
      · refine J_iconst (v := 0) hx dX7_show_42 (by decide) ?_
        refine J_goto (tgt := 47) hx dX7_show_43 (by decide) ?_
        refine J_iast hx sN dX7_show_47 hT.k1 (by omega) (hT.l1 (by omega)) ?_
        generalize eM1 : up2 M (r + 1) sN 0 = M1
        have hM1a : M1 (r + 1) sN = 0 := by rw [← eM1]; exact up2_at
        have hM1o : ∀ b9 j9, (b9 ≠ r + 1 ∨ j9 ≠ sN) → M1 b9 j9 = M b9 j9 := fun b9 j9 h9 => by rw [← eM1]; exact up2_ne h9
        have hM1r : ∀ b9, b9 ≠ r + 1 → M1 b9 = M b9 := fun b9 h9 => by rw [← eM1]; exact up2_row h9
        refine J_aload_n hx dX7_show_48 (i := 0) rfl rfl ?_
        refine J_getR (b := r + 14) hx fl_X7_28 cl_X7 dX7_show_49 hT.o (by decide) rfl hT.r5 ?_
        refine J_iload_n hx dX7_show_52 (i := 1) rfl rfl ?_
        refine J_iload_n hx dX7_show_53 (i := 2) rfl rfl ?_
        refine J_iast hx sN dX7_show_54 hT.k14 (by omega) (hT.l14 (by omega)) ?_
        generalize eM2 : up2 M1 (r + 14) sN p = M2
        have hM2a : M2 (r + 14) sN = p := by rw [← eM2]; exact up2_at
        have hM2o : ∀ b9 j9, (b9 ≠ r + 14 ∨ j9 ≠ sN) → M2 b9 j9 = M1 b9 j9 := fun b9 j9 h9 => by rw [← eM2]; exact up2_ne h9
        have hM2r : ∀ b9, b9 ≠ r + 14 → M2 b9 = M1 b9 := fun b9 h9 => by rw [← eM2]; exact up2_row h9
        refine J_iconst (v := 1) hx dX7_show_55 (by decide) ?_
        refine J_iret hx hr dX7_show_56 ?_
        exact hQ.to (v := 1) (S := shS S sN (if p = -1 then -1 else 10 + p, 0, fun _ => 0)) (by
          unfold a_show
          all_goals (try unfold overY at *)
          all_goals (try unfold mayQ at *)
          all_goals (try simp only [Int.toNat_natCast] at *)
          all_goals ((repeat' split) <;> first | rfl | (exfalso; omega) | (congr 1; omega))) (hN.shelf (by omega) (by rw [hM2r _ (by omega), hM1a]; unfold shc; dsimp only; (repeat' split) <;> omega) (fun q9 => absurd q9 (by unfold rowH; dsimp only; split <;> omega)) (fun q9 => by rw [hM2a]; dsimp only at q9 ⊢; split at q9 <;> first | omega | (rw [if_neg (by assumption)]; omega)) (fun a j h1 h2 => by rw [hM2o a j (by omega), hM1o a j (by omega)])) (fun b9 hb9 => by rw [hM2r b9 (by omega), hM1r b9 (by omega)])
    · refine J_aload_n hx dX7_show_17 (i := 0) rfl rfl ?_
      refine J_iload_n hx dX7_show_18 (i := 2) rfl rfl ?_
      refine J_invV (As := [vI (p)]) (st := []) hx lk_X7_109 okX7_isOne dX7_show_19 hT.o (by decide) rfl rfl rfl (Nat.le_of_ble_eq_true rfl) (Nat.zero_add _).symm (Nat.zero_add _).symm rfl (c_X7_isOne hT hN.y hW.y (one := p) (by omega) ?_)
      intro v5 hv5
      refine J_if_ne (tgt := 32) hx dX7_show_22 (by decide) (fun c6 => ?_) (fun c6 => ?_)
      · obtain ⟨sN, rfl⟩ : ∃ z : Nat, s = ((z : Nat) : Int) := ⟨s.toNat, by omega⟩
        refine J_aload_n hx dX7_show_32 (i := 0) rfl rfl ?_
        refine J_getR (b := r + 1) hx fl_X7_7 cl_X7 dX7_show_33 hT.o (by decide) rfl hT.r0 ?_
        refine J_iload_n hx dX7_show_36 (i := 1) rfl rfl ?_
        refine J_iload_n hx dX7_show_37 (i := 2) rfl rfl ?_
        refine J_iconst (v := -1) hx dX7_show_38 (by decide) ?_
        refine J_icmp_ne (tgt := 46) hx dX7_show_39 (by decide) (fun c7 => ?_) (fun c7 => ?_)
        · refine J_iconst (v := 2) hx dX7_show_46 (by decide) ?_
          refine J_iast hx sN dX7_show_47 hT.k1 (by omega) (hT.l1 (by omega)) ?_
          generalize eM1 : up2 M (r + 1) sN 2 = M1
          have hM1a : M1 (r + 1) sN = 2 := by rw [← eM1]; exact up2_at
          have hM1o : ∀ b9 j9, (b9 ≠ r + 1 ∨ j9 ≠ sN) → M1 b9 j9 = M b9 j9 := fun b9 j9 h9 => by rw [← eM1]; exact up2_ne h9
          have hM1r : ∀ b9, b9 ≠ r + 1 → M1 b9 = M b9 := fun b9 h9 => by rw [← eM1]; exact up2_row h9
          refine J_aload_n hx dX7_show_48 (i := 0) rfl rfl ?_
          refine J_getR (b := r + 14) hx fl_X7_28 cl_X7 dX7_show_49 hT.o (by decide) rfl hT.r5 ?_
          refine J_iload_n hx dX7_show_52 (i := 1) rfl rfl ?_
          refine J_iload_n hx dX7_show_53 (i := 2) rfl rfl ?_
          refine J_iast hx sN dX7_show_54 hT.k14 (by omega) (hT.l14 (by omega)) ?_
          generalize eM2 : up2 M1 (r + 14) sN p = M2
          have hM2a : M2 (r + 14) sN = p := by rw [← eM2]; exact up2_at
          have hM2o : ∀ b9 j9, (b9 ≠ r + 14 ∨ j9 ≠ sN) → M2 b9 j9 = M1 b9 j9 := fun b9 j9 h9 => by rw [← eM2]; exact up2_ne h9
          have hM2r : ∀ b9, b9 ≠ r + 14 → M2 b9 = M1 b9 := fun b9 h9 => by rw [← eM2]; exact up2_row h9
          refine J_iconst (v := 1) hx dX7_show_55 (by decide) ?_
          refine J_iret hx hr dX7_show_56 ?_
          exact hQ.to (v := 1) (S := shS S sN (if p = -1 then -1 else 10 + p, 0, fun _ => 0)) (by
            unfold a_show
            all_goals (try unfold overY at *)
            all_goals (try unfold mayQ at *)
            all_goals (try simp only [Int.toNat_natCast] at *)
            all_goals ((repeat' split) <;> first | rfl | (exfalso; omega) | (congr 1; omega))) (hN.shelf (by omega) (by rw [hM2r _ (by omega), hM1a]; unfold shc; dsimp only; (repeat' split) <;> omega) (fun q9 => absurd q9 (by unfold rowH; dsimp only; split <;> omega)) (fun q9 => by rw [hM2a]; dsimp only at q9 ⊢; split at q9 <;> first | omega | (rw [if_neg (by assumption)]; omega)) (fun a j h1 h2 => by rw [hM2o a j (by omega), hM1o a j (by omega)])) (fun b9 hb9 => by rw [hM2r b9 (by omega), hM1r b9 (by omega)])
        · refine J_iconst (v := 0) hx dX7_show_42 (by decide) ?_
          refine J_goto (tgt := 47) hx dX7_show_43 (by decide) ?_
          refine J_iast hx sN dX7_show_47 hT.k1 (by omega) (hT.l1 (by omega)) ?_
          generalize eM1 : up2 M (r + 1) sN 0 = M1
          have hM1a : M1 (r + 1) sN = 0 := by rw [← eM1]; exact up2_at
          have hM1o : ∀ b9 j9, (b9 ≠ r + 1 ∨ j9 ≠ sN) → M1 b9 j9 = M b9 j9 := fun b9 j9 h9 => by rw [← eM1]; exact up2_ne h9
          have hM1r : ∀ b9, b9 ≠ r + 1 → M1 b9 = M b9 := fun b9 h9 => by rw [← eM1]; exact up2_row h9
          refine J_aload_n hx dX7_show_48 (i := 0) rfl rfl ?_
          refine J_getR (b := r + 14) hx fl_X7_28 cl_X7 dX7_show_49 hT.o (by decide) rfl hT.r5 ?_
          refine J_iload_n hx dX7_show_52 (i := 1) rfl rfl ?_
          refine J_iload_n hx dX7_show_53 (i := 2) rfl rfl ?_
          refine J_iast hx sN dX7_show_54 hT.k14 (by omega) (hT.l14 (by omega)) ?_
          generalize eM2 : up2 M1 (r + 14) sN p = M2
          have hM2a : M2 (r + 14) sN = p := by rw [← eM2]; exact up2_at
          have hM2o : ∀ b9 j9, (b9 ≠ r + 14 ∨ j9 ≠ sN) → M2 b9 j9 = M1 b9 j9 := fun b9 j9 h9 => by rw [← eM2]; exact up2_ne h9
          have hM2r : ∀ b9, b9 ≠ r + 14 → M2 b9 = M1 b9 := fun b9 h9 => by rw [← eM2]; exact up2_row h9
          refine J_iconst (v := 1) hx dX7_show_55 (by decide) ?_
          refine J_iret hx hr dX7_show_56 ?_
          exact hQ.to (v := 1) (S := shS S sN (if p = -1 then -1 else 10 + p, 0, fun _ => 0)) (by
            unfold a_show
            all_goals (try unfold overY at *)
            all_goals (try unfold mayQ at *)
            all_goals (try simp only [Int.toNat_natCast] at *)
            all_goals ((repeat' split) <;> first | rfl | (exfalso; omega) | (congr 1; omega))) (hN.shelf (by omega) (by rw [hM2r _ (by omega), hM1a]; unfold shc; dsimp only; (repeat' split) <;> omega) (fun q9 => absurd q9 (by unfold rowH; dsimp only; split <;> omega)) (fun q9 => by rw [hM2a]; dsimp only at q9 ⊢; split at q9 <;> first | omega | (rw [if_neg (by assumption)]; omega)) (fun a j h1 h2 => by rw [hM2o a j (by omega), hM1o a j (by omega)])) (fun b9 hb9 => by rw [hM2r b9 (by omega), hM1r b9 (by omega)])
      · refine J_aload_n hx dX7_show_25 (i := 0) rfl rfl ?_
        refine J_bipush (v := -2) hx dX7_show_26 (by decide) ?_
        refine J_invV (As := [vI ((-2))]) (st := []) hx lk_X7_99 okX7_refuse dX7_show_28 hT.o (by decide) rfl rfl rfl (Nat.le_of_ble_eq_true rfl) (Nat.zero_add _).symm (Nat.zero_add _).symm rfl (c_X7_refuseS hT hN hW (k := 0) (by decide) ?_)
        intro M1 hN1 hf1
        refine J_iret hx hr dX7_show_31 ?_
        exact hQ.to (v := -((0 + 2 : Nat) : Int)) (S := rfS S 0) (by
          unfold a_show
          all_goals (try unfold overY at *)
          all_goals (try unfold mayQ at *)
          all_goals (try simp only [Int.toNat_natCast] at *)
          all_goals ((repeat' split) <;> first | rfl | (exfalso; omega) | (congr 1; omega))) hN1 hf1

