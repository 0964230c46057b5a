def a_runs (S : ST) (n : Int) : Int × ST := if ¬ (1 ≤ n ∧ n ≤ 40) then rA S 0 else (((rnsY n.toNat S.1 0).2 : Nat), yS S (rnsY n.toNat S.1 0).1)
set_option maxHeartbeats 4000000 in
theorem c_X7_runs {g : WG} {d : Nat} {T : TT} {M : MM} {r sz : Nat} {S : ST} {Q : MVal → TT → MM → Nat → Prop} (hT : MT T r) (hN : RN M r S) (hW : WFS S) {n : Int} (h_n : -2147483648 ≤ n ∧ n ≤ 2147483647) (hQ : RQ r T M sz Q (a_runs S n)) : Ct g (d + 6) mX7_runs [vR (r), vI (n)] T M sz 0 0 Q := by
  refine Ct_of2 (ls := [vR (r), vI (n), vU, vU, vU, vU]) okX7_runs rfl (Nat.le_of_ble_eq_true rfl) rfl ?_
  intro x hx hr hnm
  have hn8 := hW.y.n8
  refine J_iload_n hx dX7_runs_0 (i := 1) rfl rfl ?_
  refine J_i2l hx dX7_runs_1 ?_
  refine J_lconst (v := 1) hx dX7_runs_2 (by decide) ?_
  refine J_ldc2 (v := 40) hx ct_X7_97 dX7_runs_3 (by decide) ?_
  refine J_invS (As := [vL (n), vL (1), vL (40)]) (st := []) hx lk_X7_85 okX7_in dX7_runs_6 rfl rfl (Nat.le_of_ble_eq_true rfl) (Nat.zero_add _).symm (Nat.zero_add _).symm rfl (c_X7_in (a := n) (lo := 1) (hi := 40) ?_)
  intro v1 hv1
  refine J_if_ne (tgt := 19) hx dX7_runs_9 (by decide) (fun c2 => ?_) (fun c2 => ?_)
  · obtain ⟨nN, rfl⟩ : ∃ z : Nat, n = ((z : Nat) : Int) := ⟨n.toNat, by omega⟩
    refine J_iconst (v := 0) hx dX7_runs_19 (by decide) ?_
    refine J_istore_n (lsn := [vR (r), vI (((nN : Nat) : Int)), vI (0), vU, vU, vU]) hx dX7_runs_20 (i := 2) rfl (Nat.le_of_ble_eq_true rfl) rfl rfl ?_
    refine J_iconst (v := 0) hx dX7_runs_21 (by decide) ?_
    refine J_istore_n (lsn := [vR (r), vI (((nN : Nat) : Int)), vI (0), vI (0), vU, vU]) hx dX7_runs_22 (i := 3) rfl (Nat.le_of_ble_eq_true rfl) rfl rfl ?_
    exact lp_X7_runs hT hN.y hW.y hx hr (n := nN) (by omega) 0 0 _ _ (by omega) (by omega) (fun M' h1 h2 => hQ.to (v := (((rnsY (nN - 0) S.1 0).2 : Nat) : Int)) (S := yS S (rnsY (nN - 0) S.1 0).1) (by
      unfold a_runs
      all_goals (try unfold overY at *)
      all_goals (try unfold mayQ at *)
      all_goals (try simp only [Int.toNat_natCast] at *)
      all_goals ((repeat' split) <;> first | rfl | (exfalso; omega) | (congr 1; omega))) (hN.yard h1 h2) (fun b hb => h2.out (by omega)))
  · refine J_aload_n hx dX7_runs_12 (i := 0) rfl rfl ?_
    refine J_bipush (v := -2) hx dX7_runs_13 (by decide) ?_
    refine J_invV (As := [vI ((-2))]) (st := []) hx lk_X7_99 okX7_refuse dX7_runs_15 hT.o (by decide) rfl rfl rfl (Nat.le_of_ble_eq_true rfl) (Nat.zero_add _).symm (Nat.zero_add _).symm rfl (c_X7_refuseS hT hN hW (k := 0) (by decide) ?_)
    intro M1 hN1 hf1
    refine J_iret hx hr dX7_runs_18 ?_
    exact hQ.to (v := -((0 + 2 : Nat) : Int)) (S := rfS S 0) (by
      unfold a_runs
      all_goals (try unfold overY at *)
      all_goals (try unfold mayQ at *)
      all_goals (try simp only [Int.toNat_natCast] at *)
      all_goals ((repeat' split) <;> first | rfl | (exfalso; omega) | (congr 1; omega))) hN1 hf1

set_option maxHeartbeats 4000000 in
theorem lp_X6_runs {g : WG} {d : Nat} {T : TT} {M : MM} {o sz : Nat} {A : YA} {Q : MVal → TT → MM → Nat → Prop} (hC : CT T o) (hN : YN M (o + 1) A) (hW : WFY A) {x : CX} (hx : OKx g x RX6 cX6_runs (d + 5)) (hr : RTx g x (some .int) Q) {n : Nat} (hn : n ≤ 40) (i t : Nat) (u4 u5 : MVal) (hi : i ≤ n) (hti : t ≤ i) (hQ : ∀ M', YN M' (o + 1) (rnsY (n - i) A t).1 → FrY (o + 1) M M' → Q (vI (((rnsY (n - i) A t).2 : Nat) : Int)) T M' sz) : Jd g x 22 [vR (o), vI (((n : Nat) : Int)), vI (((t : Nat) : Int)), vI (((i : Nat) : Int)), u4, u5] [] T M sz 0 0 := by
  refine J_iload_n hx dX6_runs_22 (i := 3) rfl rfl ?_
  refine J_iload_n hx dX6_runs_23 (i := 1) rfl rfl ?_
  refine J_icmp_ge (tgt := 90) hx dX6_runs_24 (by decide) (fun c1 => ?_) (fun c1 => ?_)
  · refine J_iload_n hx dX6_runs_90 (i := 2) rfl rfl ?_
    refine J_iret hx hr dX6_runs_91 ?_
    first
    | (have e9 : n - i = 0 := by omega
       rw [e9] at hQ
       exact hQ M hN FrY.rf)
    | (have e9 := rnsY_over (A := A) (by unfold overY at *; omega) (n - i) t
       rw [e9] at hQ
       exact hQ M hN FrY.rf)
  · refine J_aload_n hx dX6_runs_27 (i := 0) rfl rfl ?_
    refine J_getR (b := o + 1) hx fl_X6_10 cl_X6 dX6_runs_28 hC.o (by decide) rfl hC.r0 ?_
    refine J_invV (As := []) (st := []) hx lk_X6_229 okX5_isOver dX6_runs_31 hC.y0.o (by decide) rfl rfl rfl (Nat.le_of_ble_eq_true rfl) (Nat.zero_add _).symm (Nat.zero_add _).symm rfl (c_X5_isOver hC.y0 hN hW  ?_)
    intro v2 hv2
    refine J_if_ne (tgt := 90) hx dX6_runs_34 (by decide) (fun c3 => ?_) (fun c3 => ?_)
    · refine J_iload_n hx dX6_runs_90 (i := 2) rfl rfl ?_
      refine J_iret hx hr dX6_runs_91 ?_
      first
      | (have e9 : n - i = 0 := by omega
         rw [e9] at hQ
         exact hQ M hN FrY.rf)
      | (have e9 := rnsY_over (A := A) (by unfold overY at *; omega) (n - i) t
         rw [e9] at hQ
         exact hQ M hN FrY.rf)
    · have ho : ¬ overY A := fun q9 => by unfold overY at *; omega
      have hnv := not_over2 hW ho
      obtain ⟨p, ew, hp, hc⟩ := who_some hW ho 0
      have hl8 := hW.len8 hW.tn2
      have hn8 := hW.n8
      refine J_aload_n hx dX6_runs_37 (i := 0) rfl rfl ?_
      refine J_getR (b := o + 1) hx fl_X6_10 cl_X6 dX6_runs_38 hC.o (by decide) rfl hC.r0 ?_
      refine J_iconst (v := 0) hx dX6_runs_41 (by decide) ?_
      refine J_invV (As := [vI (0)]) (st := []) hx lk_X6_238 okX5_whoIsCalled dX6_runs_42 hC.y0.o (by decide) rfl rfl rfl (Nat.le_of_ble_eq_true rfl) (Nat.zero_add _).symm (Nat.zero_add _).symm rfl (c_X5_whoIsCalled hC.y0 hN hW (rule := 0) ?_)
      rw [ew]
      refine J_istore (lsn := [vR (o), vI (((n : Nat) : Int)), vI (((t : Nat) : Int)), vI (((i : Nat) : Int)), vI (((p : Nat) : Int)), u5]) hx dX6_runs_45 (Nat.le_of_ble_eq_true rfl) rfl rfl ?_
      refine J_aload_n hx dX6_runs_47 (i := 0) rfl rfl ?_
      refine J_getR (b := o + 1) hx fl_X6_10 cl_X6 dX6_runs_48 hC.o (by decide) rfl hC.r0 ?_
      refine J_iload hx dX6_runs_51 rfl ?_
      refine J_invV (As := [vI (((p : Nat) : Int))]) (st := []) hx lk_X6_232 okX5_jointFor dX6_runs_53 hC.y0.o (by decide) rfl rfl rfl (Nat.le_of_ble_eq_true rfl) (Nat.zero_add _).symm (Nat.zero_add _).symm rfl (c_X5_jointFor hC.y0 hN hW (p := p) hp (by omega) ?_)
      have hj := atY_lt (A := A) hnv.1 p
      refine J_istore (lsn := [vR (o), vI (((n : Nat) : Int)), vI (((t : Nat) : Int)), vI (((i : Nat) : Int)), vI (((p : Nat) : Int)), vI (((atY A p : Nat) : Int))]) hx dX6_runs_56 (Nat.le_of_ble_eq_true rfl) rfl rfl ?_
      refine J_aload_n hx dX6_runs_58 (i := 0) rfl rfl ?_
      refine J_getR (b := o + 1) hx fl_X6_10 cl_X6 dX6_runs_59 hC.o (by decide) rfl hC.r0 ?_
      refine J_iload hx dX6_runs_62 rfl ?_
      refine J_iload hx dX6_runs_64 rfl ?_
      refine J_aload_n hx dX6_runs_66 (i := 0) rfl rfl ?_
      refine J_getR (b := o + 1) hx fl_X6_10 cl_X6 dX6_runs_67 hC.o (by decide) rfl hC.r0 ?_
      refine J_iload hx dX6_runs_70 rfl ?_
      refine J_invV (As := [vI (((atY A p : Nat) : Int))]) (st := [vI (((atY A p : Nat) : Int)), vI (((p : Nat) : Int)), vR (o + 1)]) hx lk_X6_235 okX5_sideTaken dX6_runs_72 hC.y0.o (by decide) rfl rfl rfl (Nat.le_of_ble_eq_true rfl) (Nat.zero_add _).symm (Nat.zero_add _).symm rfl (c_X5_sideTaken hC.y0 hN hW (j := atY A p) hj ?_)
      intro v9 hv9
      have hsv : v9 = ((sidY A (atY A p) : Nat) : Int) := by unfold sidY; split <;> omega
      subst hsv
      refine J_invV (As := [vI (((p : Nat) : Int)), vI (((atY A p : Nat) : Int)), vI (((sidY A (atY A p) : Nat) : Int))]) (st := []) hx lk_X6_310 okX5_runByDraw dX6_runs_75 hC.y0.o (by decide) rfl rfl rfl (Nat.le_of_ble_eq_true rfl) (Nat.zero_add _).symm (Nat.zero_add _).symm rfl (c_X5_runByDraw hC.y0 hN hW (p := p) (j := atY A p) (sd := sidY A (atY A p)) hp hc hj ho (sidY_lt A _) ?_ ?_)
      · intro ht M2 hN2 hf2
        have es := stepR_1 ew ht
        refine J_if_eq (tgt := 84) hx dX6_runs_78 (by decide) (fun c9 => absurd c9 (by decide)) (fun _ => ?_)
        refine J_iinc (v := ((t : Nat) : Int) + 1) (lsn := [vR (o), vI (((n : Nat) : Int)), vI (((t : Nat) : Int) + 1), vI (((i : Nat) : Int)), vI (((p : Nat) : Int)), vI (((atY A p : Nat) : Int))]) hx dX6_runs_81 rfl (jinc1 (by omega) (by omega)) rfl rfl ?_
        refine J_iinc (v := ((i : Nat) : Int) + 1) (lsn := [vR (o), vI (((n : Nat) : Int)), vI (((t : Nat) : Int) + 1), vI (((i : Nat) : Int) + 1), vI (((p : Nat) : Int)), vI (((atY A p : Nat) : Int))]) hx dX6_runs_84 rfl (jinc1 (by omega) (by omega)) rfl rfl ?_
        refine J_goto (tgt := 22) hx dX6_runs_87 (by decide) ?_
        have hwf := stepR_wf hW ho
        rw [es] at hwf
        exact lp_X6_runs hC hN2 hwf hx hr hn (i + 1) (t + 1) _ _ (by omega) (by omega) (fun M' h1 h2 => by
            have e9 := rnsY_go ho (n - (i + 1)) t
            rw [es] at e9
            have e8 : n - i = (n - (i + 1)) + 1 := by omega
            rw [e8, e9] at hQ
            exact hQ M' h1 (hf2.tr h2))
      · intro ht M2 hN2 hf2
        have es := stepR_0 ew ht
        refine J_if_eq (tgt := 84) hx dX6_runs_78 (by decide) (fun _ => ?_) (fun c9 => absurd c9 (by decide))
        refine J_iinc (v := ((i : Nat) : Int) + 1) (lsn := [vR (o), vI (((n : Nat) : Int)), vI (((t : Nat) : Int)), vI (((i : Nat) : Int) + 1), vI (((p : Nat) : Int)), vI (((atY A p : Nat) : Int))]) hx dX6_runs_84 rfl (jinc1 (by omega) (by omega)) rfl rfl ?_
        refine J_goto (tgt := 22) hx dX6_runs_87 (by decide) ?_
        have hwf := stepR_wf hW ho
        rw [es] at hwf
        exact lp_X6_runs hC hN2 hwf hx hr hn (i + 1) (t) _ _ (by omega) (by omega) (fun M' h1 h2 => by
            have e9 := rnsY_go ho (n - (i + 1)) t
            rw [es] at e9
            have e8 : n - i = (n - (i + 1)) + 1 := by omega
            rw [e8, e9] at hQ
            exact hQ M' h1 (hf2.tr h2))
termination_by n - i
decreasing_by all_goals omega

set_option maxHeartbeats 4000000 in
theorem c_X6_runs {g : WG} {d : Nat} {T : TT} {M : MM} {o sz : Nat} {S : ST} {Q : MVal → TT → MM → Nat → Prop} (hC : CT T o) (hN : CN M o S) (hW : WFS S) {n : Int} (h_n : -2147483648 ≤ n ∧ n ≤ 2147483647) (hQ : CQ o T M sz Q (a_runs S n)) : Ct g (d + 5) mX6_runs [vR (o), vI (n)] T M sz 0 0 Q := by
  refine Ct_of2 (ls := [vR (o), vI (n), vU, vU, vU, vU]) okX6_runs rfl (Nat.le_of_ble_eq_true rfl) rfl ?_
  intro x hx hr hnm
  have hn8 := hW.y.n8
  refine J_iload_n hx dX6_runs_0 (i := 1) rfl rfl ?_
  refine J_iconst (v := 1) hx dX6_runs_1 (by decide) ?_
  refine J_icmp_lt (tgt := 11) hx dX6_runs_2 (by decide) (fun c1 => ?_) (fun c1 => ?_)
  · refine J_aload_n hx dX6_runs_11 (i := 0) rfl rfl ?_
    refine J_bipush (v := -2) hx dX6_runs_12 (by decide) ?_
    refine J_invV (As := [vI ((-2))]) (st := []) hx lk_X6_67 okX6_refuse dX6_runs_14 hC.o (by decide) rfl rfl rfl (Nat.le_of_ble_eq_true rfl) (Nat.zero_add _).symm (Nat.zero_add _).symm rfl (c_X6_refuse hC hN hW (k := 0) (by decide) ?_)
    intro M1 hN1 hf1
    refine J_iret hx hr dX6_runs_17 ?_
    exact hQ.to (v := -((0 + 2 : Nat) : Int)) (S := rfS S 0) (by
      unfold a_runs
      all_goals (try unfold overY at *)
      all_goals (try unfold mayQ at *)
      all_goals (try simp only [Int.toNat_natCast] at *)
      all_goals ((repeat' split) <;> first | rfl | (exfalso; omega) | (congr 1; omega))) hC hN1 hf1
  · refine J_iload_n hx dX6_runs_5 (i := 1) rfl rfl ?_
    refine J_bipush (v := 40) hx dX6_runs_6 (by decide) ?_
    refine J_icmp_le (tgt := 18) hx dX6_runs_8 (by decide) (fun c2 => ?_) (fun c2 => ?_)
    · obtain ⟨nN, rfl⟩ : ∃ z : Nat, n = ((z : Nat) : Int) := ⟨n.toNat, by omega⟩
      refine J_iconst (v := 0) hx dX6_runs_18 (by decide) ?_
      refine J_istore_n (lsn := [vR (o), vI (((nN : Nat) : Int)), vI (0), vU, vU, vU]) hx dX6_runs_19 (i := 2) rfl (Nat.le_of_ble_eq_true rfl) rfl rfl ?_
      refine J_iconst (v := 0) hx dX6_runs_20 (by decide) ?_
      refine J_istore_n (lsn := [vR (o), vI (((nN : Nat) : Int)), vI (0), vI (0), vU, vU]) hx dX6_runs_21 (i := 3) rfl (Nat.le_of_ble_eq_true rfl) rfl rfl ?_
      exact lp_X6_runs hC hN.y hW.y hx hr (n := nN) (by omega) 0 0 _ _ (by omega) (by omega) (fun M' h1 h2 => hQ.to (v := (((rnsY (nN - 0) S.1 0).2 : Nat) : Int)) (S := yS S (rnsY (nN - 0) S.1 0).1) (by
        unfold a_runs
        all_goals (try unfold overY at *)
        all_goals (try unfold mayQ at *)
        all_goals (try simp only [Int.toNat_natCast] at *)
        all_goals ((repeat' split) <;> first | rfl | (exfalso; omega) | (congr 1; omega))) hC (hN.yard h1 h2) (fun b hb => h2 b (by omega)))
    · refine J_aload_n hx dX6_runs_11 (i := 0) rfl rfl ?_
      refine J_bipush (v := -2) hx dX6_runs_12 (by decide) ?_
      refine J_invV (As := [vI ((-2))]) (st := []) hx lk_X6_67 okX6_refuse dX6_runs_14 hC.o (by decide) rfl rfl rfl (Nat.le_of_ble_eq_true rfl) (Nat.zero_add _).symm (Nat.zero_add _).symm rfl (c_X6_refuse hC hN hW (k := 0) (by decide) ?_)
      intro M1 hN1 hf1
      refine J_iret hx hr dX6_runs_17 ?_
      exact hQ.to (v := -((0 + 2 : Nat) : Int)) (S := rfS S 0) (by
        unfold a_runs
        all_goals (try unfold overY at *)
        all_goals (try unfold mayQ at *)
        all_goals (try simp only [Int.toNat_natCast] at *)
        all_goals ((repeat' split) <;> first | rfl | (exfalso; omega) | (congr 1; omega))) hC hN1 hf1

