set_option maxHeartbeats 4000000 in
theorem lp_X7_rest {g : WG} {d : Nat} {T : TT} {M : MM} {r sz : Nat} {A : YA} {Q : MVal → TT → MM → Nat → Prop} (hT : MT T r) (hN : MN M r A) (hW : WFY A) {x : CX} (hx : OKx g x RX7 cX7_rest (d + 2)) (hr : RTx g x (some .int) Q) {n : Int} (hn : 0 ≤ n ∧ n ≤ 20) (hQ : ∀ M', MN M' r (rstK A n A.n) → FrN r M M' → Q (vI ((rstC A n A.n : Nat) : Int)) T M' sz) (j f : Nat) (M1 : MM) (hj : j ≤ A.n) (hf : f = rstC A n j) (hN1 : MN M1 r (rstK A n j)) (hF1 : FrN r M M1) : Jd g x 23 [vR (r), vI (n), vI (((f : Nat) : Int)), vI (((j : Nat) : Int))] [] T M1 sz 0 0 := by
  have hn8 := hW.n8
  have hf8 : f ≤ j := by rw [hf]; exact cntF_le _ _
  have rgt : j < A.n → 0 ≤ A.att 3 j ∧ A.att 3 j ≤ 20 := fun h => hW.ti h
  refine J_iload_n hx dX7_rest_23 (i := 3) rfl rfl ?_
  refine J_aload_n hx dX7_rest_24 (i := 0) rfl rfl ?_
  refine J_getI2 (v := ((A.n : Nat) : Int)) hx fl_X7_82 cl_X7 dX7_rest_25 hT.o (by decide) rfl hN1.pp ?_
  have rg25 : j < A.n → 0 ≤ A.att 3 j ∧ A.att 3 j ≤ 20 := rgt
  refine J_icmp_ge (tgt := 82) hx dX7_rest_28 (by decide) (fun c1 => ?_) (fun c1 => ?_)
  · refine J_iload_n hx dX7_rest_82 (i := 2) rfl rfl ?_
    refine J_iret hx hr dX7_rest_83 ?_
    have ej : j = A.n := by omega
    subst ej
    exact Qv (hQ M1 hN1 hF1) (by rw [hf])
  · refine J_aload_n hx dX7_rest_31 (i := 0) rfl rfl ?_
    refine J_getR (b := r + 20) hx fl_X7_46 cl_X7 dX7_rest_32 hT.o (by decide) rfl hT.r13 ?_
    refine J_iload_n hx dX7_rest_35 (i := 3) rfl rfl ?_
    refine J_aload_n hx dX7_rest_36 (i := 0) rfl rfl ?_
    refine J_getR (b := r + 20) hx fl_X7_46 cl_X7 dX7_rest_37 hT.o (by decide) rfl hT.r13 ?_
    refine J_iload_n hx dX7_rest_40 (i := 3) rfl rfl ?_
    refine J_iald2 (v := A.att 3 j) hx j dX7_rest_41 hT.k20 (by omega) (hT.l20 (by omega)) (by rw [hN1.ti (show j < A.n by omega)]; exact if_neg (fun q => Nat.lt_irrefl _ q.2)) ?_
    refine J_iload_n hx dX7_rest_42 (i := 1) rfl rfl ?_
    refine J_icmp_le (tgt := 57) hx dX7_rest_43 (by decide) (fun c2 => ?_) (fun c2 => ?_)
    · refine J_iconst (v := 0) hx dX7_rest_57 (by decide) ?_
      refine J_iast hx j dX7_rest_58 hT.k20 (by omega) (hT.l20 (by omega)) ?_
      have hv9 : 0 = rsv A n j := by unfold rsv; split <;> omega
      rw [hv9]
      have hN2 : MN (up2 M1 (r + 20) j (rsv A n j)) r (rstK A n (j + 1)) := by rw [← rstK_s]; exact hN1.setA (f := 3) _ (by decide)
      have hF2 : FrN r M (up2 M1 (r + 20) j (rsv A n j)) := hF1.up (Or.inl (by omega)) _
      have h2a : up2 M1 (r + 20) j (rsv A n j) (r + 20) j = rsv A n j := up2_at
      generalize up2 M1 (r + 20) j (rsv A n j) = M2 at hN2 hF2 h2a ⊢
      refine J_iload_n hx dX7_rest_59 (i := 2) rfl rfl ?_
      refine J_aload_n hx dX7_rest_60 (i := 0) rfl rfl ?_
      refine J_getR (b := r + 20) hx fl_X7_46 cl_X7 dX7_rest_61 hT.o (by decide) rfl hT.r13 ?_
      refine J_iload_n hx dX7_rest_64 (i := 3) rfl rfl ?_
      refine J_iald2 (v := rsv A n j) hx j dX7_rest_65 hT.k20 (by omega) (hT.l20 (by omega)) h2a ?_
      refine J_if_ne (tgt := 73) hx dX7_rest_66 (by decide) (fun c3 => ?_) (fun c3 => ?_)
      · refine J_iconst (v := 0) hx dX7_rest_73 (by decide) ?_
        refine J_iadd (v := ((f : Nat) : Int)) hx dX7_rest_74 (by rw [w32_id (by omega) (by omega)]; omega) ?_
        refine J_istore_n (lsn := [vR (r), vI (n), vI (((f : Nat) : Int)), vI (((j : Nat) : Int))]) hx dX7_rest_75 (i := 2) rfl (Nat.le_of_ble_eq_true rfl) rfl rfl ?_
        refine J_iinc (v := ((j : Nat) : Int) + 1) (lsn := [vR (r), vI (n), vI (((f : Nat) : Int)), vI (((j : Nat) : Int) + 1)]) hx dX7_rest_76 rfl (jinc1 (by omega) (by omega)) rfl rfl ?_
        refine J_goto (tgt := 23) hx dX7_rest_79 (by decide) ?_
        exact lp_X7_rest hT hN hW hx hr hn hQ (j + 1) f M2 (by omega) (by rw [hf]; unfold rstC; exact (cntF_f (by unfold rsv at *; split at * <;> simp <;> omega)).symm) hN2 hF2
      · refine J_iconst (v := 1) hx dX7_rest_69 (by decide) ?_
        refine J_goto (tgt := 74) hx dX7_rest_70 (by decide) ?_
        refine J_iadd (v := ((f : Nat) : Int) + 1) hx dX7_rest_74 (w32_id (by omega) (by omega)) ?_
        refine J_istore_n (lsn := [vR (r), vI (n), vI (((f : Nat) : Int) + 1), vI (((j : Nat) : Int))]) hx dX7_rest_75 (i := 2) rfl (Nat.le_of_ble_eq_true rfl) rfl rfl ?_
        refine J_iinc (v := ((j : Nat) : Int) + 1) (lsn := [vR (r), vI (n), vI (((f : Nat) : Int) + 1), vI (((j : Nat) : Int) + 1)]) hx dX7_rest_76 rfl (jinc1 (by omega) (by omega)) rfl rfl ?_
        refine J_goto (tgt := 23) hx dX7_rest_79 (by decide) ?_
        exact lp_X7_rest hT hN hW hx hr hn hQ (j + 1) (f + 1) M2 (by omega) (by rw [hf]; unfold rstC; exact (cntF_t (by unfold rsv at *; split at * <;> simp <;> omega)).symm) hN2 hF2
    · refine J_aload_n hx dX7_rest_46 (i := 0) rfl rfl ?_
      refine J_getR (b := r + 20) hx fl_X7_46 cl_X7 dX7_rest_47 hT.o (by decide) rfl hT.r13 ?_
      refine J_iload_n hx dX7_rest_50 (i := 3) rfl rfl ?_
      refine J_iald2 (v := A.att 3 j) hx j dX7_rest_51 hT.k20 (by omega) (hT.l20 (by omega)) (by rw [hN1.ti (show j < A.n by omega)]; exact if_neg (fun q => Nat.lt_irrefl _ q.2)) ?_
      refine J_iload_n hx dX7_rest_52 (i := 1) rfl rfl ?_
      refine J_isub (v := A.att 3 j - n) hx dX7_rest_53 (w32_id (by omega) (by omega)) ?_
      refine J_goto (tgt := 58) hx dX7_rest_54 (by decide) ?_
      refine J_iast hx j dX7_rest_58 hT.k20 (by omega) (hT.l20 (by omega)) ?_
      have hv9 : A.att 3 j - n = rsv A n j := by unfold rsv; split <;> omega
      rw [hv9]
      have hN2 : MN (up2 M1 (r + 20) j (rsv A n j)) r (rstK A n (j + 1)) := by rw [← rstK_s]; exact hN1.setA (f := 3) _ (by decide)
      have hF2 : FrN r M (up2 M1 (r + 20) j (rsv A n j)) := hF1.up (Or.inl (by omega)) _
      have h2a : up2 M1 (r + 20) j (rsv A n j) (r + 20) j = rsv A n j := up2_at
      generalize up2 M1 (r + 20) j (rsv A n j) = M2 at hN2 hF2 h2a ⊢
      refine J_iload_n hx dX7_rest_59 (i := 2) rfl rfl ?_
      refine J_aload_n hx dX7_rest_60 (i := 0) rfl rfl ?_
      refine J_getR (b := r + 20) hx fl_X7_46 cl_X7 dX7_rest_61 hT.o (by decide) rfl hT.r13 ?_
      refine J_iload_n hx dX7_rest_64 (i := 3) rfl rfl ?_
      refine J_iald2 (v := rsv A n j) hx j dX7_rest_65 hT.k20 (by omega) (hT.l20 (by omega)) h2a ?_
      refine J_if_ne (tgt := 73) hx dX7_rest_66 (by decide) (fun c4 => ?_) (fun c4 => ?_)
      · refine J_iconst (v := 0) hx dX7_rest_73 (by decide) ?_
        refine J_iadd (v := ((f : Nat) : Int)) hx dX7_rest_74 (by rw [w32_id (by omega) (by omega)]; omega) ?_
        refine J_istore_n (lsn := [vR (r), vI (n), vI (((f : Nat) : Int)), vI (((j : Nat) : Int))]) hx dX7_rest_75 (i := 2) rfl (Nat.le_of_ble_eq_true rfl) rfl rfl ?_
        refine J_iinc (v := ((j : Nat) : Int) + 1) (lsn := [vR (r), vI (n), vI (((f : Nat) : Int)), vI (((j : Nat) : Int) + 1)]) hx dX7_rest_76 rfl (jinc1 (by omega) (by omega)) rfl rfl ?_
        refine J_goto (tgt := 23) hx dX7_rest_79 (by decide) ?_
        exact lp_X7_rest hT hN hW hx hr hn hQ (j + 1) f M2 (by omega) (by rw [hf]; unfold rstC; exact (cntF_f (by unfold rsv at *; split at * <;> simp <;> omega)).symm) hN2 hF2
      · refine J_iconst (v := 1) hx dX7_rest_69 (by decide) ?_
        refine J_goto (tgt := 74) hx dX7_rest_70 (by decide) ?_
        refine J_iadd (v := ((f : Nat) : Int) + 1) hx dX7_rest_74 (w32_id (by omega) (by omega)) ?_
        refine J_istore_n (lsn := [vR (r), vI (n), vI (((f : Nat) : Int) + 1), vI (((j : Nat) : Int))]) hx dX7_rest_75 (i := 2) rfl (Nat.le_of_ble_eq_true rfl) rfl rfl ?_
        refine J_iinc (v := ((j : Nat) : Int) + 1) (lsn := [vR (r), vI (n), vI (((f : Nat) : Int) + 1), vI (((j : Nat) : Int) + 1)]) hx dX7_rest_76 rfl (jinc1 (by omega) (by omega)) rfl rfl ?_
        refine J_goto (tgt := 23) hx dX7_rest_79 (by decide) ?_
        exact lp_X7_rest hT hN hW hx hr hn hQ (j + 1) (f + 1) M2 (by omega) (by rw [hf]; unfold rstC; exact (cntF_t (by unfold rsv at *; split at * <;> simp <;> omega)).symm) hN2 hF2
termination_by A.n - j
decreasing_by all_goals omega

set_option maxHeartbeats 4000000 in
theorem c_X7_rest {g : WG} {d : Nat} {T : TT} {M : MM} {r sz : Nat} {S : ST} {Q : MVal → TT → MM → Nat → Prop} (hT : MT T r) (hN : RN M r S) (hW : WFS S) {n : Int} (h_n : -2147483648 ≤ n ∧ n ≤ 2147483647) (hQ : RQ r T M sz Q (a_rest S n)) : Ct g (d + 2) mX7_rest [vR (r), vI (n)] T M sz 0 0 Q := by
  refine Ct_of2 (ls := [vR (r), vI (n), vU, vU]) okX7_rest rfl (Nat.le_of_ble_eq_true rfl) rfl ?_
  intro x hx hr hnm
  have hn8 := hW.y.n8
  refine J_iload_n hx dX7_rest_0 (i := 1) rfl rfl ?_
  refine J_i2l hx dX7_rest_1 ?_
  refine J_lconst (v := 0) hx dX7_rest_2 (by decide) ?_
  refine J_ldc2 (v := 20) hx ct_X7_129 dX7_rest_3 (by decide) ?_
  refine J_invS (As := [vL (n), vL (0), vL (20)]) (st := []) hx lk_X7_85 okX7_in dX7_rest_6 rfl rfl (Nat.le_of_ble_eq_true rfl) (Nat.zero_add _).symm (Nat.zero_add _).symm rfl (c_X7_in (a := n) (lo := 0) (hi := 20) ?_)
  intro v1 hv1
  refine J_if_ne (tgt := 19) hx dX7_rest_9 (by decide) (fun c2 => ?_) (fun c2 => ?_)
  · refine J_iconst (v := 0) hx dX7_rest_19 (by decide) ?_
    refine J_istore_n (lsn := [vR (r), vI (n), vI (0), vU]) hx dX7_rest_20 (i := 2) rfl (Nat.le_of_ble_eq_true rfl) rfl rfl ?_
    refine J_iconst (v := 0) hx dX7_rest_21 (by decide) ?_
    refine J_istore_n (lsn := [vR (r), vI (n), vI (0), vI (0)]) hx dX7_rest_22 (i := 3) rfl (Nat.le_of_ble_eq_true rfl) rfl rfl ?_
    exact lp_X7_rest hT hN.y hW.y hx hr (n := n) (by omega) (fun M' h1 h2 => hQ.to (S := yS S (rstK S.1 n S.1.n)) (by
      unfold a_rest
      all_goals (try unfold overY at *)
      all_goals (try unfold mayQ at *)
      all_goals (try simp only [Int.toNat_natCast] at *)
      all_goals ((repeat' split) <;> first | rfl | (exfalso; omega) | (congr 1; omega))) (hN.yard h1 h2) (fun b hb => h2.out (by omega))) 0 0 M (by omega) rfl (by rw [rstK_0]; exact hN.y) FrN.rf
  · refine J_aload_n hx dX7_rest_12 (i := 0) rfl rfl ?_
    refine J_bipush (v := -2) hx dX7_rest_13 (by decide) ?_
    refine J_invV (As := [vI ((-2))]) (st := []) hx lk_X7_99 okX7_refuse dX7_rest_15 hT.o (by decide) rfl rfl rfl (Nat.le_of_ble_eq_true rfl) (Nat.zero_add _).symm (Nat.zero_add _).symm rfl (c_X7_refuseS hT hN hW (k := 0) (by decide) ?_)
    intro M1 hN1 hf1
    refine J_iret hx hr dX7_rest_18 ?_
    exact hQ.to (v := -((0 + 2 : Nat) : Int)) (S := rfS S 0) (by
      unfold a_rest
      all_goals (try unfold overY at *)
      all_goals (try unfold mayQ at *)
      all_goals (try simp only [Int.toNat_natCast] at *)
      all_goals ((repeat' split) <;> first | rfl | (exfalso; omega) | (congr 1; omega))) hN1 hf1

set_option maxHeartbeats 4000000 in
theorem lp_X7_again {g : WG} {d : Nat} {T : TT} {M : MM} {r sz : Nat} {A : YA} {Q : MVal → TT → MM → Nat → Prop} (hT : MT T r) (hN : MN M r A) (hW : WFY A) {x : CX} (hx : OKx g x RX7 cX7_again (d + 1)) (hr : RTx g x (some .int) Q) {w : Int} (hQ : ∀ M', MN M' r (rstK A 20 A.n) → FrN r M M' → Q (vI w) T M' sz) (j : Nat) (M1 : MM) (hj : j ≤ A.n) (hN1 : MN M1 r (rstK A 20 j)) (hF1 : FrN r M M1) : Jd g x 17 [vR (r), vI (w), vI (((j : Nat) : Int))] [] T M1 sz 0 0 := by
  have hn8 := hW.n8
  refine J_iload_n hx dX7_again_17 (i := 2) rfl rfl ?_
  refine J_aload_n hx dX7_again_18 (i := 0) rfl rfl ?_
  refine J_getI2 (v := ((A.n : Nat) : Int)) hx fl_X7_82 cl_X7 dX7_again_19 hT.o (by decide) rfl hN1.pp ?_
  refine J_icmp_ge (tgt := 38) hx dX7_again_22 (by decide) (fun c1 => ?_) (fun c1 => ?_)
  · refine J_iload_n hx dX7_again_38 (i := 1) rfl rfl ?_
    refine J_iret hx hr dX7_again_39 ?_
    have ej : j = A.n := by omega
    subst ej
    exact hQ M1 hN1 hF1
  · refine J_aload_n hx dX7_again_25 (i := 0) rfl rfl ?_
    refine J_getR (b := r + 20) hx fl_X7_46 cl_X7 dX7_again_26 hT.o (by decide) rfl hT.r13 ?_
    refine J_iload_n hx dX7_again_29 (i := 2) rfl rfl ?_
    refine J_iconst (v := 0) hx dX7_again_30 (by decide) ?_
    refine J_iast hx j dX7_again_31 hT.k20 (by omega) (hT.l20 (by omega)) ?_
    have hv9 : (0 : Int) = rsv A 20 j := by have := hW.ti (show j < A.n by omega); unfold rsv; split <;> omega
    have hN2 : MN (up2 M1 (r + 20) j 0) r (rstK A 20 (j + 1)) := by rw [← rstK_s, ← hv9]; exact hN1.setA (f := 3) _ (by decide)
    have hF2 : FrN r M (up2 M1 (r + 20) j 0) := hF1.up (Or.inl (by omega)) _
    generalize up2 M1 (r + 20) j 0 = M2 at hN2 hF2 ⊢
    refine J_iinc (v := ((j : Nat) : Int) + 1) (lsn := [vR (r), vI (w), vI (((j : Nat) : Int) + 1)]) hx dX7_again_32 rfl (jinc1 (by omega) (by omega)) rfl rfl ?_
    refine J_goto (tgt := 17) hx dX7_again_35 (by decide) ?_
    exact lp_X7_again hT hN hW hx hr hQ (j + 1) M2 (by omega) hN2 hF2
termination_by A.n - j
decreasing_by all_goals omega

set_option maxHeartbeats 4000000 in
theorem c_X7_again {g : WG} {d : Nat} {T : TT} {M : MM} {r sz : Nat} {S : ST} {Q : MVal → TT → MM → Nat → Prop} (hT : MT T r) (hN : RN M r S) (hW : WFS S) (hQ : RQ r T M sz Q (a_again S)) : Ct g (d + 1) mX7_again [vR (r)] T M sz 0 0 Q := by
  refine Ct_of2 (ls := [vR (r), vU, vU]) okX7_again rfl (Nat.le_of_ble_eq_true rfl) rfl ?_
  intro x hx hr hnm
  have hn8 := hW.y.n8
  refine J_aload_n hx dX7_again_0 (i := 0) rfl rfl ?_
  refine J_getI2 (v := S.1.sc 6) hx fl_X7_274 cl_X7 dX7_again_1 hT.o (by decide) rfl hN.y.s6 ?_
  have rg1 := hW.y.s6
  refine J_istore_n (lsn := [vR (r), vI (S.1.sc 6), vU]) hx dX7_again_4 (i := 1) rfl (Nat.le_of_ble_eq_true rfl) rfl rfl ?_
  refine J_aload_n hx dX7_again_5 (i := 0) rfl rfl ?_
  refine J_iconst (v := 0) hx dX7_again_6 (by decide) ?_
  refine J_putI hx fl_X7_274 cl_X7 dX7_again_7 hT.o (by decide) rfl (Or.inl rfl) (by decide) ?_
  have hN1 : MN (up2 M r 22 0) r (S.1.setS 6 0) := hN.y.setS (q := 6) _ (by decide)
  have hF1 : FrN r M (up2 M r 22 0) := (FrN.rf (r := r) (M := M)).up (Or.inr (by omega)) _
  generalize eM1 : up2 M r 22 0 = M1 at hN1 hF1 ⊢
  refine J_aload_n hx dX7_again_10 (i := 0) rfl rfl ?_
  refine J_iconst (v := 0) hx dX7_again_11 (by decide) ?_
  refine J_putI hx fl_X7_148 cl_X7 dX7_again_12 hT.o (by decide) rfl (Or.inl rfl) (by decide) ?_
  have hN2 : MN (up2 M1 r 21 0) r ((S.1.setS 6 0).setS 5 0) := hN1.setS (q := 5) _ (by decide)
  have hF2 : FrN r M (up2 M1 r 21 0) := hF1.up (Or.inr (by omega)) _
  generalize eM2 : up2 M1 r 21 0 = M2 at hN2 hF2 ⊢
  refine J_iconst (v := 0) hx dX7_again_15 (by decide) ?_
  refine J_istore_n (lsn := [vR (r), vI (S.1.sc 6), vI (0)]) hx dX7_again_16 (i := 2) rfl (Nat.le_of_ble_eq_true rfl) rfl rfl ?_
  have hWx : WFY ((S.1.setS 6 0).setS 5 0) := setS_wf (setS_wf hW.y (by omega)) (by omega)
  exact lp_X7_again (A := (S.1.setS 6 0).setS 5 0) hT hN2 hWx hx hr (fun M' h1 h2 => hQ.to (v := S.1.sc 6) (S := yS S (agn S.1)) rfl (hN.yard h1 (hF2.tr h2)) (fun b hb => (hF2.tr h2).out (by omega))) 0 M2 (by omega) (by rw [rstK_0]; exact hN2) FrN.rf

set_option maxHeartbeats 4000000 in
theorem lp_X7_row {g : WG} {d : Nat} {T : TT} {M : MM} {r sz : Nat} {Q : MVal → TT → MM → Nat → Prop} (hT : MT T r) {x : CX} (hx : OKx g x RX7 cX7_row (d + 1)) (hr : RTx g x (some .int) Q) {s : Nat} {sort n : Int} (hs : s < 8) (hQ : ∀ M', (∀ j, j < 40 → M' (r + 5 + s) j = 0) → (∀ a, a ≠ r + 5 + s → M' a = M a) → Q (vI 1) T M' sz) (i : Nat) (M1 : MM) (hi : i ≤ 40) (h1 : ∀ j, j < i → M1 (r + 5 + s) j = 0) (h2 : ∀ a, a ≠ r + 5 + s → M1 a = M a) : Jd g x 67 [vR (r), vI (((s : Nat) : Int)), vI (sort), vI (n), vI (((i : Nat) : Int))] [] T M1 sz 0 0 := by
  refine J_iload hx dX7_row_67 rfl ?_
  refine J_bipush (v := 40) hx dX7_row_69 (by decide) ?_
  refine J_icmp_ge (tgt := 90) hx dX7_row_71 (by decide) (fun c1 => ?_) (fun c1 => ?_)
  · refine J_iconst (v := 1) hx dX7_row_90 (by decide) ?_
    refine J_iret hx hr dX7_row_91 ?_
    exact hQ M1 (fun j9 h9 => h1 j9 (by omega)) h2
  · refine J_aload_n hx dX7_row_74 (i := 0) rfl rfl ?_
    refine J_getR (b := r + 4) hx fl_X7_21 cl_X7 dX7_row_75 hT.o (by decide) rfl hT.r3 ?_
    refine J_iload_n hx dX7_row_78 (i := 1) rfl rfl ?_
    refine J_aald (b := r + 5 + s) hx s dX7_row_79 hT.k4 (by decide) (by omega) (hT.l4 (by omega)) (hT.f4 (by omega)) ?_
    refine J_iload hx dX7_row_80 rfl ?_
    refine J_lconst (v := 0) hx dX7_row_82 (by decide) ?_
    refine J_last hx i dX7_row_83 (hT.kr (by omega)) (by omega) (hT.lr (by omega) (by omega)) ?_
    generalize eM2 : up2 M1 (r + 5 + s) i 0 = M2
    have hM2a : M2 (r + 5 + s) i = 0 := by rw [← eM2]; exact up2_at
    have hM2o : ∀ b9 j9, (b9 ≠ r + 5 + s ∨ j9 ≠ i) → M2 b9 j9 = M1 b9 j9 := fun b9 j9 h9 => by rw [← eM2]; exact up2_ne h9
    have hM2r : ∀ b9, b9 ≠ r + 5 + s → M2 b9 = M1 b9 := fun b9 h9 => by rw [← eM2]; exact up2_row h9
    refine J_iinc (v := ((i : Nat) : Int) + 1) (lsn := [vR (r), vI (((s : Nat) : Int)), vI (sort), vI (n), vI (((i : Nat) : Int) + 1)]) hx dX7_row_84 rfl (jinc1 (by omega) (by omega)) rfl rfl ?_
    refine J_goto (tgt := 67) hx dX7_row_87 (by decide) ?_
    exact lp_X7_row hT hx hr hs hQ (i + 1) M2 (by omega) (fun j9 h9 => by
        by_cases e : j9 = i
        · subst e; exact hM2a
        · rw [hM2o _ _ (Or.inr e)]; exact h1 j9 (by omega)) (fun a9 h9 => by rw [hM2r _ h9]; exact h2 a9 h9)
termination_by 40 - i
decreasing_by all_goals omega

set_option maxHeartbeats 4000000 in
theorem c_X7_row {g : WG} {d : Nat} {T : TT} {M : MM} {r sz : Nat} {S : ST} {Q : MVal → TT → MM → Nat → Prop} (hT : MT T r) (hN : RN M r S) (hW : WFS S) {s sort n : Int} (h_s : -2147483648 ≤ s ∧ s ≤ 2147483647) (h_sort : -2147483648 ≤ sort ∧ sort ≤ 2147483647) (h_n : -2147483648 ≤ n ∧ n ≤ 2147483647) (hQ : RQ r T M sz Q (a_row S s sort n)) : Ct g (d + 2) mX7_row [vR (r), vI (s), vI (sort), vI (n)] T M sz 0 0 Q := by
  refine Ct_of2 (ls := [vR (r), vI (s), vI (sort), vI (n), vU]) okX7_row rfl (Nat.le_of_ble_eq_true rfl) rfl ?_
  intro x hx hr hnm
  have hn8 := hW.y.n8
  refine J_iload_n hx dX7_row_0 (i := 1) rfl rfl ?_
  refine J_i2l hx dX7_row_1 ?_
  refine J_lconst (v := 0) hx dX7_row_2 (by decide) ?_
  refine J_ldc2 (v := 7) hx ct_X7_93 dX7_row_3 (by decide) ?_
  refine J_invS (As := [vL (s), vL (0), vL (7)]) (st := []) hx lk_X7_85 okX7_in dX7_row_6 rfl rfl (Nat.le_of_ble_eq_true rfl) (Nat.zero_add _).symm (Nat.zero_add _).symm rfl (c_X7_in (a := s) (lo := 0) (hi := 7) ?_)
  intro v1 hv1
  refine J_if_eq (tgt := 36) hx dX7_row_9 (by decide) (fun c2 => ?_) (fun c2 => ?_)
  · refine J_aload_n hx dX7_row_36 (i := 0) rfl rfl ?_
    refine J_bipush (v := -2) hx dX7_row_37 (by decide) ?_
    refine J_invV (As := [vI ((-2))]) (st := []) hx lk_X7_99 okX7_refuse dX7_row_39 hT.o (by decide) rfl rfl rfl (Nat.le_of_ble_eq_true rfl) (Nat.zero_add _).symm (Nat.zero_add _).symm rfl (c_X7_refuseS hT hN hW (k := 0) (by decide) ?_)
    intro M1 hN1 hf1
    refine J_iret hx hr dX7_row_42 ?_
    exact hQ.to (v := -((0 + 2 : Nat) : Int)) (S := rfS S 0) (by
      unfold a_row
      all_goals (try unfold overY at *)
      all_goals (try unfold mayQ at *)
      all_goals (try simp only [Int.toNat_natCast] at *)
      all_goals ((repeat' split) <;> first | rfl | (exfalso; omega) | (congr 1; omega))) hN1 hf1
  · refine J_iload_n hx dX7_row_12 (i := 2) rfl rfl ?_
    refine J_i2l hx dX7_row_13 ?_
    refine J_lconst (v := 0) hx dX7_row_14 (by decide) ?_
    refine J_ldc2 (v := 4) hx ct_X7_95 dX7_row_15 (by decide) ?_
    refine J_invS (As := [vL (sort), vL (0), vL (4)]) (st := []) hx lk_X7_85 okX7_in dX7_row_18 rfl rfl (Nat.le_of_ble_eq_true rfl) (Nat.zero_add _).symm (Nat.zero_add _).symm rfl (c_X7_in (a := sort) (lo := 0) (hi := 4) ?_)
    intro v3 hv3
    refine J_if_eq (tgt := 36) hx dX7_row_21 (by decide) (fun c4 => ?_) (fun c4 => ?_)
    · refine J_aload_n hx dX7_row_36 (i := 0) rfl rfl ?_
      refine J_bipush (v := -2) hx dX7_row_37 (by decide) ?_
      refine J_invV (As := [vI ((-2))]) (st := []) hx lk_X7_99 okX7_refuse dX7_row_39 hT.o (by decide) rfl rfl rfl (Nat.le_of_ble_eq_true rfl) (Nat.zero_add _).symm (Nat.zero_add _).symm rfl (c_X7_refuseS hT hN hW (k := 0) (by decide) ?_)
      intro M1 hN1 hf1
      refine J_iret hx hr dX7_row_42 ?_
      exact hQ.to (v := -((0 + 2 : Nat) : Int)) (S := rfS S 0) (by
        unfold a_row
        all_goals (try unfold overY at *)
        all_goals (try unfold mayQ at *)
        all_goals (try simp only [Int.toNat_natCast] at *)
        all_goals ((repeat' split) <;> first | rfl | (exfalso; omega) | (congr 1; omega))) hN1 hf1
    · refine J_iload_n hx dX7_row_24 (i := 3) rfl rfl ?_
      refine J_i2l hx dX7_row_25 ?_
      refine J_lconst (v := 0) hx dX7_row_26 (by decide) ?_
      refine J_ldc2 (v := 40) hx ct_X7_97 dX7_row_27 (by decide) ?_
      refine J_invS (As := [vL (n), vL (0), vL (40)]) (st := []) hx lk_X7_85 okX7_in dX7_row_30 rfl rfl (Nat.le_of_ble_eq_true rfl) (Nat.zero_add _).symm (Nat.zero_add _).symm rfl (c_X7_in (a := n) (lo := 0) (hi := 40) ?_)
      intro v5 hv5
      refine J_if_ne (tgt := 43) hx dX7_row_33 (by decide) (fun c6 => ?_) (fun c6 => ?_)
      · obtain ⟨sN, rfl⟩ : ∃ z : Nat, s = ((z : Nat) : Int) := ⟨s.toNat, by omega⟩
        refine J_aload_n hx dX7_row_43 (i := 0) rfl rfl ?_
        refine J_getR (b := r + 1) hx fl_X7_7 cl_X7 dX7_row_44 hT.o (by decide) rfl hT.r0 ?_
        refine J_iload_n hx dX7_row_47 (i := 1) rfl rfl ?_
        refine J_iconst (v := 1) hx dX7_row_48 (by decide) ?_
        refine J_iast hx sN dX7_row_49 hT.k1 (by omega) (hT.l1 (by omega)) ?_
        generalize eM1 : up2 M (r + 1) sN 1 = M1
        have hM1a : M1 (r + 1) sN = 1 := by rw [← eM1]; exact up2_at
        have hM1o : ∀ b9 j9, (b9 ≠ r + 1 ∨ j9 ≠ sN) → M1 b9 j9 = M b9 j9 := fun b9 j9 h9 => by rw [← eM1]; exact up2_ne h9
        have hM1r : ∀ b9, b9 ≠ r + 1 → M1 b9 = M b9 := fun b9 h9 => by rw [← eM1]; exact up2_row h9
        refine J_aload_n hx dX7_row_50 (i := 0) rfl rfl ?_
        refine J_getR (b := r + 2) hx fl_X7_13 cl_X7 dX7_row_51 hT.o (by decide) rfl hT.r1 ?_
        refine J_iload_n hx dX7_row_54 (i := 1) rfl rfl ?_
        refine J_iload_n hx dX7_row_55 (i := 2) rfl rfl ?_
        refine J_iast hx sN dX7_row_56 hT.k2 (by omega) (hT.l2 (by omega)) ?_
        generalize eM2 : up2 M1 (r + 2) sN sort = M2
        have hM2a : M2 (r + 2) sN = sort := by rw [← eM2]; exact up2_at
        have hM2o : ∀ b9 j9, (b9 ≠ r + 2 ∨ j9 ≠ sN) → M2 b9 j9 = M1 b9 j9 := fun b9 j9 h9 => by rw [← eM2]; exact up2_ne h9
        have hM2r : ∀ b9, b9 ≠ r + 2 → M2 b9 = M1 b9 := fun b9 h9 => by rw [← eM2]; exact up2_row h9
        refine J_aload_n hx dX7_row_57 (i := 0) rfl rfl ?_
        refine J_getR (b := r + 3) hx fl_X7_16 cl_X7 dX7_row_58 hT.o (by decide) rfl hT.r2 ?_
        refine J_iload_n hx dX7_row_61 (i := 1) rfl rfl ?_
        refine J_iload_n hx dX7_row_62 (i := 3) rfl rfl ?_
        refine J_iast hx sN dX7_row_63 hT.k3 (by omega) (hT.l3 (by omega)) ?_
        generalize eM3 : up2 M2 (r + 3) sN n = M3
        have hM3a : M3 (r + 3) sN = n := by rw [← eM3]; exact up2_at
        have hM3o : ∀ b9 j9, (b9 ≠ r + 3 ∨ j9 ≠ sN) → M3 b9 j9 = M2 b9 j9 := fun b9 j9 h9 => by rw [← eM3]; exact up2_ne h9
        have hM3r : ∀ b9, b9 ≠ r + 3 → M3 b9 = M2 b9 := fun b9 h9 => by rw [← eM3]; exact up2_row h9
        refine J_iconst (v := 0) hx dX7_row_64 (by decide) ?_
        refine J_istore (lsn := [vR (r), vI (((sN : Nat) : Int)), vI (sort), vI (n), vI (0)]) hx dX7_row_65 (Nat.le_of_ble_eq_true rfl) rfl rfl ?_
        exact lp_X7_row hT hx hr (s := sN) (by omega) (fun M' h1 h2 => hQ.to (S := shS S sN (sort, n, fun _ => 0)) (by
          unfold a_row
          all_goals (try unfold overY at *)
          all_goals (try unfold mayQ at *)
          all_goals (try simp only [Int.toNat_natCast] at *)
          all_goals ((repeat' split) <;> first | rfl | (exfalso; omega) | (congr 1; omega))) (hN.shelf (by omega) (by rw [h2 _ (by omega), hM3r _ (by omega), hM2r _ (by omega), hM1a]; unfold shc; dsimp only; (repeat' split) <;> omega) (fun _ => ⟨by rw [h2 _ (by omega), hM3r _ (by omega), hM2a], by rw [h2 _ (by omega), hM3a], h1⟩) (fun q9 => by dsimp only at q9; omega) (fun a j9 h8 h9 => by rw [h2 a h9, hM3o a j9 (by omega), hM2o a j9 (by omega), hM1o a j9 (by omega)])) (fun b hb => by rw [h2 b (by omega), hM3r b (by omega), hM2r b (by omega), hM1r b (by omega)])) 0 M3 (by omega) (fun j9 h9 => absurd h9 (Nat.not_lt_zero j9)) (fun _ _ => rfl)
      · refine J_aload_n hx dX7_row_36 (i := 0) rfl rfl ?_
        refine J_bipush (v := -2) hx dX7_row_37 (by decide) ?_
        refine J_invV (As := [vI ((-2))]) (st := []) hx lk_X7_99 okX7_refuse dX7_row_39 hT.o (by decide) rfl rfl rfl (Nat.le_of_ble_eq_true rfl) (Nat.zero_add _).symm (Nat.zero_add _).symm rfl (c_X7_refuseS hT hN hW (k := 0) (by decide) ?_)
        intro M1 hN1 hf1
        refine J_iret hx hr dX7_row_42 ?_
        exact hQ.to (v := -((0 + 2 : Nat) : Int)) (S := rfS S 0) (by
          unfold a_row
          all_goals (try unfold overY at *)
          all_goals (try unfold mayQ at *)
          all_goals (try simp only [Int.toNat_natCast] at *)
          all_goals ((repeat' split) <;> first | rfl | (exfalso; omega) | (congr 1; omega))) hN1 hf1

