def mayC (what v : Int) : Prop := (what = 0 ∧ 0 ≤ v ∧ v ≤ 30) ∨ (what = 1 ∧ 1 ≤ v ∧ v ≤ 10) ∨ ((what = 2 ∨ what = 4) ∧ 0 ≤ v ∧ v ≤ 1) ∨ (what = 3 ∧ 1 ≤ v ∧ v ≤ 99)
theorem setS_wf {A : YA} (h : WFY A) {q : Nat} {v : Int} (hq : (q = 1 ∧ 0 ≤ v ∧ v ≤ 30) ∨ (q = 2 ∧ 1 ≤ v ∧ v ≤ 10) ∨ ((q = 3 ∨ q = 5) ∧ 0 ≤ v ∧ v ≤ 1) ∨ (q = 4 ∧ 1 ≤ v ∧ v ≤ 99) ∨ (q = 6 ∧ 0 ≤ v ∧ v ≤ 99) ∨ (q = 7 ∧ -2147483648 ≤ v ∧ v ≤ 2147483647)) : WFY (A.setS q v) := by
  have e : ∀ q', (A.setS q v).sc q' = if q' = q then v else A.sc q' := fun _ => rfl
  have h1 := h.s1; have h2 := h.s2; have h3 := h.s3; have h4 := h.s4; have h5 := h.s5; have h6 := h.s6; have h7 := h.s7
  refine ⟨h.1, h.2.1, h.2.2.1, h.2.2.2.1, h.2.2.2.2.1, h.len, fun p hp => ⟨h.kd hp, h.gr hp, h.we hp, h.ti hp, h.by_ hp⟩, ?_, ?_, ?_, ?_, ?_, ?_, ?_⟩
  all_goals rw [e]
  all_goals split
  all_goals omega
theorem setA_wf {A : YA} (h : WFY A) {f i : Nat} {v : Int} (hf : f = 1 ∨ f = 2 ∨ f = 3) (hv : 0 ≤ v ∧ v ≤ 20) : WFY (A.setA f i v) := by
  have e : ∀ f' i', (A.setA f i v).att f' i' = if f' = f ∧ i' = i then v else A.att f' i' := fun _ _ => rfl
  refine ⟨h.1, h.2.1, h.2.2.1, h.2.2.2.1, h.2.2.2.2.1, h.len, fun p hp => ?_, h.s1, h.s2, h.s3, h.s4, h.s5, h.s6, h.s7⟩
  have hp2 : p < A.n := hp
  have h1 := h.kd hp2; have h2 := h.gr hp2; have h3 := h.we hp2; have h4 := h.ti hp2; have h5 := h.by_ hp2
  rw [e, e, e, e, e]
  refine ⟨?_, ?_, ?_, ?_, ?_⟩
  all_goals split
  all_goals omega
def agn (A : YA) : YA := rstK ((A.setS 6 0).setS 5 0) 20 A.n

def a_seed (S : ST) (v : Int) : Int × ST := (S.1.sc 7, yS S (S.1.setS 7 v))
def a_rest (S : ST) (n : Int) : Int × ST := if ¬ (0 ≤ n ∧ n ≤ 20) then rA S 0 else (((rstC S.1 n S.1.n : Nat) : Int), yS S (rstK S.1 n S.1.n))
def a_again (S : ST) : Int × ST := (S.1.sc 6, yS S (agn S.1))
def a_tell (S : ST) (p w v : Int) : Int × ST := if ¬ (0 ≤ p ∧ p < S.1.n ∧ 0 ≤ w ∧ w ≤ 2 ∧ 0 ≤ v ∧ v ≤ 20) then rA S 0 else (S.1.att (w.toNat + 1) p.toNat, yS S (S.1.setA (w.toNat + 1) p.toNat v))
def a_ask (S : ST) (what v : Int) : Int × ST := if ¬ ((what = 0 ∧ 0 ≤ v ∧ v ≤ 30) ∨ (what = 1 ∧ 1 ≤ v ∧ v ≤ 10) ∨ ((what = 2 ∨ what = 4) ∧ 0 ≤ v ∧ v ≤ 1) ∨ (what = 3 ∧ 1 ≤ v ∧ v ≤ 99)) then rA S 0 else (S.1.sc (what.toNat + 1), yS S (S.1.setS (what.toNat + 1) v))
def a_one (S : ST) (c k gr w a : Int) : Int × ST := if ¬ ((c = 0 ∨ c = 1) ∧ 0 ≤ k ∧ k ≤ 5 ∧ 0 ≤ gr ∧ gr ≤ 20 ∧ 0 ≤ w ∧ w ≤ 20 ∧ 0 ≤ a ∧ a ≤ 9) then rA S 0 else if 8 ≤ S.1.n then rA S 4 else (((S.1.n : Nat) : Int), yS S (addY S.1 c.toNat k gr w a))
set_option maxHeartbeats 4000000 in
theorem c_X6_seed {g : WG} {d : Nat} {T : TT} {M : MM} {o sz : Nat} {S : ST} {Q : MVal → TT → MM → Nat → Prop} (hC : CT T o) (hN : CN M o S) (hW : WFS S) {v : Int} (h_v : -2147483648 ≤ v ∧ v ≤ 2147483647) (hQ : CQ o T M sz Q (a_seed S v)) : Ct g (d + 1) mX6_seed [vR (o), vI (v)] T M sz 0 0 Q := by
  refine Ct_of2 (ls := [vR (o), vI (v), vU]) okX6_seed rfl (Nat.le_of_ble_eq_true rfl) rfl ?_
  intro x hx hr hnm
  have hn8 := hW.y.n8
  have ht2 := hW.y.tn2
  have hl8 := hW.y.len8 ht2
  refine J_aload_n hx dX6_seed_0 (i := 0) rfl rfl ?_
  refine J_getR (b := o + 1) hx fl_X6_10 cl_X6 dX6_seed_1 hC.o (by decide) rfl hC.r0 ?_
  refine J_getI2 (v := S.1.sc 7) hx fl_X6_317 cl_X5 dX6_seed_4 hC.y0.o (by decide) rfl hN.y.s7 ?_
  have rg1 := hW.y.s7
  refine J_istore_n (lsn := [vR (o), vI (v), vI (S.1.sc 7)]) hx dX6_seed_7 (i := 2) rfl (Nat.le_of_ble_eq_true rfl) rfl rfl ?_
  refine J_aload_n hx dX6_seed_8 (i := 0) rfl rfl ?_
  refine J_getR (b := o + 1) hx fl_X6_10 cl_X6 dX6_seed_9 hC.o (by decide) rfl hC.r0 ?_
  refine J_iload_n hx dX6_seed_12 (i := 1) rfl rfl ?_
  refine J_putI hx fl_X6_317 cl_X5 dX6_seed_13 hC.y0.o (by decide) rfl (Or.inl rfl) (by decide) ?_
  have hW1 : WFY (S.1.setS 7 v) := setS_wf hW.y (by omega)
  have hY1 : YN (up2 M (o + 1) 15 v) (o + 1) (S.1.setS 7 v) := ((hN.y.toP hW.y).setS (q := 7) _ (by decide)).toN hW1
  have hF1 : FrY (o + 1) M (up2 M (o + 1) 15 v) := (FrY.rf (r := o + 1) (M := M)).up (k := 0) (by decide) _
  generalize eM1 : up2 M (o + 1) 15 v = M1 at hY1 hF1 ⊢
  refine J_iload_n hx dX6_seed_16 (i := 2) rfl rfl ?_
  refine J_iret hx hr dX6_seed_17 ?_
  exact hQ.to (v := S.1.sc 7) (S := yS S (S.1.setS 7 v)) (by
    unfold a_seed
    all_goals (try unfold overY at *)
    all_goals (try unfold mayQ at *)
    all_goals (try simp only [Int.toNat_natCast] at *)
    all_goals ((repeat' split) <;> first | rfl | (exfalso; omega) | (congr 1; omega))) hC (hN.yard hY1 hF1) (fun b hb => hF1 b (by omega))

set_option maxHeartbeats 4000000 in
theorem c_X6_rest {g : WG} {d : Nat} {T : TT} {M : MM} {o sz : Nat} {S : ST} {Q : MVal → TT → MM → Nat → Prop} (hC : CT T o) (hN : CN M o S) (hW : WFS S) {n : Int} (h_n : -2147483648 ≤ n ∧ n ≤ 2147483647) (hQ : CQ o T M sz Q (a_rest S n)) : Ct g (d + 3) mX6_rest [vR (o), vI (n)] T M sz 0 0 Q := by
  refine Ct_of2 (ls := [vR (o), vI (n)]) okX6_rest rfl (Nat.le_of_ble_eq_true rfl) rfl ?_
  intro x hx hr hnm
  have hn8 := hW.y.n8
  have ht2 := hW.y.tn2
  have hl8 := hW.y.len8 ht2
  refine J_iload_n hx dX6_rest_0 (i := 1) rfl rfl ?_
  refine J_invS (As := [vI (n)]) (st := []) hx lk_X6_135 okX6_isLevel dX6_rest_1 rfl rfl (Nat.le_of_ble_eq_true rfl) (Nat.zero_add _).symm (Nat.zero_add _).symm rfl (c_X6_isLevel (a := n) ?_)
  intro v1 hv1
  refine J_if_ne (tgt := 14) hx dX6_rest_4 (by decide) (fun c2 => ?_) (fun c2 => ?_)
  · refine J_aload_n hx dX6_rest_14 (i := 0) rfl rfl ?_
    refine J_getR (b := o + 1) hx fl_X6_10 cl_X6 dX6_rest_15 hC.o (by decide) rfl hC.r0 ?_
    refine J_iload_n hx dX6_rest_18 (i := 1) rfl rfl ?_
    refine J_invV (As := [vI (n)]) (st := []) hx lk_X6_314 okX5_restAll dX6_rest_19 hC.y0.o (by decide) rfl rfl rfl (Nat.le_of_ble_eq_true rfl) (Nat.zero_add _).symm (Nat.zero_add _).symm rfl (c_X5_restAll hC.y0 hN.y hW.y (n := n) (by omega) ?_)
    intro M1 hY1 hf1
    have hW1 : WFY (rstK S.1 n S.1.n) := rstK_wf hW.y (by omega) _
    have hF1 := (FrY.rf (r := o + 1) (M := M)).tr hf1
    refine J_iret hx hr dX6_rest_22 ?_
    exact hQ.to (v := ((rstC S.1 n S.1.n : Nat) : Int)) (S := yS S (rstK S.1 n S.1.n)) (by
      unfold a_rest
      all_goals (try unfold overY at *)
      all_goals (try unfold mayQ at *)
      all_goals (try simp only [Int.toNat_natCast] at *)
      all_goals ((repeat' split) <;> first | rfl | (exfalso; omega) | (congr 1; omega))) hC (hN.yard hY1 hF1) (fun b hb => hF1 b (by omega))
  · refine J_aload_n hx dX6_rest_7 (i := 0) rfl rfl ?_
    refine J_bipush (v := -2) hx dX6_rest_8 (by decide) ?_
    refine J_invV (As := [vI ((-2))]) (st := []) hx lk_X6_67 okX6_refuse dX6_rest_10 hC.o (by decide) rfl rfl rfl (Nat.le_of_ble_eq_true rfl) (Nat.zero_add _).symm (Nat.zero_add _).symm rfl (c_X6_refuse hC hN hW (k := 0) (by decide) ?_)
    intro M1 hN1 hf1
    refine J_iret hx hr dX6_rest_13 ?_
    exact hQ.to (v := -((0 + 2 : Nat) : Int)) (S := rfS S 0) (by
      unfold a_rest
      all_goals (try unfold overY at *)
      all_goals (try unfold mayQ at *)
      all_goals (try simp only [Int.toNat_natCast] at *)
      all_goals ((repeat' split) <;> first | rfl | (exfalso; omega) | (congr 1; omega))) hC hN1 hf1

set_option maxHeartbeats 4000000 in
theorem c_X6_again {g : WG} {d : Nat} {T : TT} {M : MM} {o sz : Nat} {S : ST} {Q : MVal → TT → MM → Nat → Prop} (hC : CT T o) (hN : CN M o S) (hW : WFS S)  (hQ : CQ o T M sz Q (a_again S)) : Ct g (d + 3) mX6_again [vR (o)] T M sz 0 0 Q := by
  refine Ct_of2 (ls := [vR (o), vU]) okX6_again rfl (Nat.le_of_ble_eq_true rfl) rfl ?_
  intro x hx hr hnm
  have hn8 := hW.y.n8
  have ht2 := hW.y.tn2
  have hl8 := hW.y.len8 ht2
  refine J_aload_n hx dX6_again_0 (i := 0) rfl rfl ?_
  refine J_getR (b := o + 1) hx fl_X6_10 cl_X6 dX6_again_1 hC.o (by decide) rfl hC.r0 ?_
  refine J_getI2 (v := S.1.sc 6) hx fl_X6_303 cl_X5 dX6_again_4 hC.y0.o (by decide) rfl hN.y.s6 ?_
  have rg1 := hW.y.s6
  refine J_istore_n (lsn := [vR (o), vI (S.1.sc 6)]) hx dX6_again_7 (i := 1) rfl (Nat.le_of_ble_eq_true rfl) rfl rfl ?_
  refine J_aload_n hx dX6_again_8 (i := 0) rfl rfl ?_
  refine J_getR (b := o + 1) hx fl_X6_10 cl_X6 dX6_again_9 hC.o (by decide) rfl hC.r0 ?_
  refine J_iconst (v := 0) hx dX6_again_12 (by decide) ?_
  refine J_putI hx fl_X6_303 cl_X5 dX6_again_13 hC.y0.o (by decide) rfl (Or.inl rfl) (by decide) ?_
  have hW1 : WFY (S.1.setS 6 0) := setS_wf hW.y (by omega)
  have hY1 : YN (up2 M (o + 1) 14 0) (o + 1) (S.1.setS 6 0) := ((hN.y.toP hW.y).setS (q := 6) _ (by decide)).toN hW1
  have hF1 : FrY (o + 1) M (up2 M (o + 1) 14 0) := (FrY.rf (r := o + 1) (M := M)).up (k := 0) (by decide) _
  generalize eM1 : up2 M (o + 1) 14 0 = M1 at hY1 hF1 ⊢
  refine J_aload_n hx dX6_again_16 (i := 0) rfl rfl ?_
  refine J_getR (b := o + 1) hx fl_X6_10 cl_X6 dX6_again_17 hC.o (by decide) rfl hC.r0 ?_
  refine J_iconst (v := 0) hx dX6_again_20 (by decide) ?_
  refine J_putI hx fl_X6_169 cl_X5 dX6_again_21 hC.y0.o (by decide) rfl (Or.inl rfl) (by decide) ?_
  have hW2 : WFY ((S.1.setS 6 0).setS 5 0) := setS_wf hW1 (by omega)
  have hY2 : YN (up2 M1 (o + 1) 13 0) (o + 1) ((S.1.setS 6 0).setS 5 0) := ((hY1.toP hW1).setS (q := 5) _ (by decide)).toN hW2
  have hF2 : FrY (o + 1) M (up2 M1 (o + 1) 13 0) := hF1.up (k := 0) (by decide) _
  generalize eM2 : up2 M1 (o + 1) 13 0 = M2 at hY2 hF2 ⊢
  refine J_aload_n hx dX6_again_24 (i := 0) rfl rfl ?_
  refine J_getR (b := o + 1) hx fl_X6_10 cl_X6 dX6_again_25 hC.o (by decide) rfl hC.r0 ?_
  refine J_bipush (v := 20) hx dX6_again_28 (by decide) ?_
  refine J_invV (As := [vI (20)]) (st := []) hx lk_X6_314 okX5_restAll dX6_again_30 hC.y0.o (by decide) rfl rfl rfl (Nat.le_of_ble_eq_true rfl) (Nat.zero_add _).symm (Nat.zero_add _).symm rfl (c_X5_restAll hC.y0 hY2 hW2 (n := 20) (by omega) ?_)
  intro M3 hY3 hf3
  have hW3 : WFY (rstK ((S.1.setS 6 0).setS 5 0) 20 ((S.1.setS 6 0).setS 5 0).n) := rstK_wf hW2 (by omega) _
  have hF3 := hF2.tr hf3
  refine J_pop hx dX6_again_33 rfl ?_
  refine J_iload_n hx dX6_again_34 (i := 1) rfl rfl ?_
  refine J_iret hx hr dX6_again_35 ?_
  exact hQ.to (v := S.1.sc 6) (S := yS S (rstK ((S.1.setS 6 0).setS 5 0) 20 ((S.1.setS 6 0).setS 5 0).n)) (by
    unfold a_again
    all_goals (try unfold overY at *)
    all_goals (try unfold mayQ at *)
    all_goals (try simp only [Int.toNat_natCast] at *)
    all_goals ((repeat' split) <;> first | rfl | (exfalso; omega) | (congr 1; omega))) hC (hN.yard hY3 hF3) (fun b hb => hF3 b (by omega))

set_option maxHeartbeats 4000000 in
theorem c_X6_tell {g : WG} {d : Nat} {T : TT} {M : MM} {o sz : Nat} {S : ST} {Q : MVal → TT → MM → Nat → Prop} (hC : CT T o) (hN : CN M o S) (hW : WFS S) {p w v : Int} (h_p : -2147483648 ≤ p ∧ p ≤ 2147483647) (h_w : -2147483648 ≤ w ∧ w ≤ 2147483647) (h_v : -2147483648 ≤ v ∧ v ≤ 2147483647) (hQ : CQ o T M sz Q (a_tell S p w v)) : Ct g (d + 2) mX6_tell [vR (o), vI (p), vI (w), vI (v)] T M sz 0 0 Q := by
  refine Ct_of2 (ls := [vR (o), vI (p), vI (w), vI (v), vU, vU]) okX6_tell rfl (Nat.le_of_ble_eq_true rfl) rfl ?_
  intro x hx hr hnm
  have hn8 := hW.y.n8
  have ht2 := hW.y.tn2
  have hl8 := hW.y.len8 ht2
  refine J_aload_n hx dX6_tell_0 (i := 0) rfl rfl ?_
  refine J_getR (b := o + 1) hx fl_X6_10 cl_X6 dX6_tell_1 hC.o (by decide) rfl hC.r0 ?_
  refine J_iload_n hx dX6_tell_4 (i := 1) rfl rfl ?_
  refine J_invV (As := [vI (p)]) (st := []) hx lk_X6_111 okX5_has dX6_tell_5 hC.y0.o (by decide) rfl rfl rfl (Nat.le_of_ble_eq_true rfl) (Nat.zero_add _).symm (Nat.zero_add _).symm rfl (c_X5_has hC.y0 hN.y hW.y (one := p) ?_)
  intro v1 hv1
  refine J_if_eq (tgt := 27) hx dX6_tell_8 (by decide) (fun c2 => ?_) (fun c2 => ?_)
  · refine J_aload_n hx dX6_tell_27 (i := 0) rfl rfl ?_
    refine J_bipush (v := -2) hx dX6_tell_28 (by decide) ?_
    refine J_invV (As := [vI ((-2))]) (st := []) hx lk_X6_67 okX6_refuse dX6_tell_30 hC.o (by decide) rfl rfl rfl (Nat.le_of_ble_eq_true rfl) (Nat.zero_add _).symm (Nat.zero_add _).symm rfl (c_X6_refuse hC hN hW (k := 0) (by decide) ?_)
    intro M1 hN1 hf1
    refine J_iret hx hr dX6_tell_33 ?_
    exact hQ.to (v := -((0 + 2 : Nat) : Int)) (S := rfS S 0) (by
      unfold a_tell
      all_goals (try unfold overY at *)
      all_goals (try unfold mayQ at *)
      all_goals (try simp only [Int.toNat_natCast] at *)
      all_goals ((repeat' split) <;> first | rfl | (exfalso; omega) | (congr 1; omega) | (rcases (show w = 0 ∨ w = 1 ∨ w = 2 by omega) with rfl | rfl | rfl <;> first | rfl | (exfalso; omega)))) hC hN1 hf1
  · refine J_iload_n hx dX6_tell_11 (i := 2) rfl rfl ?_
    refine J_if_lt (tgt := 27) hx dX6_tell_12 (by decide) (fun c3 => ?_) (fun c3 => ?_)
    · refine J_aload_n hx dX6_tell_27 (i := 0) rfl rfl ?_
      refine J_bipush (v := -2) hx dX6_tell_28 (by decide) ?_
      refine J_invV (As := [vI ((-2))]) (st := []) hx lk_X6_67 okX6_refuse dX6_tell_30 hC.o (by decide) rfl rfl rfl (Nat.le_of_ble_eq_true rfl) (Nat.zero_add _).symm (Nat.zero_add _).symm rfl (c_X6_refuse hC hN hW (k := 0) (by decide) ?_)
      intro M1 hN1 hf1
      refine J_iret hx hr dX6_tell_33 ?_
      exact hQ.to (v := -((0 + 2 : Nat) : Int)) (S := rfS S 0) (by
        unfold a_tell
        all_goals (try unfold overY at *)
        all_goals (try unfold mayQ at *)
        all_goals (try simp only [Int.toNat_natCast] at *)
        all_goals ((repeat' split) <;> first | rfl | (exfalso; omega) | (congr 1; omega) | (rcases (show w = 0 ∨ w = 1 ∨ w = 2 by omega) with rfl | rfl | rfl <;> first | rfl | (exfalso; omega)))) hC hN1 hf1
    · refine J_iload_n hx dX6_tell_15 (i := 2) rfl rfl ?_
      refine J_iconst (v := 2) hx dX6_tell_16 (by decide) ?_
      refine J_icmp_gt (tgt := 27) hx dX6_tell_17 (by decide) (fun c4 => ?_) (fun c4 => ?_)
      · refine J_aload_n hx dX6_tell_27 (i := 0) rfl rfl ?_
        refine J_bipush (v := -2) hx dX6_tell_28 (by decide) ?_
        refine J_invV (As := [vI ((-2))]) (st := []) hx lk_X6_67 okX6_refuse dX6_tell_30 hC.o (by decide) rfl rfl rfl (Nat.le_of_ble_eq_true rfl) (Nat.zero_add _).symm (Nat.zero_add _).symm rfl (c_X6_refuse hC hN hW (k := 0) (by decide) ?_)
        intro M1 hN1 hf1
        refine J_iret hx hr dX6_tell_33 ?_
        exact hQ.to (v := -((0 + 2 : Nat) : Int)) (S := rfS S 0) (by
          unfold a_tell
          all_goals (try unfold overY at *)
          all_goals (try unfold mayQ at *)
          all_goals (try simp only [Int.toNat_natCast] at *)
          all_goals ((repeat' split) <;> first | rfl | (exfalso; omega) | (congr 1; omega) | (rcases (show w = 0 ∨ w = 1 ∨ w = 2 by omega) with rfl | rfl | rfl <;> first | rfl | (exfalso; omega)))) hC hN1 hf1
      · refine J_iload_n hx dX6_tell_20 (i := 3) rfl rfl ?_
        refine J_invS (As := [vI (v)]) (st := []) hx lk_X6_135 okX6_isLevel dX6_tell_21 rfl rfl (Nat.le_of_ble_eq_true rfl) (Nat.zero_add _).symm (Nat.zero_add _).symm rfl (c_X6_isLevel (a := v) ?_)
        intro v5 hv5
        refine J_if_ne (tgt := 34) hx dX6_tell_24 (by decide) (fun c6 => ?_) (fun c6 => ?_)
        · obtain ⟨pN, rfl⟩ : ∃ z : Nat, p = ((z : Nat) : Int) := ⟨p.toNat, by omega⟩
          refine J_iload_n hx dX6_tell_34 (i := 2) rfl rfl ?_
          refine J_if_ne (tgt := 48) hx dX6_tell_35 (by decide) (fun c7 => ?_) (fun c7 => ?_)
          · refine J_iload_n hx dX6_tell_48 (i := 2) rfl rfl ?_
            refine J_iconst (v := 1) hx dX6_tell_49 (by decide) ?_
            refine J_icmp_ne (tgt := 63) hx dX6_tell_50 (by decide) (fun c8 => ?_) (fun c8 => ?_)
            · refine J_aload_n hx dX6_tell_63 (i := 0) rfl rfl ?_
              refine J_getR (b := o + 1) hx fl_X6_10 cl_X6 dX6_tell_64 hC.o (by decide) rfl hC.r0 ?_
              refine J_getR (b := o + 1 + 4) hx fl_X6_151 cl_X5 dX6_tell_67 hC.y0.o (by decide) rfl hC.y0.r3 ?_
              refine J_astore (lsn := [vR (o), vI (((pN : Nat) : Int)), vI (w), vI (v), vR (o + 1 + 4), vU]) hx dX6_tell_70 (Nat.le_of_ble_eq_true rfl) rfl rfl ?_
              refine J_aload hx dX6_tell_72 rfl ?_
              refine J_iload_n hx dX6_tell_74 (i := 1) rfl rfl ?_
              refine J_iald2 (v := S.1.att 3 pN) hx pN dX6_tell_75 hC.y0.k4 (by omega) (hC.y0.l4 (by omega)) (hN.y.ti (by omega)) ?_
              have rg9 := hW.y.ti (p := pN) (by omega)
              refine J_istore (lsn := [vR (o), vI (((pN : Nat) : Int)), vI (w), vI (v), vR (o + 1 + 4), vI (S.1.att 3 pN)]) hx dX6_tell_76 (Nat.le_of_ble_eq_true rfl) rfl rfl ?_
              refine J_aload hx dX6_tell_78 rfl ?_
              refine J_iload_n hx dX6_tell_80 (i := 1) rfl rfl ?_
              refine J_iload_n hx dX6_tell_81 (i := 3) rfl rfl ?_
              refine J_iast hx pN dX6_tell_82 hC.y0.k4 (by omega) (hC.y0.l4 (by omega)) ?_
              have hW1 : WFY (S.1.setA 3 pN v) := setA_wf hW.y (by decide) (by omega)
              have hY1 : YN (up2 M (o + 1 + 4) pN v) (o + 1) (S.1.setA 3 pN v) := ((hN.y.toP hW.y).setA (f := 3) _ (by decide)).toN hW1
              have hF1 : FrY (o + 1) M (up2 M (o + 1 + 4) pN v) := (FrY.rf (r := o + 1) (M := M)).up (k := 4) (by decide) _
              generalize eM1 : up2 M (o + 1 + 4) pN v = M1 at hY1 hF1 ⊢
              refine J_iload hx dX6_tell_83 rfl ?_
              refine J_iret hx hr dX6_tell_85 ?_
              exact hQ.to (v := S.1.att 3 pN) (S := yS S (S.1.setA 3 pN v)) (by
                unfold a_tell
                all_goals (try unfold overY at *)
                all_goals (try unfold mayQ at *)
                all_goals (try simp only [Int.toNat_natCast] at *)
                all_goals ((repeat' split) <;> first | rfl | (exfalso; omega) | (congr 1; omega) | (rcases (show w = 0 ∨ w = 1 ∨ w = 2 by omega) with rfl | rfl | rfl <;> first | rfl | (exfalso; omega)))) hC (hN.yard hY1 hF1) (fun b hb => hF1 b (by omega))
            · refine J_aload_n hx dX6_tell_53 (i := 0) rfl rfl ?_
              refine J_getR (b := o + 1) hx fl_X6_10 cl_X6 dX6_tell_54 hC.o (by decide) rfl hC.r0 ?_
              refine J_getR (b := o + 1 + 3) hx fl_X6_148 cl_X5 dX6_tell_57 hC.y0.o (by decide) rfl hC.y0.r2 ?_
              refine J_goto (tgt := 70) hx dX6_tell_60 (by decide) ?_
              refine J_astore (lsn := [vR (o), vI (((pN : Nat) : Int)), vI (w), vI (v), vR (o + 1 + 3), vU]) hx dX6_tell_70 (Nat.le_of_ble_eq_true rfl) rfl rfl ?_
              refine J_aload hx dX6_tell_72 rfl ?_
              refine J_iload_n hx dX6_tell_74 (i := 1) rfl rfl ?_
              refine J_iald2 (v := S.1.att 2 pN) hx pN dX6_tell_75 hC.y0.k3 (by omega) (hC.y0.l3 (by omega)) (hN.y.we (by omega)) ?_
              have rg10 := hW.y.we (p := pN) (by omega)
              refine J_istore (lsn := [vR (o), vI (((pN : Nat) : Int)), vI (w), vI (v), vR (o + 1 + 3), vI (S.1.att 2 pN)]) hx dX6_tell_76 (Nat.le_of_ble_eq_true rfl) rfl rfl ?_
              refine J_aload hx dX6_tell_78 rfl ?_
              refine J_iload_n hx dX6_tell_80 (i := 1) rfl rfl ?_
              refine J_iload_n hx dX6_tell_81 (i := 3) rfl rfl ?_
              refine J_iast hx pN dX6_tell_82 hC.y0.k3 (by omega) (hC.y0.l3 (by omega)) ?_
              have hW1 : WFY (S.1.setA 2 pN v) := setA_wf hW.y (by decide) (by omega)
              have hY1 : YN (up2 M (o + 1 + 3) pN v) (o + 1) (S.1.setA 2 pN v) := ((hN.y.toP hW.y).setA (f := 2) _ (by decide)).toN hW1
              have hF1 : FrY (o + 1) M (up2 M (o + 1 + 3) pN v) := (FrY.rf (r := o + 1) (M := M)).up (k := 3) (by decide) _
              generalize eM1 : up2 M (o + 1 + 3) pN v = M1 at hY1 hF1 ⊢
              refine J_iload hx dX6_tell_83 rfl ?_
              refine J_iret hx hr dX6_tell_85 ?_
              exact hQ.to (v := S.1.att 2 pN) (S := yS S (S.1.setA 2 pN v)) (by
                unfold a_tell
                all_goals (try unfold overY at *)
                all_goals (try unfold mayQ at *)
                all_goals (try simp only [Int.toNat_natCast] at *)
                all_goals ((repeat' split) <;> first | rfl | (exfalso; omega) | (congr 1; omega) | (rcases (show w = 0 ∨ w = 1 ∨ w = 2 by omega) with rfl | rfl | rfl <;> first | rfl | (exfalso; omega)))) hC (hN.yard hY1 hF1) (fun b hb => hF1 b (by omega))
          · refine J_aload_n hx dX6_tell_38 (i := 0) rfl rfl ?_
            refine J_getR (b := o + 1) hx fl_X6_10 cl_X6 dX6_tell_39 hC.o (by decide) rfl hC.r0 ?_
            refine J_getR (b := o + 1 + 2) hx fl_X6_145 cl_X5 dX6_tell_42 hC.y0.o (by decide) rfl hC.y0.r1 ?_
            refine J_goto (tgt := 70) hx dX6_tell_45 (by decide) ?_
            refine J_astore (lsn := [vR (o), vI (((pN : Nat) : Int)), vI (w), vI (v), vR (o + 1 + 2), vU]) hx dX6_tell_70 (Nat.le_of_ble_eq_true rfl) rfl rfl ?_
            refine J_aload hx dX6_tell_72 rfl ?_
            refine J_iload_n hx dX6_tell_74 (i := 1) rfl rfl ?_
            refine J_iald2 (v := S.1.att 1 pN) hx pN dX6_tell_75 hC.y0.k2 (by omega) (hC.y0.l2 (by omega)) (hN.y.gr (by omega)) ?_
            have rg11 := hW.y.gr (p := pN) (by omega)
            refine J_istore (lsn := [vR (o), vI (((pN : Nat) : Int)), vI (w), vI (v), vR (o + 1 + 2), vI (S.1.att 1 pN)]) hx dX6_tell_76 (Nat.le_of_ble_eq_true rfl) rfl rfl ?_
            refine J_aload hx dX6_tell_78 rfl ?_
            refine J_iload_n hx dX6_tell_80 (i := 1) rfl rfl ?_
            refine J_iload_n hx dX6_tell_81 (i := 3) rfl rfl ?_
            refine J_iast hx pN dX6_tell_82 hC.y0.k2 (by omega) (hC.y0.l2 (by omega)) ?_
            have hW1 : WFY (S.1.setA 1 pN v) := setA_wf hW.y (by decide) (by omega)
            have hY1 : YN (up2 M (o + 1 + 2) pN v) (o + 1) (S.1.setA 1 pN v) := ((hN.y.toP hW.y).setA (f := 1) _ (by decide)).toN hW1
            have hF1 : FrY (o + 1) M (up2 M (o + 1 + 2) pN v) := (FrY.rf (r := o + 1) (M := M)).up (k := 2) (by decide) _
            generalize eM1 : up2 M (o + 1 + 2) pN v = M1 at hY1 hF1 ⊢
            refine J_iload hx dX6_tell_83 rfl ?_
            refine J_iret hx hr dX6_tell_85 ?_
            exact hQ.to (v := S.1.att 1 pN) (S := yS S (S.1.setA 1 pN v)) (by
              unfold a_tell
              all_goals (try unfold overY at *)
              all_goals (try unfold mayQ at *)
              all_goals (try simp only [Int.toNat_natCast] at *)
              all_goals ((repeat' split) <;> first | rfl | (exfalso; omega) | (congr 1; omega) | (rcases (show w = 0 ∨ w = 1 ∨ w = 2 by omega) with rfl | rfl | rfl <;> first | rfl | (exfalso; omega)))) hC (hN.yard hY1 hF1) (fun b hb => hF1 b (by omega))
        · refine J_aload_n hx dX6_tell_27 (i := 0) rfl rfl ?_
          refine J_bipush (v := -2) hx dX6_tell_28 (by decide) ?_
          refine J_invV (As := [vI ((-2))]) (st := []) hx lk_X6_67 okX6_refuse dX6_tell_30 hC.o (by decide) rfl rfl rfl (Nat.le_of_ble_eq_true rfl) (Nat.zero_add _).symm (Nat.zero_add _).symm rfl (c_X6_refuse hC hN hW (k := 0) (by decide) ?_)
          intro M1 hN1 hf1
          refine J_iret hx hr dX6_tell_33 ?_
          exact hQ.to (v := -((0 + 2 : Nat) : Int)) (S := rfS S 0) (by
            unfold a_tell
            all_goals (try unfold overY at *)
            all_goals (try unfold mayQ at *)
            all_goals (try simp only [Int.toNat_natCast] at *)
            all_goals ((repeat' split) <;> first | rfl | (exfalso; omega) | (congr 1; omega) | (rcases (show w = 0 ∨ w = 1 ∨ w = 2 by omega) with rfl | rfl | rfl <;> first | rfl | (exfalso; omega)))) hC hN1 hf1

set_option maxHeartbeats 4000000 in
theorem c_X6_ask {g : WG} {d : Nat} {T : TT} {M : MM} {o sz : Nat} {S : ST} {Q : MVal → TT → MM → Nat → Prop} (hC : CT T o) (hN : CN M o S) (hW : WFS S) {what v : Int} (h_what : -2147483648 ≤ what ∧ what ≤ 2147483647) (h_v : -2147483648 ≤ v ∧ v ≤ 2147483647) (hQ : CQ o T M sz Q (a_ask S what v)) : Ct g (d + 2) mX6_ask [vR (o), vI (what), vI (v)] T M sz 0 0 Q := by
  refine Ct_of2 (ls := [vR (o), vI (what), vI (v), vU]) okX6_ask rfl (Nat.le_of_ble_eq_true rfl) rfl ?_
  intro x hx hr hnm
  have hn8 := hW.y.n8
  have ht2 := hW.y.tn2
  have hl8 := hW.y.len8 ht2
  refine J_iload_n hx dX6_ask_0 (i := 1) rfl rfl ?_
  refine J_iload_n hx dX6_ask_1 (i := 2) rfl rfl ?_
  refine J_invS (As := [vI (what), vI (v)]) (st := []) hx lk_X6_154 okX6_mayBeAsked dX6_ask_2 rfl rfl (Nat.le_of_ble_eq_true rfl) (Nat.zero_add _).symm (Nat.zero_add _).symm rfl (c_X6_mayBeAsked (what := what) (v := v) ?_)
  intro v1 hv1
  refine J_if_ne (tgt := 15) hx dX6_ask_5 (by decide) (fun c2 => ?_) (fun c2 => ?_)
  · unfold mayQ at *
    refine J_iload_n hx dX6_ask_15 (i := 1) rfl rfl ?_
    by_cases t3_0 : what = 0
    · refine J_tswIn (tgt := 48) (off := 32) hx dX6_ask_16 (by omega) (by omega) (by rw [t3_0]; rfl) (by decide) ?_
      refine J_aload_n hx dX6_ask_48 (i := 0) rfl rfl ?_
      refine J_getR (b := o + 1) hx fl_X6_10 cl_X6 dX6_ask_49 hC.o (by decide) rfl hC.r0 ?_
      refine J_getI2 (v := S.1.sc 1) hx fl_X6_157 cl_X5 dX6_ask_52 hC.y0.o (by decide) rfl hN.y.s1 ?_
      have rg4 := hW.y.s1
      refine J_istore_n (lsn := [vR (o), vI (what), vI (v), vI (S.1.sc 1)]) hx dX6_ask_55 (i := 3) rfl (Nat.le_of_ble_eq_true rfl) rfl rfl ?_
      refine J_aload_n hx dX6_ask_56 (i := 0) rfl rfl ?_
      refine J_getR (b := o + 1) hx fl_X6_10 cl_X6 dX6_ask_57 hC.o (by decide) rfl hC.r0 ?_
      refine J_iload_n hx dX6_ask_60 (i := 2) rfl rfl ?_
      refine J_putI hx fl_X6_157 cl_X5 dX6_ask_61 hC.y0.o (by decide) rfl (Or.inl rfl) (by decide) ?_
      have hW1 : WFY (S.1.setS 1 v) := setS_wf hW.y (by omega)
      have hY1 : YN (up2 M (o + 1) 9 v) (o + 1) (S.1.setS 1 v) := ((hN.y.toP hW.y).setS (q := 1) _ (by decide)).toN hW1
      have hF1 : FrY (o + 1) M (up2 M (o + 1) 9 v) := (FrY.rf (r := o + 1) (M := M)).up (k := 0) (by decide) _
      generalize eM1 : up2 M (o + 1) 9 v = M1 at hY1 hF1 ⊢
      refine J_goto (tgt := 140) hx dX6_ask_64 (by decide) ?_
      refine J_iload_n hx dX6_ask_140 (i := 3) rfl rfl ?_
      refine J_iret hx hr dX6_ask_141 ?_
      exact hQ.to (v := S.1.sc 1) (S := yS S (S.1.setS 1 v)) (by
        unfold a_ask
        all_goals (try unfold overY at *)
        all_goals (try unfold mayQ at *)
        all_goals (try simp only [Int.toNat_natCast] at *)
        all_goals ((repeat' split) <;> first | rfl | (exfalso; omega) | (congr 1; omega) | (rcases (show what = 0 ∨ what = 1 ∨ what = 2 ∨ what = 3 ∨ what = 4 by omega) with rfl | rfl | rfl | rfl | rfl <;> first | rfl | (exfalso; omega) | (congr 1; exact hW.y.tni)))) hC (hN.yard hY1 hF1) (fun b hb => hF1 b (by omega))
    by_cases t3_1 : what = 1
    · refine J_tswIn (tgt := 67) (off := 51) hx dX6_ask_16 (by omega) (by omega) (by rw [t3_1]; rfl) (by decide) ?_
      refine J_aload_n hx dX6_ask_67 (i := 0) rfl rfl ?_
      refine J_getR (b := o + 1) hx fl_X6_10 cl_X6 dX6_ask_68 hC.o (by decide) rfl hC.r0 ?_
      refine J_getI2 (v := S.1.sc 2) hx fl_X6_160 cl_X5 dX6_ask_71 hC.y0.o (by decide) rfl hN.y.s2 ?_
      have rg5 := hW.y.s2
      refine J_istore_n (lsn := [vR (o), vI (what), vI (v), vI (S.1.sc 2)]) hx dX6_ask_74 (i := 3) rfl (Nat.le_of_ble_eq_true rfl) rfl rfl ?_
      refine J_aload_n hx dX6_ask_75 (i := 0) rfl rfl ?_
      refine J_getR (b := o + 1) hx fl_X6_10 cl_X6 dX6_ask_76 hC.o (by decide) rfl hC.r0 ?_
      refine J_iload_n hx dX6_ask_79 (i := 2) rfl rfl ?_
      refine J_putI hx fl_X6_160 cl_X5 dX6_ask_80 hC.y0.o (by decide) rfl (Or.inl rfl) (by decide) ?_
      have hW1 : WFY (S.1.setS 2 v) := setS_wf hW.y (by omega)
      have hY1 : YN (up2 M (o + 1) 10 v) (o + 1) (S.1.setS 2 v) := ((hN.y.toP hW.y).setS (q := 2) _ (by decide)).toN hW1
      have hF1 : FrY (o + 1) M (up2 M (o + 1) 10 v) := (FrY.rf (r := o + 1) (M := M)).up (k := 0) (by decide) _
      generalize eM1 : up2 M (o + 1) 10 v = M1 at hY1 hF1 ⊢
      refine J_goto (tgt := 140) hx dX6_ask_83 (by decide) ?_
      refine J_iload_n hx dX6_ask_140 (i := 3) rfl rfl ?_
      refine J_iret hx hr dX6_ask_141 ?_
      exact hQ.to (v := S.1.sc 2) (S := yS S (S.1.setS 2 v)) (by
        unfold a_ask
        all_goals (try unfold overY at *)
        all_goals (try unfold mayQ at *)
        all_goals (try simp only [Int.toNat_natCast] at *)
        all_goals ((repeat' split) <;> first | rfl | (exfalso; omega) | (congr 1; omega) | (rcases (show what = 0 ∨ what = 1 ∨ what = 2 ∨ what = 3 ∨ what = 4 by omega) with rfl | rfl | rfl | rfl | rfl <;> first | rfl | (exfalso; omega) | (congr 1; exact hW.y.tni)))) hC (hN.yard hY1 hF1) (fun b hb => hF1 b (by omega))
    by_cases t3_2 : what = 2
    · refine J_tswIn (tgt := 86) (off := 70) hx dX6_ask_16 (by omega) (by omega) (by rw [t3_2]; rfl) (by decide) ?_
      refine J_aload_n hx dX6_ask_86 (i := 0) rfl rfl ?_
      refine J_getR (b := o + 1) hx fl_X6_10 cl_X6 dX6_ask_87 hC.o (by decide) rfl hC.r0 ?_
      refine J_getI2 (v := S.1.sc 3) hx fl_X6_163 cl_X5 dX6_ask_90 hC.y0.o (by decide) rfl hN.y.s3 ?_
      have rg6 := hW.y.s3
      refine J_istore_n (lsn := [vR (o), vI (what), vI (v), vI (S.1.sc 3)]) hx dX6_ask_93 (i := 3) rfl (Nat.le_of_ble_eq_true rfl) rfl rfl ?_
      refine J_aload_n hx dX6_ask_94 (i := 0) rfl rfl ?_
      refine J_getR (b := o + 1) hx fl_X6_10 cl_X6 dX6_ask_95 hC.o (by decide) rfl hC.r0 ?_
      refine J_iload_n hx dX6_ask_98 (i := 2) rfl rfl ?_
      refine J_putI hx fl_X6_163 cl_X5 dX6_ask_99 hC.y0.o (by decide) rfl (Or.inl rfl) (by decide) ?_
      have hW1 : WFY (S.1.setS 3 v) := setS_wf hW.y (by omega)
      have hY1 : YN (up2 M (o + 1) 11 v) (o + 1) (S.1.setS 3 v) := ((hN.y.toP hW.y).setS (q := 3) _ (by decide)).toN hW1
      have hF1 : FrY (o + 1) M (up2 M (o + 1) 11 v) := (FrY.rf (r := o + 1) (M := M)).up (k := 0) (by decide) _
      generalize eM1 : up2 M (o + 1) 11 v = M1 at hY1 hF1 ⊢
      refine J_goto (tgt := 140) hx dX6_ask_102 (by decide) ?_
      refine J_iload_n hx dX6_ask_140 (i := 3) rfl rfl ?_
      refine J_iret hx hr dX6_ask_141 ?_
      exact hQ.to (v := S.1.sc 3) (S := yS S (S.1.setS 3 v)) (by
        unfold a_ask
        all_goals (try unfold overY at *)
        all_goals (try unfold mayQ at *)
        all_goals (try simp only [Int.toNat_natCast] at *)
        all_goals ((repeat' split) <;> first | rfl | (exfalso; omega) | (congr 1; omega) | (rcases (show what = 0 ∨ what = 1 ∨ what = 2 ∨ what = 3 ∨ what = 4 by omega) with rfl | rfl | rfl | rfl | rfl <;> first | rfl | (exfalso; omega) | (congr 1; exact hW.y.tni)))) hC (hN.yard hY1 hF1) (fun b hb => hF1 b (by omega))
    by_cases t3_3 : what = 3
    · refine J_tswIn (tgt := 105) (off := 89) hx dX6_ask_16 (by omega) (by omega) (by rw [t3_3]; rfl) (by decide) ?_
      refine J_aload_n hx dX6_ask_105 (i := 0) rfl rfl ?_
      refine J_getR (b := o + 1) hx fl_X6_10 cl_X6 dX6_ask_106 hC.o (by decide) rfl hC.r0 ?_
      refine J_getI2 (v := S.1.sc 4) hx fl_X6_166 cl_X5 dX6_ask_109 hC.y0.o (by decide) rfl hN.y.s4 ?_
      have rg7 := hW.y.s4
      refine J_istore_n (lsn := [vR (o), vI (what), vI (v), vI (S.1.sc 4)]) hx dX6_ask_112 (i := 3) rfl (Nat.le_of_ble_eq_true rfl) rfl rfl ?_
      refine J_aload_n hx dX6_ask_113 (i := 0) rfl rfl ?_
      refine J_getR (b := o + 1) hx fl_X6_10 cl_X6 dX6_ask_114 hC.o (by decide) rfl hC.r0 ?_
      refine J_iload_n hx dX6_ask_117 (i := 2) rfl rfl ?_
      refine J_putI hx fl_X6_166 cl_X5 dX6_ask_118 hC.y0.o (by decide) rfl (Or.inl rfl) (by decide) ?_
      have hW1 : WFY (S.1.setS 4 v) := setS_wf hW.y (by omega)
      have hY1 : YN (up2 M (o + 1) 12 v) (o + 1) (S.1.setS 4 v) := ((hN.y.toP hW.y).setS (q := 4) _ (by decide)).toN hW1
      have hF1 : FrY (o + 1) M (up2 M (o + 1) 12 v) := (FrY.rf (r := o + 1) (M := M)).up (k := 0) (by decide) _
      generalize eM1 : up2 M (o + 1) 12 v = M1 at hY1 hF1 ⊢
      refine J_goto (tgt := 140) hx dX6_ask_121 (by decide) ?_
      refine J_iload_n hx dX6_ask_140 (i := 3) rfl rfl ?_
      refine J_iret hx hr dX6_ask_141 ?_
      exact hQ.to (v := S.1.sc 4) (S := yS S (S.1.setS 4 v)) (by
        unfold a_ask
        all_goals (try unfold overY at *)
        all_goals (try unfold mayQ at *)
        all_goals (try simp only [Int.toNat_natCast] at *)
        all_goals ((repeat' split) <;> first | rfl | (exfalso; omega) | (congr 1; omega) | (rcases (show what = 0 ∨ what = 1 ∨ what = 2 ∨ what = 3 ∨ what = 4 by omega) with rfl | rfl | rfl | rfl | rfl <;> first | rfl | (exfalso; omega) | (congr 1; exact hW.y.tni)))) hC (hN.yard hY1 hF1) (fun b hb => hF1 b (by omega))
    refine J_tswOut (tgt := 124) hx dX6_ask_16 (by omega) (by decide) ?_
    refine J_aload_n hx dX6_ask_124 (i := 0) rfl rfl ?_
    refine J_getR (b := o + 1) hx fl_X6_10 cl_X6 dX6_ask_125 hC.o (by decide) rfl hC.r0 ?_
    refine J_getI2 (v := ((S.1.tn : Nat) : Int)) hx fl_X6_169 cl_X5 dX6_ask_128 hC.y0.o (by decide) rfl (hN.y.tn hW.y) ?_
    have rg8 := hW.y.tn2
    refine J_istore_n (lsn := [vR (o), vI (what), vI (v), vI (((S.1.tn : Nat) : Int))]) hx dX6_ask_131 (i := 3) rfl (Nat.le_of_ble_eq_true rfl) rfl rfl ?_
    refine J_aload_n hx dX6_ask_132 (i := 0) rfl rfl ?_
    refine J_getR (b := o + 1) hx fl_X6_10 cl_X6 dX6_ask_133 hC.o (by decide) rfl hC.r0 ?_
    refine J_iload_n hx dX6_ask_136 (i := 2) rfl rfl ?_
    refine J_putI hx fl_X6_169 cl_X5 dX6_ask_137 hC.y0.o (by decide) rfl (Or.inl rfl) (by decide) ?_
    have hW1 : WFY (S.1.setS 5 v) := setS_wf hW.y (by omega)
    have hY1 : YN (up2 M (o + 1) 13 v) (o + 1) (S.1.setS 5 v) := ((hN.y.toP hW.y).setS (q := 5) _ (by decide)).toN hW1
    have hF1 : FrY (o + 1) M (up2 M (o + 1) 13 v) := (FrY.rf (r := o + 1) (M := M)).up (k := 0) (by decide) _
    generalize eM1 : up2 M (o + 1) 13 v = M1 at hY1 hF1 ⊢
    refine J_iload_n hx dX6_ask_140 (i := 3) rfl rfl ?_
    refine J_iret hx hr dX6_ask_141 ?_
    exact hQ.to (v := ((S.1.tn : Nat) : Int)) (S := yS S (S.1.setS 5 v)) (by
      unfold a_ask
      all_goals (try unfold overY at *)
      all_goals (try unfold mayQ at *)
      all_goals (try simp only [Int.toNat_natCast] at *)
      all_goals ((repeat' split) <;> first | rfl | (exfalso; omega) | (congr 1; omega) | (rcases (show what = 0 ∨ what = 1 ∨ what = 2 ∨ what = 3 ∨ what = 4 by omega) with rfl | rfl | rfl | rfl | rfl <;> first | rfl | (exfalso; omega) | (congr 1; exact hW.y.tni)))) hC (hN.yard hY1 hF1) (fun b hb => hF1 b (by omega))
  · refine J_aload_n hx dX6_ask_8 (i := 0) rfl rfl ?_
    refine J_bipush (v := -2) hx dX6_ask_9 (by decide) ?_
    refine J_invV (As := [vI ((-2))]) (st := []) hx lk_X6_67 okX6_refuse dX6_ask_11 hC.o (by decide) rfl rfl rfl (Nat.le_of_ble_eq_true rfl) (Nat.zero_add _).symm (Nat.zero_add _).symm rfl (c_X6_refuse hC hN hW (k := 0) (by decide) ?_)
    intro M1 hN1 hf1
    refine J_iret hx hr dX6_ask_14 ?_
    exact hQ.to (v := -((0 + 2 : Nat) : Int)) (S := rfS S 0) (by
      unfold a_ask
      all_goals (try unfold overY at *)
      all_goals (try unfold mayQ at *)
      all_goals (try simp only [Int.toNat_natCast] at *)
      all_goals ((repeat' split) <;> first | rfl | (exfalso; omega) | (congr 1; omega) | (rcases (show what = 0 ∨ what = 1 ∨ what = 2 ∨ what = 3 ∨ what = 4 by omega) with rfl | rfl | rfl | rfl | rfl <;> first | rfl | (exfalso; omega) | (congr 1; exact hW.y.tni)))) hC hN1 hf1

set_option maxHeartbeats 4000000 in
theorem c_X6_one {g : WG} {d : Nat} {T : TT} {M : MM} {o sz : Nat} {S : ST} {Q : MVal → TT → MM → Nat → Prop} (hC : CT T o) (hN : CN M o S) (hW : WFS S) {c k gr w a : Int} (h_c : -2147483648 ≤ c ∧ c ≤ 2147483647) (h_k : -2147483648 ≤ k ∧ k ≤ 2147483647) (h_gr : -2147483648 ≤ gr ∧ gr ≤ 2147483647) (h_w : -2147483648 ≤ w ∧ w ≤ 2147483647) (h_a : -2147483648 ≤ a ∧ a ≤ 2147483647) (hQ : CQ o T M sz Q (a_one S c k gr w a)) : Ct g (d + 3) mX6_one [vR (o), vI (c), vI (k), vI (gr), vI (w), vI (a)] T M sz 0 0 Q := by
  refine Ct_of2 (ls := [vR (o), vI (c), vI (k), vI (gr), vI (w), vI (a)]) okX6_one rfl (Nat.le_of_ble_eq_true rfl) rfl ?_
  intro x hx hr hnm
  have hn8 := hW.y.n8
  have ht2 := hW.y.tn2
  have hl8 := hW.y.len8 ht2
  refine J_iload_n hx dX6_one_0 (i := 1) rfl rfl ?_
  refine J_invS (As := [vI (c)]) (st := []) hx lk_X6_132 okX6_isChain dX6_one_1 rfl rfl (Nat.le_of_ble_eq_true rfl) (Nat.zero_add _).symm (Nat.zero_add _).symm rfl (c_X6_isChain (a := c) ?_)
  intro v1 hv1
  refine J_if_eq (tgt := 44) hx dX6_one_4 (by decide) (fun c2 => ?_) (fun c2 => ?_)
  · refine J_aload_n hx dX6_one_44 (i := 0) rfl rfl ?_
    refine J_bipush (v := -2) hx dX6_one_45 (by decide) ?_
    refine J_invV (As := [vI ((-2))]) (st := []) hx lk_X6_67 okX6_refuse dX6_one_47 hC.o (by decide) rfl rfl rfl (Nat.le_of_ble_eq_true rfl) (Nat.zero_add _).symm (Nat.zero_add _).symm rfl (c_X6_refuse hC hN hW (k := 0) (by decide) ?_)
    intro M1 hN1 hf1
    refine J_iret hx hr dX6_one_50 ?_
    exact hQ.to (v := -((0 + 2 : Nat) : Int)) (S := rfS S 0) (by
      unfold a_one
      all_goals (try unfold overY at *)
      all_goals (try unfold mayQ at *)
      all_goals (try simp only [Int.toNat_natCast] at *)
      all_goals ((repeat' split) <;> first | rfl | (exfalso; omega) | (congr 1; omega))) hC hN1 hf1
  · refine J_iload_n hx dX6_one_7 (i := 2) rfl rfl ?_
    refine J_if_lt (tgt := 44) hx dX6_one_8 (by decide) (fun c3 => ?_) (fun c3 => ?_)
    · refine J_aload_n hx dX6_one_44 (i := 0) rfl rfl ?_
      refine J_bipush (v := -2) hx dX6_one_45 (by decide) ?_
      refine J_invV (As := [vI ((-2))]) (st := []) hx lk_X6_67 okX6_refuse dX6_one_47 hC.o (by decide) rfl rfl rfl (Nat.le_of_ble_eq_true rfl) (Nat.zero_add _).symm (Nat.zero_add _).symm rfl (c_X6_refuse hC hN hW (k := 0) (by decide) ?_)
      intro M1 hN1 hf1
      refine J_iret hx hr dX6_one_50 ?_
      exact hQ.to (v := -((0 + 2 : Nat) : Int)) (S := rfS S 0) (by
        unfold a_one
        all_goals (try unfold overY at *)
        all_goals (try unfold mayQ at *)
        all_goals (try simp only [Int.toNat_natCast] at *)
        all_goals ((repeat' split) <;> first | rfl | (exfalso; omega) | (congr 1; omega))) hC hN1 hf1
    · refine J_iload_n hx dX6_one_11 (i := 2) rfl rfl ?_
      refine J_bipush (v := 6) hx dX6_one_12 (by decide) ?_
      refine J_icmp_ge (tgt := 44) hx dX6_one_14 (by decide) (fun c4 => ?_) (fun c4 => ?_)
      · refine J_aload_n hx dX6_one_44 (i := 0) rfl rfl ?_
        refine J_bipush (v := -2) hx dX6_one_45 (by decide) ?_
        refine J_invV (As := [vI ((-2))]) (st := []) hx lk_X6_67 okX6_refuse dX6_one_47 hC.o (by decide) rfl rfl rfl (Nat.le_of_ble_eq_true rfl) (Nat.zero_add _).symm (Nat.zero_add _).symm rfl (c_X6_refuse hC hN hW (k := 0) (by decide) ?_)
        intro M1 hN1 hf1
        refine J_iret hx hr dX6_one_50 ?_
        exact hQ.to (v := -((0 + 2 : Nat) : Int)) (S := rfS S 0) (by
          unfold a_one
          all_goals (try unfold overY at *)
          all_goals (try unfold mayQ at *)
          all_goals (try simp only [Int.toNat_natCast] at *)
          all_goals ((repeat' split) <;> first | rfl | (exfalso; omega) | (congr 1; omega))) hC hN1 hf1
      · refine J_iload_n hx dX6_one_17 (i := 3) rfl rfl ?_
        refine J_invS (As := [vI (gr)]) (st := []) hx lk_X6_135 okX6_isLevel dX6_one_18 rfl rfl (Nat.le_of_ble_eq_true rfl) (Nat.zero_add _).symm (Nat.zero_add _).symm rfl (c_X6_isLevel (a := gr) ?_)
        intro v5 hv5
        refine J_if_eq (tgt := 44) hx dX6_one_21 (by decide) (fun c6 => ?_) (fun c6 => ?_)
        · refine J_aload_n hx dX6_one_44 (i := 0) rfl rfl ?_
          refine J_bipush (v := -2) hx dX6_one_45 (by decide) ?_
          refine J_invV (As := [vI ((-2))]) (st := []) hx lk_X6_67 okX6_refuse dX6_one_47 hC.o (by decide) rfl rfl rfl (Nat.le_of_ble_eq_true rfl) (Nat.zero_add _).symm (Nat.zero_add _).symm rfl (c_X6_refuse hC hN hW (k := 0) (by decide) ?_)
          intro M1 hN1 hf1
          refine J_iret hx hr dX6_one_50 ?_
          exact hQ.to (v := -((0 + 2 : Nat) : Int)) (S := rfS S 0) (by
            unfold a_one
            all_goals (try unfold overY at *)
            all_goals (try unfold mayQ at *)
            all_goals (try simp only [Int.toNat_natCast] at *)
            all_goals ((repeat' split) <;> first | rfl | (exfalso; omega) | (congr 1; omega))) hC hN1 hf1
        · refine J_iload hx dX6_one_24 rfl ?_
          refine J_invS (As := [vI (w)]) (st := []) hx lk_X6_135 okX6_isLevel dX6_one_26 rfl rfl (Nat.le_of_ble_eq_true rfl) (Nat.zero_add _).symm (Nat.zero_add _).symm rfl (c_X6_isLevel (a := w) ?_)
          intro v7 hv7
          refine J_if_eq (tgt := 44) hx dX6_one_29 (by decide) (fun c8 => ?_) (fun c8 => ?_)
          · refine J_aload_n hx dX6_one_44 (i := 0) rfl rfl ?_
            refine J_bipush (v := -2) hx dX6_one_45 (by decide) ?_
            refine J_invV (As := [vI ((-2))]) (st := []) hx lk_X6_67 okX6_refuse dX6_one_47 hC.o (by decide) rfl rfl rfl (Nat.le_of_ble_eq_true rfl) (Nat.zero_add _).symm (Nat.zero_add _).symm rfl (c_X6_refuse hC hN hW (k := 0) (by decide) ?_)
            intro M1 hN1 hf1
            refine J_iret hx hr dX6_one_50 ?_
            exact hQ.to (v := -((0 + 2 : Nat) : Int)) (S := rfS S 0) (by
              unfold a_one
              all_goals (try unfold overY at *)
              all_goals (try unfold mayQ at *)
              all_goals (try simp only [Int.toNat_natCast] at *)
              all_goals ((repeat' split) <;> first | rfl | (exfalso; omega) | (congr 1; omega))) hC hN1 hf1
          · refine J_iload hx dX6_one_32 rfl ?_
            refine J_if_lt (tgt := 44) hx dX6_one_34 (by decide) (fun c9 => ?_) (fun c9 => ?_)
            · refine J_aload_n hx dX6_one_44 (i := 0) rfl rfl ?_
              refine J_bipush (v := -2) hx dX6_one_45 (by decide) ?_
              refine J_invV (As := [vI ((-2))]) (st := []) hx lk_X6_67 okX6_refuse dX6_one_47 hC.o (by decide) rfl rfl rfl (Nat.le_of_ble_eq_true rfl) (Nat.zero_add _).symm (Nat.zero_add _).symm rfl (c_X6_refuse hC hN hW (k := 0) (by decide) ?_)
              intro M1 hN1 hf1
              refine J_iret hx hr dX6_one_50 ?_
              exact hQ.to (v := -((0 + 2 : Nat) : Int)) (S := rfS S 0) (by
                unfold a_one
                all_goals (try unfold overY at *)
                all_goals (try unfold mayQ at *)
                all_goals (try simp only [Int.toNat_natCast] at *)
                all_goals ((repeat' split) <;> first | rfl | (exfalso; omega) | (congr 1; omega))) hC hN1 hf1
            · refine J_iload hx dX6_one_37 rfl ?_
              refine J_bipush (v := 9) hx dX6_one_39 (by decide) ?_
              refine J_icmp_le (tgt := 51) hx dX6_one_41 (by decide) (fun c10 => ?_) (fun c10 => ?_)
              · refine J_aload_n hx dX6_one_51 (i := 0) rfl rfl ?_
                refine J_getR (b := o + 1) hx fl_X6_10 cl_X6 dX6_one_52 hC.o (by decide) rfl hC.r0 ?_
                refine J_getI2 (v := ((S.1.n : Nat) : Int)) hx fl_X6_138 cl_X5 dX6_one_55 hC.y0.o (by decide) rfl hN.y.pp ?_
                have rg11 := hW.y.n8
                refine J_bipush (v := 8) hx dX6_one_58 (by decide) ?_
                refine J_icmp_lt (tgt := 70) hx dX6_one_60 (by decide) (fun c12 => ?_) (fun c12 => ?_)
                · obtain ⟨cN, rfl⟩ : ∃ z : Nat, c = ((z : Nat) : Int) := ⟨c.toNat, by omega⟩
                  refine J_aload_n hx dX6_one_70 (i := 0) rfl rfl ?_
                  refine J_getR (b := o + 1) hx fl_X6_10 cl_X6 dX6_one_71 hC.o (by decide) rfl hC.r0 ?_
                  refine J_iload_n hx dX6_one_74 (i := 1) rfl rfl ?_
                  refine J_iload_n hx dX6_one_75 (i := 2) rfl rfl ?_
                  refine J_iload_n hx dX6_one_76 (i := 3) rfl rfl ?_
                  refine J_iload hx dX6_one_77 rfl ?_
                  refine J_iload hx dX6_one_79 rfl ?_
                  refine J_invV (As := [vI (((cN : Nat) : Int)), vI (k), vI (gr), vI (w), vI (a)]) (st := []) hx lk_X6_141 okX5_add dX6_one_81 hC.y0.o (by decide) rfl rfl rfl (Nat.le_of_ble_eq_true rfl) (Nat.zero_add _).symm (Nat.zero_add _).symm rfl (c_X5_add hC.y0 hN.y hW.y (c := cN) (by omega) (by omega) (by omega) (by omega) (by omega) (by omega) ?_)
                  intro M1 hY1 hf1
                  have hW1 : WFY (addY S.1 cN k gr w a) := addY_wf hW.y (by omega) (by omega) (by omega) (by omega) (by omega) (by omega)
                  have hF1 := (FrY.rf (r := o + 1) (M := M)).tr hf1
                  refine J_iret hx hr dX6_one_84 ?_
                  exact hQ.to (v := ((S.1.n : Nat) : Int)) (S := yS S (addY S.1 cN k gr w a)) (by
                    unfold a_one
                    all_goals (try unfold overY at *)
                    all_goals (try unfold mayQ at *)
                    all_goals (try simp only [Int.toNat_natCast] at *)
                    all_goals ((repeat' split) <;> first | rfl | (exfalso; omega) | (congr 1; omega))) hC (hN.yard hY1 hF1) (fun b hb => hF1 b (by omega))
                · refine J_aload_n hx dX6_one_63 (i := 0) rfl rfl ?_
                  refine J_bipush (v := -6) hx dX6_one_64 (by decide) ?_
                  refine J_invV (As := [vI ((-6))]) (st := []) hx lk_X6_67 okX6_refuse dX6_one_66 hC.o (by decide) rfl rfl rfl (Nat.le_of_ble_eq_true rfl) (Nat.zero_add _).symm (Nat.zero_add _).symm rfl (c_X6_refuse hC hN hW (k := 4) (by decide) ?_)
                  intro M1 hN1 hf1
                  refine J_iret hx hr dX6_one_69 ?_
                  exact hQ.to (v := -((4 + 2 : Nat) : Int)) (S := rfS S 4) (by
                    unfold a_one
                    all_goals (try unfold overY at *)
                    all_goals (try unfold mayQ at *)
                    all_goals (try simp only [Int.toNat_natCast] at *)
                    all_goals ((repeat' split) <;> first | rfl | (exfalso; omega) | (congr 1; omega))) hC hN1 hf1
              · refine J_aload_n hx dX6_one_44 (i := 0) rfl rfl ?_
                refine J_bipush (v := -2) hx dX6_one_45 (by decide) ?_
                refine J_invV (As := [vI ((-2))]) (st := []) hx lk_X6_67 okX6_refuse dX6_one_47 hC.o (by decide) rfl rfl rfl (Nat.le_of_ble_eq_true rfl) (Nat.zero_add _).symm (Nat.zero_add _).symm rfl (c_X6_refuse hC hN hW (k := 0) (by decide) ?_)
                intro M1 hN1 hf1
                refine J_iret hx hr dX6_one_50 ?_
                exact hQ.to (v := -((0 + 2 : Nat) : Int)) (S := rfS S 0) (by
                  unfold a_one
                  all_goals (try unfold overY at *)
                  all_goals (try unfold mayQ at *)
                  all_goals (try simp only [Int.toNat_natCast] at *)
                  all_goals ((repeat' split) <;> first | rfl | (exfalso; omega) | (congr 1; omega))) hC hN1 hf1

