theorem jor_rg (a b : Int) : -2147483648 ≤ jor a b ∧ jor a b ≤ 2147483647 := by
  unfold jor
  have h1 := Int32.le_toInt (Int32.ofInt a ||| Int32.ofInt b)
  have h2 := Int32.toInt_lt (Int32.ofInt a ||| Int32.ofInt b)
  omega
theorem jor_0 {a : Int} (h : -2147483648 ≤ a ∧ a ≤ 2147483647) : jor a 0 = a := by
  unfold jor
  rw [show Int32.ofInt 0 = 0 from rfl, Int32.or_zero, Int32.toInt_ofInt]
  exact w32_id h.1 (by omega)
def couB (f : Nat → Bool) : Nat → Int
  | 0 => 0
  | k + 1 => if f k = true then jor (couB f k) (jshl 1 ((k : Nat) : Int)) else couB f k
theorem couB_t {f : Nat → Bool} {k : Nat} (h : f k = true) : couB f (k + 1) = jor (couB f k) (jshl 1 ((k : Nat) : Int)) := if_pos h
theorem couB_f {f : Nat → Bool} {k : Nat} (h : f k = false) : couB f (k + 1) = couB f k := if_neg (by rw [h]; decide)
theorem couB_rg (f : Nat → Bool) : ∀ k, -2147483648 ≤ couB f k ∧ couB f k ≤ 2147483647
  | 0 => (show -2147483648 ≤ (0 : Int) ∧ (0 : Int) ≤ 2147483647 by decide)
  | k + 1 => by
    show -2147483648 ≤ (if f k = true then _ else _) ∧ (if f k = true then _ else _) ≤ 2147483647
    split
    · exact jor_rg _ _
    · exact couB_rg f k
def couP (A : YA) (j : Nat) (e : Int) (p : Nat) : Bool := decide (A.co p ≠ A.tn ∧ (if e = 1 then 1000000 else 1) ≤ oddsY A p j)
def a_could (S : ST) (j e : Int) : Int × ST := if ¬ (0 ≤ j ∧ j + 1 < (S.1.ch S.1.tn).length ∧ 0 ≤ e ∧ e ≤ 1) then rA S 0 else (couB (couP S.1 j.toNat e) S.1.n, S)
set_option maxHeartbeats 4000000 in
theorem lp_X6_could {g : WG} {d : Nat} {T : TT} {M : MM} {o sz : Nat} {S : ST} {Q : MVal → TT → MM → Nat → Prop} (hC : CT T o) (hN : CN M o S) (hW : WFS S) {x : CX} (hx : OKx g x RX6 cX6_could (d + 4)) (hr : RTx g x (some .int) Q) {j : Nat} {e : Int} (hj : j + 1 < (S.1.ch S.1.tn).length) (he : 0 ≤ e ∧ e ≤ 1) {wt : Int} (hwt : wt = if e = 1 then 1000000 else 1) (hQ : Q (vI (couB (couP S.1 j e) S.1.n)) T M sz) (i : Nat) (b : Int) (hi : i ≤ S.1.n) (hb : b = couB (couP S.1 j e) i) : Jd g x 53 [vR (o), vI (((j : Nat) : Int)), vI (e), vI (wt), vI (b), vI (((i : Nat) : Int))] [] T M sz 0 0 := by
  have hn8 := hW.y.n8
  have ht2 := hW.y.tn2
  have hbr : -2147483648 ≤ b ∧ b ≤ 2147483647 := by rw [hb]; exact couB_rg _ _
  refine J_iload hx dX6_could_53 rfl ?_
  refine J_aload_n hx dX6_could_55 (i := 0) rfl rfl ?_
  refine J_getR (b := o + 1) hx fl_X6_10 cl_X6 dX6_could_56 hC.o (by decide) rfl hC.r0 ?_
  refine J_getI2 (v := ((S.1.n : Nat) : Int)) hx fl_X6_138 cl_X5 dX6_could_59 hC.y0.o (by decide) rfl hN.y.pp ?_
  have rg1 := hW.y.n8
  refine J_icmp_ge (tgt := 106) hx dX6_could_62 (by decide) (fun c2 => ?_) (fun c2 => ?_)
  · refine J_iload hx dX6_could_106 rfl ?_
    refine J_iret hx hr dX6_could_108 ?_
    have ei : i = S.1.n := by omega
    subst ei
    exact Qv hQ hb.symm
  · refine J_aload_n hx dX6_could_65 (i := 0) rfl rfl ?_
    refine J_getR (b := o + 1) hx fl_X6_10 cl_X6 dX6_could_66 hC.o (by decide) rfl hC.r0 ?_
    refine J_iload hx dX6_could_69 rfl ?_
    refine J_invV (As := [vI (((i : Nat) : Int))]) (st := []) hx lk_X6_226 okX5_isCalled dX6_could_71 hC.y0.o (by decide) rfl rfl rfl (Nat.le_of_ble_eq_true rfl) (Nat.zero_add _).symm (Nat.zero_add _).symm rfl (c_X5_isCalled hC.y0 hN.y hW.y (p := i) (by omega) ?_)
    intro v3 hv3
    refine J_if_eq (tgt := 100) hx dX6_could_74 (by decide) (fun c4 => ?_) (fun c4 => ?_)
    · refine J_iinc (v := ((i : Nat) : Int) + 1) (lsn := [vR (o), vI (((j : Nat) : Int)), vI (e), vI (wt), vI (b), vI (((i : Nat) : Int) + 1)]) hx dX6_could_100 rfl (jinc1 (by omega) (by omega)) rfl rfl ?_
      refine J_goto (tgt := 53) hx dX6_could_103 (by decide) ?_
      exact lp_X6_could hC hN hW hx hr hj he hwt hQ (i + 1) _ (by omega) (by rw [hb]; exact (couB_f (decide_eq_false (by rw [← hwt]; omega))).symm)
    · refine J_aload_n hx dX6_could_77 (i := 0) rfl rfl ?_
      refine J_getR (b := o + 1) hx fl_X6_10 cl_X6 dX6_could_78 hC.o (by decide) rfl hC.r0 ?_
      refine J_iload hx dX6_could_81 rfl ?_
      refine J_iload_n hx dX6_could_83 (i := 1) rfl rfl ?_
      refine J_invV (As := [vI (((i : Nat) : Int)), vI (((j : Nat) : Int))]) (st := []) hx lk_X6_223 okX5_oddsOf dX6_could_84 hC.y0.o (by decide) rfl rfl rfl (Nat.le_of_ble_eq_true rfl) (Nat.zero_add _).symm (Nat.zero_add _).symm rfl (c_X5_oddsOf hC.y0 hN.y hW.y (p := i) (by omega) (j := j) (by omega) ?_)
      have rg5 : 0 ≤ oddsY S.1 i j ∧ oddsY S.1 i j ≤ 1000000 := oddsB_rg hW.y _ _
      refine J_iload_n hx dX6_could_87 (i := 3) rfl rfl ?_
      refine J_icmp_lt (tgt := 100) hx dX6_could_88 (by decide) (fun c6 => ?_) (fun c6 => ?_)
      · refine J_iinc (v := ((i : Nat) : Int) + 1) (lsn := [vR (o), vI (((j : Nat) : Int)), vI (e), vI (wt), vI (b), vI (((i : Nat) : Int) + 1)]) hx dX6_could_100 rfl (jinc1 (by omega) (by omega)) rfl rfl ?_
        refine J_goto (tgt := 53) hx dX6_could_103 (by decide) ?_
        exact lp_X6_could hC hN hW hx hr hj he hwt hQ (i + 1) _ (by omega) (by rw [hb]; exact (couB_f (decide_eq_false (by rw [← hwt]; omega))).symm)
      · refine J_iload hx dX6_could_91 rfl ?_
        refine J_iconst (v := 1) hx dX6_could_93 (by decide) ?_
        refine J_iload hx dX6_could_94 rfl ?_
        refine J_ishl (v := jshl 1 ((i : Nat) : Int)) hx dX6_could_96 rfl ?_
        refine J_ior (v := jor b (jshl 1 ((i : Nat) : Int))) hx dX6_could_97 rfl ?_
        refine J_istore (lsn := [vR (o), vI (((j : Nat) : Int)), vI (e), vI (wt), vI (jor b (jshl 1 ((i : Nat) : Int))), vI (((i : Nat) : Int))]) hx dX6_could_98 (Nat.le_of_ble_eq_true rfl) rfl rfl ?_
        refine J_iinc (v := ((i : Nat) : Int) + 1) (lsn := [vR (o), vI (((j : Nat) : Int)), vI (e), vI (wt), vI (jor b (jshl 1 ((i : Nat) : Int))), vI (((i : Nat) : Int) + 1)]) hx dX6_could_100 rfl (jinc1 (by omega) (by omega)) rfl rfl ?_
        refine J_goto (tgt := 53) hx dX6_could_103 (by decide) ?_
        exact lp_X6_could hC hN hW hx hr hj he hwt hQ (i + 1) _ (by omega) (by rw [hb]; exact (couB_t (decide_eq_true (by rw [← hwt]; omega))).symm)
termination_by S.1.n - i
decreasing_by all_goals omega

set_option maxHeartbeats 4000000 in
theorem c_X6_could {g : WG} {d : Nat} {T : TT} {M : MM} {o sz : Nat} {S : ST} {Q : MVal → TT → MM → Nat → Prop} (hC : CT T o) (hN : CN M o S) (hW : WFS S) {j e : Int} (h_j : -2147483648 ≤ j ∧ j ≤ 2147483647) (h_e : -2147483648 ≤ e ∧ e ≤ 2147483647) (hQ : CQ o T M sz Q (a_could S j e)) : Ct g (d + 4) mX6_could [vR (o), vI (j), vI (e)] T M sz 0 0 Q := by
  refine Ct_of2 (ls := [vR (o), vI (j), vI (e), vU, vU, vU]) okX6_could rfl (Nat.le_of_ble_eq_true rfl) rfl ?_
  intro x hx hr hnm
  have hn8 := hW.y.n8
  have ht2 := hW.y.tn2
  refine J_aload_n hx dX6_could_0 (i := 0) rfl rfl ?_
  refine J_getR (b := o + 1) hx fl_X6_10 cl_X6 dX6_could_1 hC.o (by decide) rfl hC.r0 ?_
  refine J_aload_n hx dX6_could_4 (i := 0) rfl rfl ?_
  refine J_getR (b := o + 1) hx fl_X6_10 cl_X6 dX6_could_5 hC.o (by decide) rfl hC.r0 ?_
  refine J_getI2 (v := ((S.1.tn : Nat) : Int)) hx fl_X6_169 cl_X5 dX6_could_8 hC.y0.o (by decide) rfl (hN.y.tn hW.y) ?_
  have rg1 := hW.y.tn2
  refine J_iload_n hx dX6_could_11 (i := 1) rfl rfl ?_
  refine J_invV (As := [vI (((S.1.tn : Nat) : Int)), vI (j)]) (st := []) hx lk_X6_205 okX5_hasJoint dX6_could_12 hC.y0.o (by decide) rfl rfl rfl (Nat.le_of_ble_eq_true rfl) (Nat.zero_add _).symm (Nat.zero_add _).symm rfl (c_X5_hasJoint hC.y0 hN.y hW.y (c := S.1.tn) (by omega) (k := j) ?_)
  intro v2 hv2
  refine J_if_eq (tgt := 27) hx dX6_could_15 (by decide) (fun c3 => ?_) (fun c3 => ?_)
  · refine J_aload_n hx dX6_could_27 (i := 0) rfl rfl ?_
    refine J_bipush (v := -2) hx dX6_could_28 (by decide) ?_
    refine J_invV (As := [vI ((-2))]) (st := []) hx lk_X6_67 okX6_refuse dX6_could_30 hC.o (by decide) rfl rfl rfl (Nat.le_of_ble_eq_true rfl) (Nat.zero_add _).symm (Nat.zero_add _).symm rfl (c_X6_refuse hC hN hW (k := 0) (by decide) ?_)
    intro M1 hN1 hf1
    refine J_iret hx hr dX6_could_33 ?_
    exact hQ.to (v := -((0 + 2 : Nat) : Int)) (S := rfS S 0) (by
      unfold a_could
      all_goals (try unfold overY at *)
      all_goals (try unfold mayQ at *)
      all_goals (try simp only [Int.toNat_natCast] at *)
      all_goals ((repeat' split) <;> first | rfl | (exfalso; omega) | (congr 1; omega))) hC hN1 hf1
  · refine J_iload_n hx dX6_could_18 (i := 2) rfl rfl ?_
    refine J_if_lt (tgt := 27) hx dX6_could_19 (by decide) (fun c4 => ?_) (fun c4 => ?_)
    · refine J_aload_n hx dX6_could_27 (i := 0) rfl rfl ?_
      refine J_bipush (v := -2) hx dX6_could_28 (by decide) ?_
      refine J_invV (As := [vI ((-2))]) (st := []) hx lk_X6_67 okX6_refuse dX6_could_30 hC.o (by decide) rfl rfl rfl (Nat.le_of_ble_eq_true rfl) (Nat.zero_add _).symm (Nat.zero_add _).symm rfl (c_X6_refuse hC hN hW (k := 0) (by decide) ?_)
      intro M1 hN1 hf1
      refine J_iret hx hr dX6_could_33 ?_
      exact hQ.to (v := -((0 + 2 : Nat) : Int)) (S := rfS S 0) (by
        unfold a_could
        all_goals (try unfold overY at *)
        all_goals (try unfold mayQ at *)
        all_goals (try simp only [Int.toNat_natCast] at *)
        all_goals ((repeat' split) <;> first | rfl | (exfalso; omega) | (congr 1; omega))) hC hN1 hf1
    · refine J_iload_n hx dX6_could_22 (i := 2) rfl rfl ?_
      refine J_iconst (v := 1) hx dX6_could_23 (by decide) ?_
      refine J_icmp_le (tgt := 34) hx dX6_could_24 (by decide) (fun c5 => ?_) (fun c5 => ?_)
      · obtain ⟨jN, rfl⟩ : ∃ z : Nat, j = ((z : Nat) : Int) := ⟨j.toNat, by omega⟩
        refine J_iload_n hx dX6_could_34 (i := 2) rfl rfl ?_
        refine J_iconst (v := 1) hx dX6_could_35 (by decide) ?_
        refine J_icmp_ne (tgt := 45) hx dX6_could_36 (by decide) (fun c6 => ?_) (fun c6 => ?_)
        · refine J_iconst (v := 1) hx dX6_could_45 (by decide) ?_
          refine J_istore_n (lsn := [vR (o), vI (((jN : Nat) : Int)), vI (e), vI (1), vU, vU]) hx dX6_could_46 (i := 3) rfl (Nat.le_of_ble_eq_true rfl) rfl rfl ?_
          refine J_iconst (v := 0) hx dX6_could_47 (by decide) ?_
          refine J_istore (lsn := [vR (o), vI (((jN : Nat) : Int)), vI (e), vI (1), vI (0), vU]) hx dX6_could_48 (Nat.le_of_ble_eq_true rfl) rfl rfl ?_
          refine J_iconst (v := 0) hx dX6_could_50 (by decide) ?_
          refine J_istore (lsn := [vR (o), vI (((jN : Nat) : Int)), vI (e), vI (1), vI (0), vI (0)]) hx dX6_could_51 (Nat.le_of_ble_eq_true rfl) rfl rfl ?_
          exact lp_X6_could hC hN hW hx hr (by omega) (by omega) (by split <;> omega) (hQ.same (S := S) (by
            unfold a_could
            all_goals (try unfold overY at *)
            all_goals (try unfold mayQ at *)
            all_goals (try simp only [Int.toNat_natCast] at *)
            all_goals ((repeat' split) <;> first | rfl | (exfalso; omega) | (congr 1; omega))) hC hN) 0 _ (by omega) rfl
        · refine J_ldcw (v := 1000000) hx ct_X6_298 dX6_could_39 (by decide) ?_
          refine J_goto (tgt := 46) hx dX6_could_42 (by decide) ?_
          refine J_istore_n (lsn := [vR (o), vI (((jN : Nat) : Int)), vI (e), vI (1000000), vU, vU]) hx dX6_could_46 (i := 3) rfl (Nat.le_of_ble_eq_true rfl) rfl rfl ?_
          refine J_iconst (v := 0) hx dX6_could_47 (by decide) ?_
          refine J_istore (lsn := [vR (o), vI (((jN : Nat) : Int)), vI (e), vI (1000000), vI (0), vU]) hx dX6_could_48 (Nat.le_of_ble_eq_true rfl) rfl rfl ?_
          refine J_iconst (v := 0) hx dX6_could_50 (by decide) ?_
          refine J_istore (lsn := [vR (o), vI (((jN : Nat) : Int)), vI (e), vI (1000000), vI (0), vI (0)]) hx dX6_could_51 (Nat.le_of_ble_eq_true rfl) rfl rfl ?_
          exact lp_X6_could hC hN hW hx hr (by omega) (by omega) (by split <;> omega) (hQ.same (S := S) (by
            unfold a_could
            all_goals (try unfold overY at *)
            all_goals (try unfold mayQ at *)
            all_goals (try simp only [Int.toNat_natCast] at *)
            all_goals ((repeat' split) <;> first | rfl | (exfalso; omega) | (congr 1; omega))) hC hN) 0 _ (by omega) rfl
      · refine J_aload_n hx dX6_could_27 (i := 0) rfl rfl ?_
        refine J_bipush (v := -2) hx dX6_could_28 (by decide) ?_
        refine J_invV (As := [vI ((-2))]) (st := []) hx lk_X6_67 okX6_refuse dX6_could_30 hC.o (by decide) rfl rfl rfl (Nat.le_of_ble_eq_true rfl) (Nat.zero_add _).symm (Nat.zero_add _).symm rfl (c_X6_refuse hC hN hW (k := 0) (by decide) ?_)
        intro M1 hN1 hf1
        refine J_iret hx hr dX6_could_33 ?_
        exact hQ.to (v := -((0 + 2 : Nat) : Int)) (S := rfS S 0) (by
          unfold a_could
          all_goals (try unfold overY at *)
          all_goals (try unfold mayQ at *)
          all_goals (try simp only [Int.toNat_natCast] at *)
          all_goals ((repeat' split) <;> first | rfl | (exfalso; omega) | (congr 1; omega))) hC hN1 hf1

set_option maxHeartbeats 4000000 in
theorem lp_X7_could {g : WG} {d : Nat} {T : TT} {M : MM} {r sz : Nat} {S : ST} {Q : MVal → TT → MM → Nat → Prop} (hT : MT T r) (hN : RN M r S) (hW : WFS S) {x : CX} (hx : OKx g x RX7 cX7_could (d + 4)) (hr : RTx g x (some .int) Q) {j : Nat} {e : Int} (hj : j + 1 < (S.1.ch S.1.tn).length) (he : 0 ≤ e ∧ e ≤ 1) (hQ : Q (vI (couB (couP S.1 j e) S.1.n)) T M sz) (i : Nat) (b : Int) (u : MVal) (hi : i ≤ S.1.n) (hb : b = couB (couP S.1 j e) i) : Jd g x 34 [vR (r), vI (((j : Nat) : Int)), vI (e), vI (b), vI (((i : Nat) : Int)), u] [] T M sz 0 0 := by
  have hn8 := hW.y.n8
  have ht2 := hW.y.tn2
  have hbr : -2147483648 ≤ b ∧ b ≤ 2147483647 := by rw [hb]; exact couB_rg _ _
  refine J_iload hx dX7_could_34 rfl ?_
  refine J_aload_n hx dX7_could_36 (i := 0) rfl rfl ?_
  refine J_getI2 (v := ((S.1.n : Nat) : Int)) hx fl_X7_82 cl_X7 dX7_could_37 hT.o (by decide) rfl hN.y.pp ?_
  have rg1 := hW.y.n8
  refine J_icmp_ge (tgt := 102) hx dX7_could_40 (by decide) (fun c2 => ?_) (fun c2 => ?_)
  · refine J_iload_n hx dX7_could_102 (i := 3) rfl rfl ?_
    refine J_iret hx hr dX7_could_103 ?_
    have ei : i = S.1.n := by omega
    subst ei
    exact Qv hQ hb.symm
  · refine J_aload_n hx dX7_could_43 (i := 0) rfl rfl ?_
    refine J_iload hx dX7_could_44 rfl ?_
    refine J_invV (As := [vI (((i : Nat) : Int))]) (st := []) hx lk_X7_119 okX7_chainAt dX7_could_46 hT.o (by decide) rfl rfl rfl (Nat.le_of_ble_eq_true rfl) (Nat.zero_add _).symm (Nat.zero_add _).symm rfl (c_X7_chainAt hT hN.y hW.y (p := i) (by omega) ?_)
    have rg3 := S.1.co2 i
    refine J_aload_n hx dX7_could_49 (i := 0) rfl rfl ?_
    refine J_getI2 (v := ((S.1.tn : Nat) : Int)) hx fl_X7_148 cl_X7 dX7_could_50 hT.o (by decide) rfl (hN.y.tn hW.y) ?_
    have rg4 := hW.y.tn2
    refine J_icmp_ne (tgt := 60) hx dX7_could_53 (by decide) (fun c5 => ?_) (fun c5 => ?_)
    · refine J_aload_n hx dX7_could_60 (i := 0) rfl rfl ?_
      refine J_iload hx dX7_could_61 rfl ?_
      refine J_iload_n hx dX7_could_63 (i := 1) rfl rfl ?_
      refine J_invV (As := [vI (((i : Nat) : Int)), vI (((j : Nat) : Int))]) (st := []) hx lk_X7_211 okX7_oddsOf dX7_could_64 hT.o (by decide) rfl rfl rfl (Nat.le_of_ble_eq_true rfl) (Nat.zero_add _).symm (Nat.zero_add _).symm rfl (c_X7_oddsOf hT hN.y hW.y (p := i) (by omega) (j := j) (by omega) ?_)
      have rg6 : 0 ≤ oddsY S.1 i j ∧ oddsY S.1 i j ≤ 1000000 := oddsB_rg hW.y _ _
      refine J_istore (lsn := [vR (r), vI (((j : Nat) : Int)), vI (e), vI (b), vI (((i : Nat) : Int)), vI (oddsY S.1 i j)]) hx dX7_could_67 (Nat.le_of_ble_eq_true rfl) rfl rfl ?_
      refine J_iload_n hx dX7_could_69 (i := 3) rfl rfl ?_
      refine J_iload hx dX7_could_70 rfl ?_
      refine J_ldc (v := 1000000) hx ct_X7_218 dX7_could_72 (by decide) ?_
      refine J_icmp_eq (tgt := 86) hx dX7_could_74 (by decide) (fun c7 => ?_) (fun c7 => ?_)
      · refine J_iconst (v := 1) hx dX7_could_86 (by decide) ?_
        refine J_iload hx dX7_could_87 rfl ?_
        refine J_ishl (v := jshl 1 ((i : Nat) : Int)) hx dX7_could_89 rfl ?_
        refine J_goto (tgt := 94) hx dX7_could_90 (by decide) ?_
        refine J_ior (v := jor b (jshl 1 ((i : Nat) : Int))) hx dX7_could_94 rfl ?_
        refine J_istore_n (lsn := [vR (r), vI (((j : Nat) : Int)), vI (e), vI (jor b (jshl 1 ((i : Nat) : Int))), vI (((i : Nat) : Int)), vI (oddsY S.1 i j)]) hx dX7_could_95 (i := 3) rfl (Nat.le_of_ble_eq_true rfl) rfl rfl ?_
        refine J_iinc (v := ((i : Nat) : Int) + 1) (lsn := [vR (r), vI (((j : Nat) : Int)), vI (e), vI (jor b (jshl 1 ((i : Nat) : Int))), vI (((i : Nat) : Int) + 1), vI (oddsY S.1 i j)]) hx dX7_could_96 rfl (jinc1 (by omega) (by omega)) rfl rfl ?_
        refine J_goto (tgt := 34) hx dX7_could_99 (by decide) ?_
        exact lp_X7_could hT hN hW hx hr hj he hQ (i + 1) _ _ (by omega) (by rw [hb]; exact (couB_t (decide_eq_true (by (try split) <;> omega))).symm)
      · refine J_iload_n hx dX7_could_77 (i := 2) rfl rfl ?_
        refine J_if_ne (tgt := 93) hx dX7_could_78 (by decide) (fun c8 => ?_) (fun c8 => ?_)
        · refine J_iconst (v := 0) hx dX7_could_93 (by decide) ?_
          refine J_ior (v := b) hx dX7_could_94 (jor_0 hbr) ?_
          refine J_istore_n (lsn := [vR (r), vI (((j : Nat) : Int)), vI (e), vI (b), vI (((i : Nat) : Int)), vI (oddsY S.1 i j)]) hx dX7_could_95 (i := 3) rfl (Nat.le_of_ble_eq_true rfl) rfl rfl ?_
          refine J_iinc (v := ((i : Nat) : Int) + 1) (lsn := [vR (r), vI (((j : Nat) : Int)), vI (e), vI (b), vI (((i : Nat) : Int) + 1), vI (oddsY S.1 i j)]) hx dX7_could_96 rfl (jinc1 (by omega) (by omega)) rfl rfl ?_
          refine J_goto (tgt := 34) hx dX7_could_99 (by decide) ?_
          exact lp_X7_could hT hN hW hx hr hj he hQ (i + 1) _ _ (by omega) (by rw [hb]; exact (couB_f (decide_eq_false (by (try split) <;> omega))).symm)
        · refine J_iload hx dX7_could_81 rfl ?_
          refine J_if_le (tgt := 93) hx dX7_could_83 (by decide) (fun c9 => ?_) (fun c9 => ?_)
          · refine J_iconst (v := 0) hx dX7_could_93 (by decide) ?_
            refine J_ior (v := b) hx dX7_could_94 (jor_0 hbr) ?_
            refine J_istore_n (lsn := [vR (r), vI (((j : Nat) : Int)), vI (e), vI (b), vI (((i : Nat) : Int)), vI (oddsY S.1 i j)]) hx dX7_could_95 (i := 3) rfl (Nat.le_of_ble_eq_true rfl) rfl rfl ?_
            refine J_iinc (v := ((i : Nat) : Int) + 1) (lsn := [vR (r), vI (((j : Nat) : Int)), vI (e), vI (b), vI (((i : Nat) : Int) + 1), vI (oddsY S.1 i j)]) hx dX7_could_96 rfl (jinc1 (by omega) (by omega)) rfl rfl ?_
            refine J_goto (tgt := 34) hx dX7_could_99 (by decide) ?_
            exact lp_X7_could hT hN hW hx hr hj he hQ (i + 1) _ _ (by omega) (by rw [hb]; exact (couB_f (decide_eq_false (by (try split) <;> omega))).symm)
          · refine J_iconst (v := 1) hx dX7_could_86 (by decide) ?_
            refine J_iload hx dX7_could_87 rfl ?_
            refine J_ishl (v := jshl 1 ((i : Nat) : Int)) hx dX7_could_89 rfl ?_
            refine J_goto (tgt := 94) hx dX7_could_90 (by decide) ?_
            refine J_ior (v := jor b (jshl 1 ((i : Nat) : Int))) hx dX7_could_94 rfl ?_
            refine J_istore_n (lsn := [vR (r), vI (((j : Nat) : Int)), vI (e), vI (jor b (jshl 1 ((i : Nat) : Int))), vI (((i : Nat) : Int)), vI (oddsY S.1 i j)]) hx dX7_could_95 (i := 3) rfl (Nat.le_of_ble_eq_true rfl) rfl rfl ?_
            refine J_iinc (v := ((i : Nat) : Int) + 1) (lsn := [vR (r), vI (((j : Nat) : Int)), vI (e), vI (jor b (jshl 1 ((i : Nat) : Int))), vI (((i : Nat) : Int) + 1), vI (oddsY S.1 i j)]) hx dX7_could_96 rfl (jinc1 (by omega) (by omega)) rfl rfl ?_
            refine J_goto (tgt := 34) hx dX7_could_99 (by decide) ?_
            exact lp_X7_could hT hN hW hx hr hj he hQ (i + 1) _ _ (by omega) (by rw [hb]; exact (couB_t (decide_eq_true (by (try split) <;> omega))).symm)
    · refine J_iconst (v := 0) hx dX7_could_56 (by decide) ?_
      refine J_goto (tgt := 67) hx dX7_could_57 (by decide) ?_
      refine J_istore (lsn := [vR (r), vI (((j : Nat) : Int)), vI (e), vI (b), vI (((i : Nat) : Int)), vI (0)]) hx dX7_could_67 (Nat.le_of_ble_eq_true rfl) rfl rfl ?_
      refine J_iload_n hx dX7_could_69 (i := 3) rfl rfl ?_
      refine J_iload hx dX7_could_70 rfl ?_
      refine J_ldc (v := 1000000) hx ct_X7_218 dX7_could_72 (by decide) ?_
      refine J_icmp_eq (tgt := 86) hx dX7_could_74 (by decide) (fun c9 => absurd c9 (by decide)) (fun _ => ?_)
      refine J_iload_n hx dX7_could_77 (i := 2) rfl rfl ?_
      refine J_if_ne (tgt := 93) hx dX7_could_78 (by decide) (fun c11 => ?_) (fun c11 => ?_)
      · refine J_iconst (v := 0) hx dX7_could_93 (by decide) ?_
        refine J_ior (v := b) hx dX7_could_94 (jor_0 hbr) ?_
        refine J_istore_n (lsn := [vR (r), vI (((j : Nat) : Int)), vI (e), vI (b), vI (((i : Nat) : Int)), vI (0)]) hx dX7_could_95 (i := 3) rfl (Nat.le_of_ble_eq_true rfl) rfl rfl ?_
        refine J_iinc (v := ((i : Nat) : Int) + 1) (lsn := [vR (r), vI (((j : Nat) : Int)), vI (e), vI (b), vI (((i : Nat) : Int) + 1), vI (0)]) hx dX7_could_96 rfl (jinc1 (by omega) (by omega)) rfl rfl ?_
        refine J_goto (tgt := 34) hx dX7_could_99 (by decide) ?_
        exact lp_X7_could hT hN hW hx hr hj he hQ (i + 1) _ _ (by omega) (by rw [hb]; exact (couB_f (decide_eq_false (by (try split) <;> omega))).symm)
      · refine J_iload hx dX7_could_81 rfl ?_
        refine J_if_le (tgt := 93) hx dX7_could_83 (by decide) (fun _ => ?_) (fun c9 => absurd c9 (by decide))
        refine J_iconst (v := 0) hx dX7_could_93 (by decide) ?_
        refine J_ior (v := b) hx dX7_could_94 (jor_0 hbr) ?_
        refine J_istore_n (lsn := [vR (r), vI (((j : Nat) : Int)), vI (e), vI (b), vI (((i : Nat) : Int)), vI (0)]) hx dX7_could_95 (i := 3) rfl (Nat.le_of_ble_eq_true rfl) rfl rfl ?_
        refine J_iinc (v := ((i : Nat) : Int) + 1) (lsn := [vR (r), vI (((j : Nat) : Int)), vI (e), vI (b), vI (((i : Nat) : Int) + 1), vI (0)]) hx dX7_could_96 rfl (jinc1 (by omega) (by omega)) rfl rfl ?_
        refine J_goto (tgt := 34) hx dX7_could_99 (by decide) ?_
        exact lp_X7_could hT hN hW hx hr hj he hQ (i + 1) _ _ (by omega) (by rw [hb]; exact (couB_f (decide_eq_false (by (try split) <;> omega))).symm)
termination_by S.1.n - i
decreasing_by all_goals omega

set_option maxHeartbeats 4000000 in
theorem c_X7_could {g : WG} {d : Nat} {T : TT} {M : MM} {r sz : Nat} {S : ST} {Q : MVal → TT → MM → Nat → Prop} (hT : MT T r) (hN : RN M r S) (hW : WFS S) {j e : Int} (h_j : -2147483648 ≤ j ∧ j ≤ 2147483647) (h_e : -2147483648 ≤ e ∧ e ≤ 2147483647) (hQ : RQ r T M sz Q (a_could S j e)) : Ct g (d + 4) mX7_could [vR (r), vI (j), vI (e)] T M sz 0 0 Q := by
  refine Ct_of2 (ls := [vR (r), vI (j), vI (e), vU, vU, vU]) okX7_could rfl (Nat.le_of_ble_eq_true rfl) rfl ?_
  intro x hx hr hnm
  have hn8 := hW.y.n8
  have ht2 := hW.y.tn2
  refine J_aload_n hx dX7_could_0 (i := 0) rfl rfl ?_
  refine J_aload_n hx dX7_could_1 (i := 0) rfl rfl ?_
  refine J_getI2 (v := ((S.1.tn : Nat) : Int)) hx fl_X7_148 cl_X7 dX7_could_2 hT.o (by decide) rfl (hN.y.tn hW.y) ?_
  have rg1 := hW.y.tn2
  refine J_iload_n hx dX7_could_5 (i := 1) rfl rfl ?_
  refine J_invV (As := [vI (((S.1.tn : Nat) : Int)), vI (j)]) (st := []) hx lk_X7_263 okX7_isJoint dX7_could_6 hT.o (by decide) rfl rfl rfl (Nat.le_of_ble_eq_true rfl) (Nat.zero_add _).symm (Nat.zero_add _).symm rfl (c_X7_isJoint hT hN.y hW.y (c := S.1.tn) (by omega) (k := j) ?_)
  intro v2 hv2
  refine J_if_eq (tgt := 22) hx dX7_could_9 (by decide) (fun c3 => ?_) (fun c3 => ?_)
  · refine J_aload_n hx dX7_could_22 (i := 0) rfl rfl ?_
    refine J_bipush (v := -2) hx dX7_could_23 (by decide) ?_
    refine J_invV (As := [vI ((-2))]) (st := []) hx lk_X7_99 okX7_refuse dX7_could_25 hT.o (by decide) rfl rfl rfl (Nat.le_of_ble_eq_true rfl) (Nat.zero_add _).symm (Nat.zero_add _).symm rfl (c_X7_refuseS hT hN hW (k := 0) (by decide) ?_)
    intro M1 hN1 hf1
    refine J_iret hx hr dX7_could_28 ?_
    exact hQ.to (v := -((0 + 2 : Nat) : Int)) (S := rfS S 0) (by
      unfold a_could
      all_goals (try unfold overY at *)
      all_goals (try unfold mayQ at *)
      all_goals (try simp only [Int.toNat_natCast] at *)
      all_goals ((repeat' split) <;> first | rfl | (exfalso; omega) | (congr 1; omega))) hN1 hf1
  · refine J_iload_n hx dX7_could_12 (i := 2) rfl rfl ?_
    refine J_i2l hx dX7_could_13 ?_
    refine J_lconst (v := 0) hx dX7_could_14 (by decide) ?_
    refine J_lconst (v := 1) hx dX7_could_15 (by decide) ?_
    refine J_invS (As := [vL (e), vL (0), vL (1)]) (st := []) hx lk_X7_85 okX7_in dX7_could_16 rfl rfl (Nat.le_of_ble_eq_true rfl) (Nat.zero_add _).symm (Nat.zero_add _).symm rfl (c_X7_in (a := e) (lo := 0) (hi := 1) ?_)
    intro v4 hv4
    refine J_if_ne (tgt := 29) hx dX7_could_19 (by decide) (fun c5 => ?_) (fun c5 => ?_)
    · obtain ⟨jN, rfl⟩ : ∃ z : Nat, j = ((z : Nat) : Int) := ⟨j.toNat, by omega⟩
      refine J_iconst (v := 0) hx dX7_could_29 (by decide) ?_
      refine J_istore_n (lsn := [vR (r), vI (((jN : Nat) : Int)), vI (e), vI (0), vU, vU]) hx dX7_could_30 (i := 3) rfl (Nat.le_of_ble_eq_true rfl) rfl rfl ?_
      refine J_iconst (v := 0) hx dX7_could_31 (by decide) ?_
      refine J_istore (lsn := [vR (r), vI (((jN : Nat) : Int)), vI (e), vI (0), vI (0), vU]) hx dX7_could_32 (Nat.le_of_ble_eq_true rfl) rfl rfl ?_
      exact lp_X7_could hT hN hW hx hr (by omega) (by omega) (hQ.same (S := S) (by
        unfold a_could
        all_goals (try unfold overY at *)
        all_goals (try unfold mayQ at *)
        all_goals (try simp only [Int.toNat_natCast] at *)
        all_goals ((repeat' split) <;> first | rfl | (exfalso; omega) | (congr 1; omega))) hN) 0 _ _ (by omega) rfl
    · refine J_aload_n hx dX7_could_22 (i := 0) rfl rfl ?_
      refine J_bipush (v := -2) hx dX7_could_23 (by decide) ?_
      refine J_invV (As := [vI ((-2))]) (st := []) hx lk_X7_99 okX7_refuse dX7_could_25 hT.o (by decide) rfl rfl rfl (Nat.le_of_ble_eq_true rfl) (Nat.zero_add _).symm (Nat.zero_add _).symm rfl (c_X7_refuseS hT hN hW (k := 0) (by decide) ?_)
      intro M1 hN1 hf1
      refine J_iret hx hr dX7_could_28 ?_
      exact hQ.to (v := -((0 + 2 : Nat) : Int)) (S := rfS S 0) (by
        unfold a_could
        all_goals (try unfold overY at *)
        all_goals (try unfold mayQ at *)
        all_goals (try simp only [Int.toNat_natCast] at *)
        all_goals ((repeat' split) <;> first | rfl | (exfalso; omega) | (congr 1; omega))) hN1 hf1

