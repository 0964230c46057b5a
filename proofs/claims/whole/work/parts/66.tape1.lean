def TPE (T : TT) (M : MM) (q z : Nat) (B : Nat → Int) : Prop := ((T q).1 = 4 ∧ (T q).2.2 0 = some (q + 1) ∧ (T (q + 1)).1 = 10 ∧ (T (q + 1)).2.1 = 250) ∧ M q 1 = ((z : Nat) : Int) ∧ z ≤ 250 ∧ ∀ j, j < z → M (q + 1) j = B j ∧ 0 ≤ B j ∧ B j ≤ 255
theorem TPE.k {T : TT} {M : MM} {q z : Nat} {B : Nat → Int} (h : TPE T M q z B) : (T q).1 = 4 := h.1.1
theorem TPE.r {T : TT} {M : MM} {q z : Nat} {B : Nat → Int} (h : TPE T M q z B) : (T q).2.2 0 = some (q + 1) := h.1.2.1
theorem TPE.k1 {T : TT} {M : MM} {q z : Nat} {B : Nat → Int} (h : TPE T M q z B) : (T (q + 1)).1 = 10 := h.1.2.2.1
theorem TPE.n1 {T : TT} {M : MM} {q z : Nat} {B : Nat → Int} (h : TPE T M q z B) : (T (q + 1)).2.1 = 250 := h.1.2.2.2
theorem TPE.z {T : TT} {M : MM} {q z : Nat} {B : Nat → Int} (h : TPE T M q z B) : M q 1 = ((z : Nat) : Int) := h.2.1
theorem TPE.z2 {T : TT} {M : MM} {q z : Nat} {B : Nat → Int} (h : TPE T M q z B) : z ≤ 250 := h.2.2.1
theorem TPE.b {T : TT} {M : MM} {q z : Nat} {B : Nat → Int} (h : TPE T M q z B) {j : Nat} (hj : j < z) : M (q + 1) j = B j := (h.2.2.2 j hj).1
theorem TPE.rg {T : TT} {M : MM} {q z : Nat} {B : Nat → Int} (h : TPE T M q z B) {j : Nat} (hj : j < z) : 0 ≤ B j ∧ B j ≤ 255 := (h.2.2.2 j hj).2
def FrT (q : Nat) (M M' : MM) : Prop := ∀ a j, ¬ (a = q ∧ 2 ≤ j ∧ j ≤ 5) → M' a j = M a j
theorem FrT.rf {q : Nat} {M : MM} : FrT q M M := fun _ _ _ => rfl
theorem FrT.tr {q : Nat} {M M1 M2 : MM} (h : FrT q M M1) (h2 : FrT q M1 M2) : FrT q M M2 := fun a j h3 => (h2 a j h3).trans (h a j h3)
theorem FrT.row {q : Nat} {M M' : MM} (h : FrT q M M') {a : Nat} (ha : a ≠ q) : M' a = M a := funext fun j => h a j (fun z => ha z.1)
theorem TPE.fr {T : TT} {M M' : MM} {q z : Nat} {B : Nat → Int} (h : TPE T M q z B) (hF : FrT q M M') : TPE T M' q z B := ⟨h.1, by rw [hF _ _ (by omega)]; exact h.2.1, h.2.2.1, fun j hj => by rw [hF _ _ (by omega)]; exact h.2.2.2 j hj⟩
def TPc (M : MM) (q : Nat) (tk : TK) (f : Int) : Prop := M q 2 = f ∧ M q 3 = tk.2.1 ∧ M q 4 = ((tk.1 : Nat) : Int) ∧ M q 5 = ((tk.2.2 : Nat) : Int)
set_option maxHeartbeats 4000000 in
theorem c_X4_sortOf {g : WG} {d : Nat} {T : TT} {M : MM} {sz : Nat} {Q : MVal → TT → MM → Nat → Prop} {b : Int} (hQ : Q (vI (srtI b)) T M sz) : Ct g (d + 1) mX4_sortOf [vI (b)] T M sz 0 0 Q := by
  refine Ct_of2 (ls := [vI (b)]) okX4_sortOf rfl (Nat.le_of_ble_eq_true rfl) rfl ?_
  intro x hx hr hnm
  refine J_iload_n hx dX4_sortOf_0 (i := 0) rfl rfl ?_
  refine J_bipush (v := 97) hx dX4_sortOf_1 (by decide) ?_
  refine J_icmp_lt (tgt := 14) hx dX4_sortOf_3 (by decide) (fun c1 => ?_) (fun c1 => ?_)
  · refine J_iload_n hx dX4_sortOf_14 (i := 0) rfl rfl ?_
    refine J_bipush (v := 48) hx dX4_sortOf_15 (by decide) ?_
    refine J_icmp_lt (tgt := 28) hx dX4_sortOf_17 (by decide) (fun c2 => ?_) (fun c2 => ?_)
    · refine J_iload_n hx dX4_sortOf_28 (i := 0) rfl rfl ?_
      refine J_bipush (v := 59) hx dX4_sortOf_29 (by decide) ?_
      refine J_icmp_ne (tgt := 38) hx dX4_sortOf_31 (by decide) (fun c3 => ?_) (fun c3 => ?_)
      · refine J_iconst (v := 4) hx dX4_sortOf_38 (by decide) ?_
        refine J_iret hx hr dX4_sortOf_39 ?_
        exact Qv hQ (by unfold srtI; (repeat' split) <;> omega)
      · refine J_iconst (v := 3) hx dX4_sortOf_34 (by decide) ?_
        refine J_goto (tgt := 39) hx dX4_sortOf_35 (by decide) ?_
        refine J_iret hx hr dX4_sortOf_39 ?_
        exact Qv hQ (by unfold srtI; (repeat' split) <;> omega)
    · refine J_iload_n hx dX4_sortOf_20 (i := 0) rfl rfl ?_
      refine J_bipush (v := 57) hx dX4_sortOf_21 (by decide) ?_
      refine J_icmp_gt (tgt := 28) hx dX4_sortOf_23 (by decide) (fun c4 => ?_) (fun c4 => ?_)
      · refine J_iload_n hx dX4_sortOf_28 (i := 0) rfl rfl ?_
        refine J_bipush (v := 59) hx dX4_sortOf_29 (by decide) ?_
        refine J_icmp_ne (tgt := 38) hx dX4_sortOf_31 (by decide) (fun c5 => ?_) (fun c5 => ?_)
        · refine J_iconst (v := 4) hx dX4_sortOf_38 (by decide) ?_
          refine J_iret hx hr dX4_sortOf_39 ?_
          exact Qv hQ (by unfold srtI; (repeat' split) <;> omega)
        · refine J_iconst (v := 3) hx dX4_sortOf_34 (by decide) ?_
          refine J_goto (tgt := 39) hx dX4_sortOf_35 (by decide) ?_
          refine J_iret hx hr dX4_sortOf_39 ?_
          exact Qv hQ (by unfold srtI; (repeat' split) <;> omega)
      · refine J_iconst (v := 2) hx dX4_sortOf_26 (by decide) ?_
        refine J_iret hx hr dX4_sortOf_27 ?_
        exact Qv hQ (by unfold srtI; (repeat' split) <;> omega)
  · refine J_iload_n hx dX4_sortOf_6 (i := 0) rfl rfl ?_
    refine J_bipush (v := 122) hx dX4_sortOf_7 (by decide) ?_
    refine J_icmp_gt (tgt := 14) hx dX4_sortOf_9 (by decide) (fun c6 => ?_) (fun c6 => ?_)
    · refine J_iload_n hx dX4_sortOf_14 (i := 0) rfl rfl ?_
      refine J_bipush (v := 48) hx dX4_sortOf_15 (by decide) ?_
      refine J_icmp_lt (tgt := 28) hx dX4_sortOf_17 (by decide) (fun c7 => ?_) (fun c7 => ?_)
      · refine J_iload_n hx dX4_sortOf_28 (i := 0) rfl rfl ?_
        refine J_bipush (v := 59) hx dX4_sortOf_29 (by decide) ?_
        refine J_icmp_ne (tgt := 38) hx dX4_sortOf_31 (by decide) (fun c8 => ?_) (fun c8 => ?_)
        · refine J_iconst (v := 4) hx dX4_sortOf_38 (by decide) ?_
          refine J_iret hx hr dX4_sortOf_39 ?_
          exact Qv hQ (by unfold srtI; (repeat' split) <;> omega)
        · refine J_iconst (v := 3) hx dX4_sortOf_34 (by decide) ?_
          refine J_goto (tgt := 39) hx dX4_sortOf_35 (by decide) ?_
          refine J_iret hx hr dX4_sortOf_39 ?_
          exact Qv hQ (by unfold srtI; (repeat' split) <;> omega)
      · refine J_iload_n hx dX4_sortOf_20 (i := 0) rfl rfl ?_
        refine J_bipush (v := 57) hx dX4_sortOf_21 (by decide) ?_
        refine J_icmp_gt (tgt := 28) hx dX4_sortOf_23 (by decide) (fun c9 => ?_) (fun c9 => ?_)
        · refine J_iload_n hx dX4_sortOf_28 (i := 0) rfl rfl ?_
          refine J_bipush (v := 59) hx dX4_sortOf_29 (by decide) ?_
          refine J_icmp_ne (tgt := 38) hx dX4_sortOf_31 (by decide) (fun c10 => ?_) (fun c10 => ?_)
          · refine J_iconst (v := 4) hx dX4_sortOf_38 (by decide) ?_
            refine J_iret hx hr dX4_sortOf_39 ?_
            exact Qv hQ (by unfold srtI; (repeat' split) <;> omega)
          · refine J_iconst (v := 3) hx dX4_sortOf_34 (by decide) ?_
            refine J_goto (tgt := 39) hx dX4_sortOf_35 (by decide) ?_
            refine J_iret hx hr dX4_sortOf_39 ?_
            exact Qv hQ (by unfold srtI; (repeat' split) <;> omega)
        · refine J_iconst (v := 2) hx dX4_sortOf_26 (by decide) ?_
          refine J_iret hx hr dX4_sortOf_27 ?_
          exact Qv hQ (by unfold srtI; (repeat' split) <;> omega)
    · refine J_iconst (v := 1) hx dX4_sortOf_12 (by decide) ?_
      refine J_iret hx hr dX4_sortOf_13 ?_
      exact Qv hQ (by unfold srtI; (repeat' split) <;> omega)

set_option maxHeartbeats 4000000 in
theorem lp2_X4_toNextToken {g : WG} {d : Nat} {T : TT} {M : MM} {q sz z : Nat} {B : Nat → Int} {Q : MVal → TT → MM → Nat → Prop} (hE : TPE T M q z B) {s : Nat} (t : Nat) {ty f : Int} {x : CX} (hx : OKx g x RX4 cX4_toNextToken (d + 2)) (hr : RTx g x none Q) (hQ : ∀ M', TPc M' q (s, ty, rnN B z ty t) f → FrT q M M' → Q vU T M' sz) (M1 : MM) (ht : t ≤ z) (hE1 : TPE T M1 q z B) (h2 : M1 q 2 = f) (h3 : M1 q 3 = ty) (h4 : M1 q 4 = ((s : Nat) : Int)) (h5 : M1 q 5 = ((t : Nat) : Int)) (hF1 : FrT q M M1) : Jd g x 101 [vR (q)] [] T M1 sz 0 0 := by
  have hz2 := hE1.z2
  refine J_aload_n hx dX4_toNextToken_101 (i := 0) rfl rfl ?_
  refine J_getI2 (v := ((t : Nat) : Int)) hx fl_X4_22 cl_X4 dX4_toNextToken_102 hE1.k (by decide) rfl h5 ?_
  refine J_aload_n hx dX4_toNextToken_105 (i := 0) rfl rfl ?_
  refine J_getI2 (v := ((z : Nat) : Int)) hx fl_X4_19 cl_X4 dX4_toNextToken_106 hE1.k (by decide) rfl hE1.z ?_
  refine J_icmp_ge (tgt := 161) hx dX4_toNextToken_109 (by decide) (fun c1 => ?_) (fun c1 => ?_)
  · refine J_vret hx hr dX4_toNextToken_161 ?_
    rw [rnN_st (e := t) (by omega)] at hQ
    exact hQ M1 ⟨h2, h3, h4, h5⟩ hF1
  · refine J_aload_n hx dX4_toNextToken_112 (i := 0) rfl rfl ?_
    refine J_getR (b := q + 1) hx fl_X4_9 cl_X4 dX4_toNextToken_113 hE1.k (by decide) rfl hE1.r ?_
    refine J_aload_n hx dX4_toNextToken_116 (i := 0) rfl rfl ?_
    refine J_getI2 (v := ((t : Nat) : Int)) hx fl_X4_22 cl_X4 dX4_toNextToken_117 hE1.k (by decide) rfl h5 ?_
    refine J_iald2 (v := B t) hx t dX4_toNextToken_120 hE1.k1 (by omega) (by rw [hE1.n1]; omega) (by exact hE1.b (by omega)) ?_
    have rgb2 := hE1.rg (j := t) (by omega)
    refine J_invS (As := [vI (B t)]) (st := []) hx lk_X4_125 okX4_sortOf dX4_toNextToken_121 rfl rfl (Nat.le_of_ble_eq_true rfl) (Nat.zero_add _).symm (Nat.zero_add _).symm rfl (c_X4_sortOf (b := B t) ?_)
    have rgs := srtI_rg (B t)
    refine J_aload_n hx dX4_toNextToken_124 (i := 0) rfl rfl ?_
    refine J_getI2 (v := ty) hx fl_X4_32 cl_X4 dX4_toNextToken_125 hE1.k (by decide) rfl h3 ?_
    refine J_icmp_ne (tgt := 161) hx dX4_toNextToken_128 (by decide) (fun c3 => ?_) (fun c3 => ?_)
    · refine J_vret hx hr dX4_toNextToken_161 ?_
      rw [rnN_st (e := t) (by omega)] at hQ
      exact hQ M1 ⟨h2, h3, h4, h5⟩ hF1
    · refine J_aload_n hx dX4_toNextToken_131 (i := 0) rfl rfl ?_
      refine J_dup hx dX4_toNextToken_132 rfl ?_
      refine J_getI2 (v := ((t : Nat) : Int)) hx fl_X4_22 cl_X4 dX4_toNextToken_133 hE1.k (by decide) rfl h5 ?_
      refine J_iconst (v := 1) hx dX4_toNextToken_136 (by decide) ?_
      refine J_iadd (v := ((t : Nat) : Int) + 1) hx dX4_toNextToken_137 (w32_id (by omega) (by omega)) ?_
      refine J_putI hx fl_X4_22 cl_X4 dX4_toNextToken_138 hE1.k (by decide) rfl (Or.inl rfl) (by decide) ?_
      generalize eM2 : up2 M1 q 5 (((t : Nat) : Int) + 1) = M2
      have hM2a : M2 q 5 = ((t : Nat) : Int) + 1 := by rw [← eM2]; exact up2_at
      have hM2o : ∀ b9 j9, (b9 ≠ q ∨ j9 ≠ 5) → M2 b9 j9 = M1 b9 j9 := fun b9 j9 h9 => by rw [← eM2]; exact up2_ne h9
      have hM2r : ∀ b9, b9 ≠ q → M2 b9 = M1 b9 := fun b9 h9 => by rw [← eM2]; exact up2_row h9
      refine J_goto (tgt := 101) hx dX4_toNextToken_141 (by decide) ?_
      rw [rnN_go (e := t) (by omega)] at hQ
      exact lp2_X4_toNextToken hE (t + 1) hx hr hQ M2 (by omega) (hE1.fr (fun a9 j9 h9 => hM2o _ _ (by omega))) (by rw [hM2o _ _ (Or.inr (by decide))]; exact h2) (by rw [hM2o _ _ (Or.inr (by decide))]; exact h3) (by rw [hM2o _ _ (Or.inr (by decide))]; exact h4) (by first | (rw [hM2a]; done) | (rw [hM2a]; rfl)) (fun a9 j9 h9 => by rw [hM2o _ _ (by omega)]; exact hF1 a9 j9 h9)
termination_by z - t
decreasing_by all_goals omega

set_option maxHeartbeats 4000000 in
theorem lp_X4_toNextToken {g : WG} {d : Nat} {T : TT} {M : MM} {q sz z : Nat} {B : Nat → Int} {Q : MVal → TT → MM → Nat → Prop} (hE : TPE T M q z B) {e : Nat} {f : Int} {x : CX} (hx : OKx g x RX4 cX4_toNextToken (d + 2)) (hr : RTx g x none Q) (hQ : ∀ M', TPc M' q (tkN B z e) f → FrT q M M' → Q vU T M' sz) (s : Nat) (M1 : MM) (hsp : spN B z e = spN B z s) (hs : s ≤ z) (hE1 : TPE T M1 q z B) (h2 : M1 q 2 = f) (h4 : M1 q 4 = ((s : Nat) : Int)) (h5 : M1 q 5 = ((e : Nat) : Int)) (hF1 : FrT q M M1) : Jd g x 8 [vR (q)] [] T M1 sz 0 0 := by
  have hz2 := hE1.z2
  refine J_aload_n hx dX4_toNextToken_8 (i := 0) rfl rfl ?_
  refine J_getI2 (v := ((s : Nat) : Int)) hx fl_X4_35 cl_X4 dX4_toNextToken_9 hE1.k (by decide) rfl h4 ?_
  refine J_aload_n hx dX4_toNextToken_12 (i := 0) rfl rfl ?_
  refine J_getI2 (v := ((z : Nat) : Int)) hx fl_X4_19 cl_X4 dX4_toNextToken_13 hE1.k (by decide) rfl hE1.z ?_
  refine J_icmp_ge (tgt := 46) hx dX4_toNextToken_16 (by decide) (fun c1 => ?_) (fun c1 => ?_)
  · refine J_aload_n hx dX4_toNextToken_46 (i := 0) rfl rfl ?_
    refine J_aload_n hx dX4_toNextToken_47 (i := 0) rfl rfl ?_
    refine J_getI2 (v := ((s : Nat) : Int)) hx fl_X4_35 cl_X4 dX4_toNextToken_48 hE1.k (by decide) rfl h4 ?_
    refine J_aload_n hx dX4_toNextToken_51 (i := 0) rfl rfl ?_
    refine J_getI2 (v := ((z : Nat) : Int)) hx fl_X4_19 cl_X4 dX4_toNextToken_52 hE1.k (by decide) rfl hE1.z ?_
    refine J_icmp_ge (tgt := 73) hx dX4_toNextToken_55 (by decide) (fun c2 => ?_) (fun c2 => ?_)
    · refine J_iconst (v := 0) hx dX4_toNextToken_73 (by decide) ?_
      refine J_putI hx fl_X4_32 cl_X4 dX4_toNextToken_74 hE1.k (by decide) rfl (Or.inl rfl) (by decide) ?_
      generalize eM2 : up2 M1 q 3 0 = M2
      have hM2a : M2 q 3 = 0 := by rw [← eM2]; exact up2_at
      have hM2o : ∀ b9 j9, (b9 ≠ q ∨ j9 ≠ 3) → M2 b9 j9 = M1 b9 j9 := fun b9 j9 h9 => by rw [← eM2]; exact up2_ne h9
      have hM2r : ∀ b9, b9 ≠ q → M2 b9 = M1 b9 := fun b9 h9 => by rw [← eM2]; exact up2_row h9
      refine J_aload_n hx dX4_toNextToken_77 (i := 0) rfl rfl ?_
      refine J_aload_n hx dX4_toNextToken_78 (i := 0) rfl rfl ?_
      refine J_getI2 (v := ((s : Nat) : Int)) hx fl_X4_35 cl_X4 dX4_toNextToken_79 hE1.k (by decide) rfl (by rw [hM2o _ _ (Or.inr (by decide))]; exact h4) ?_
      refine J_putI hx fl_X4_22 cl_X4 dX4_toNextToken_82 hE1.k (by decide) rfl (Or.inl rfl) (by decide) ?_
      generalize eM3 : up2 M2 q 5 ((s : Nat) : Int) = M3
      have hM3a : M3 q 5 = ((s : Nat) : Int) := by rw [← eM3]; exact up2_at
      have hM3o : ∀ b9 j9, (b9 ≠ q ∨ j9 ≠ 5) → M3 b9 j9 = M2 b9 j9 := fun b9 j9 h9 => by rw [← eM3]; exact up2_ne h9
      have hM3r : ∀ b9, b9 ≠ q → M3 b9 = M2 b9 := fun b9 h9 => by rw [← eM3]; exact up2_row h9
      refine J_aload_n hx dX4_toNextToken_85 (i := 0) rfl rfl ?_
      refine J_getI2 (v := 0) hx fl_X4_32 cl_X4 dX4_toNextToken_86 hE1.k (by decide) rfl (by rw [hM3o _ _ (Or.inr (by decide)), hM2a]) ?_
      refine J_iconst (v := 1) hx dX4_toNextToken_89 (by decide) ?_
      refine J_icmp_eq (tgt := 101) hx dX4_toNextToken_90 (by decide) (fun c9 => absurd c9 (by decide)) (fun _ => ?_)
      refine J_aload_n hx dX4_toNextToken_93 (i := 0) rfl rfl ?_
      refine J_getI2 (v := 0) hx fl_X4_32 cl_X4 dX4_toNextToken_94 hE1.k (by decide) rfl (by rw [hM3o _ _ (Or.inr (by decide)), hM2a]) ?_
      refine J_iconst (v := 2) hx dX4_toNextToken_97 (by decide) ?_
      refine J_icmp_ne (tgt := 144) hx dX4_toNextToken_98 (by decide) (fun _ => ?_) (fun c9 => absurd c9 (by decide))
      refine J_aload_n hx dX4_toNextToken_144 (i := 0) rfl rfl ?_
      refine J_getI2 (v := 0) hx fl_X4_32 cl_X4 dX4_toNextToken_145 hE1.k (by decide) rfl (by rw [hM3o _ _ (Or.inr (by decide)), hM2a]) ?_
      refine J_if_eq (tgt := 161) hx dX4_toNextToken_148 (by decide) (fun _ => ?_) (fun c9 => absurd c9 (by decide))
      refine J_vret hx hr dX4_toNextToken_161 ?_
      first
      | (exfalso; omega)
      | (have e1 : tkN B z e = (s, 0, s) := by
          unfold tkN
          rw [hsp, spN_st (e := s) (by omega)]
          unfold enN tyN
          rw [if_neg (by omega)]
          rfl
         rw [e1] at hQ
         exact hQ M3 ⟨by rw [hM3o _ _ (Or.inr (by decide)), hM2o _ _ (Or.inr (by decide))]; exact h2, by first | (rw [hM3o _ _ (Or.inr (by decide)), hM2a]; done) | (rw [hM3o _ _ (Or.inr (by decide)), hM2a]; rfl), by rw [hM3o _ _ (Or.inr (by decide)), hM2o _ _ (Or.inr (by decide))]; exact h4, by first | (rw [hM3a]; done) | (rw [hM3a]; rfl)⟩ (fun a9 j9 h9 => by rw [hM3o _ _ (by omega), hM2o _ _ (by omega)]; exact hF1 a9 j9 h9))
    · refine J_aload_n hx dX4_toNextToken_58 (i := 0) rfl rfl ?_
      refine J_getR (b := q + 1) hx fl_X4_9 cl_X4 dX4_toNextToken_59 hE1.k (by decide) rfl hE1.r ?_
      refine J_aload_n hx dX4_toNextToken_62 (i := 0) rfl rfl ?_
      refine J_getI2 (v := ((s : Nat) : Int)) hx fl_X4_35 cl_X4 dX4_toNextToken_63 hE1.k (by decide) rfl h4 ?_
      refine J_iald2 (v := B s) hx s dX4_toNextToken_66 hE1.k1 (by omega) (by rw [hE1.n1]; omega) (by exact hE1.b (by omega)) ?_
      have rgb6 := hE1.rg (j := s) (by omega)
      refine J_invS (As := [vI (B s)]) (st := [vR (q)]) hx lk_X4_125 okX4_sortOf dX4_toNextToken_67 rfl rfl (Nat.le_of_ble_eq_true rfl) (Nat.zero_add _).symm (Nat.zero_add _).symm rfl (c_X4_sortOf (b := B s) ?_)
      have rgs := srtI_rg (B s)
      refine J_goto (tgt := 74) hx dX4_toNextToken_70 (by decide) ?_
      refine J_putI hx fl_X4_32 cl_X4 dX4_toNextToken_74 hE1.k (by decide) rfl (Or.inl rfl) (by decide) ?_
      generalize eM2 : up2 M1 q 3 (srtI (B s)) = M2
      have hM2a : M2 q 3 = srtI (B s) := by rw [← eM2]; exact up2_at
      have hM2o : ∀ b9 j9, (b9 ≠ q ∨ j9 ≠ 3) → M2 b9 j9 = M1 b9 j9 := fun b9 j9 h9 => by rw [← eM2]; exact up2_ne h9
      have hM2r : ∀ b9, b9 ≠ q → M2 b9 = M1 b9 := fun b9 h9 => by rw [← eM2]; exact up2_row h9
      refine J_aload_n hx dX4_toNextToken_77 (i := 0) rfl rfl ?_
      refine J_aload_n hx dX4_toNextToken_78 (i := 0) rfl rfl ?_
      refine J_getI2 (v := ((s : Nat) : Int)) hx fl_X4_35 cl_X4 dX4_toNextToken_79 hE1.k (by decide) rfl (by rw [hM2o _ _ (Or.inr (by decide))]; exact h4) ?_
      refine J_putI hx fl_X4_22 cl_X4 dX4_toNextToken_82 hE1.k (by decide) rfl (Or.inl rfl) (by decide) ?_
      generalize eM3 : up2 M2 q 5 ((s : Nat) : Int) = M3
      have hM3a : M3 q 5 = ((s : Nat) : Int) := by rw [← eM3]; exact up2_at
      have hM3o : ∀ b9 j9, (b9 ≠ q ∨ j9 ≠ 5) → M3 b9 j9 = M2 b9 j9 := fun b9 j9 h9 => by rw [← eM3]; exact up2_ne h9
      have hM3r : ∀ b9, b9 ≠ q → M3 b9 = M2 b9 := fun b9 h9 => by rw [← eM3]; exact up2_row h9
      refine J_aload_n hx dX4_toNextToken_85 (i := 0) rfl rfl ?_
      refine J_getI2 (v := srtI (B s)) hx fl_X4_32 cl_X4 dX4_toNextToken_86 hE1.k (by decide) rfl (by rw [hM3o _ _ (Or.inr (by decide)), hM2a]) ?_
      refine J_iconst (v := 1) hx dX4_toNextToken_89 (by decide) ?_
      refine J_icmp_eq (tgt := 101) hx dX4_toNextToken_90 (by decide) (fun c7 => ?_) (fun c7 => ?_)
      · have e1 : tkN B z e = (s, srtI (B s), rnN B z (srtI (B s)) s) := by
          unfold tkN
          rw [hsp, spN_st (e := s) (by omega)]
          unfold enN tyN
          rw [if_pos (by omega), if_pos (by omega)]
        rw [e1] at hQ
        exact lp2_X4_toNextToken hE s hx hr hQ M3 (by omega) (hE1.fr (fun a9 j9 h9 => by rw [hM3o _ _ (by omega), hM2o _ _ (by omega)])) (by rw [hM3o _ _ (Or.inr (by decide)), hM2o _ _ (Or.inr (by decide))]; exact h2) (by first | (rw [hM3o _ _ (Or.inr (by decide)), hM2a]; done) | (rw [hM3o _ _ (Or.inr (by decide)), hM2a]; rfl)) (by rw [hM3o _ _ (Or.inr (by decide)), hM2o _ _ (Or.inr (by decide))]; exact h4) (by first | (rw [hM3a]; done) | (rw [hM3a]; rfl)) (fun a9 j9 h9 => by rw [hM3o _ _ (by omega), hM2o _ _ (by omega)]; exact hF1 a9 j9 h9)
      · refine J_aload_n hx dX4_toNextToken_93 (i := 0) rfl rfl ?_
        refine J_getI2 (v := srtI (B s)) hx fl_X4_32 cl_X4 dX4_toNextToken_94 hE1.k (by decide) rfl (by rw [hM3o _ _ (Or.inr (by decide)), hM2a]) ?_
        refine J_iconst (v := 2) hx dX4_toNextToken_97 (by decide) ?_
        refine J_icmp_ne (tgt := 144) hx dX4_toNextToken_98 (by decide) (fun c8 => ?_) (fun c8 => ?_)
        · refine J_aload_n hx dX4_toNextToken_144 (i := 0) rfl rfl ?_
          refine J_getI2 (v := srtI (B s)) hx fl_X4_32 cl_X4 dX4_toNextToken_145 hE1.k (by decide) rfl (by rw [hM3o _ _ (Or.inr (by decide)), hM2a]) ?_
          refine J_if_eq (tgt := 161) hx dX4_toNextToken_148 (by decide) (fun c9 => ?_) (fun c9 => ?_)
          · refine J_vret hx hr dX4_toNextToken_161 ?_
            first
            | (exfalso; omega)
            | (have e1 : tkN B z e = (s, srtI (B s), s + 1) := by
                unfold tkN
                rw [hsp, spN_st (e := s) (by omega)]
                unfold enN tyN
                rw [if_pos (by omega), if_neg (by omega), if_pos (by omega)]
               rw [e1] at hQ
               exact hQ M3 ⟨by rw [hM3o _ _ (Or.inr (by decide)), hM2o _ _ (Or.inr (by decide))]; exact h2, by first | (rw [hM3o _ _ (Or.inr (by decide)), hM2a]; done) | (rw [hM3o _ _ (Or.inr (by decide)), hM2a]; rfl), by rw [hM3o _ _ (Or.inr (by decide)), hM2o _ _ (Or.inr (by decide))]; exact h4, by first | (rw [hM3a]; done) | (rw [hM3a]; rfl)⟩ (fun a9 j9 h9 => by rw [hM3o _ _ (by omega), hM2o _ _ (by omega)]; exact hF1 a9 j9 h9))
          · refine J_aload_n hx dX4_toNextToken_151 (i := 0) rfl rfl ?_
            refine J_dup hx dX4_toNextToken_152 rfl ?_
            refine J_getI2 (v := ((s : Nat) : Int)) hx fl_X4_22 cl_X4 dX4_toNextToken_153 hE1.k (by decide) rfl (by rw [hM3a]) ?_
            refine J_iconst (v := 1) hx dX4_toNextToken_156 (by decide) ?_
            refine J_iadd (v := ((s : Nat) : Int) + 1) hx dX4_toNextToken_157 (w32_id (by omega) (by omega)) ?_
            refine J_putI hx fl_X4_22 cl_X4 dX4_toNextToken_158 hE1.k (by decide) rfl (Or.inl rfl) (by decide) ?_
            generalize eM4 : up2 M3 q 5 (((s : Nat) : Int) + 1) = M4
            have hM4a : M4 q 5 = ((s : Nat) : Int) + 1 := by rw [← eM4]; exact up2_at
            have hM4o : ∀ b9 j9, (b9 ≠ q ∨ j9 ≠ 5) → M4 b9 j9 = M3 b9 j9 := fun b9 j9 h9 => by rw [← eM4]; exact up2_ne h9
            have hM4r : ∀ b9, b9 ≠ q → M4 b9 = M3 b9 := fun b9 h9 => by rw [← eM4]; exact up2_row h9
            refine J_vret hx hr dX4_toNextToken_161 ?_
            first
            | (exfalso; omega)
            | (have e1 : tkN B z e = (s, srtI (B s), s + 1) := by
                unfold tkN
                rw [hsp, spN_st (e := s) (by omega)]
                unfold enN tyN
                rw [if_pos (by omega), if_neg (by omega), if_pos (by omega)]
               rw [e1] at hQ
               exact hQ M4 ⟨by rw [hM4o _ _ (Or.inr (by decide)), hM3o _ _ (Or.inr (by decide)), hM2o _ _ (Or.inr (by decide))]; exact h2, by first | (rw [hM4o _ _ (Or.inr (by decide)), hM3o _ _ (Or.inr (by decide)), hM2a]; done) | (rw [hM4o _ _ (Or.inr (by decide)), hM3o _ _ (Or.inr (by decide)), hM2a]; rfl), by rw [hM4o _ _ (Or.inr (by decide)), hM3o _ _ (Or.inr (by decide)), hM2o _ _ (Or.inr (by decide))]; exact h4, by first | (rw [hM4a]; done) | (rw [hM4a]; rfl)⟩ (fun a9 j9 h9 => by rw [hM4o _ _ (by omega), hM3o _ _ (by omega), hM2o _ _ (by omega)]; exact hF1 a9 j9 h9))
        · have e1 : tkN B z e = (s, srtI (B s), rnN B z (srtI (B s)) s) := by
            unfold tkN
            rw [hsp, spN_st (e := s) (by omega)]
            unfold enN tyN
            rw [if_pos (by omega), if_pos (by omega)]
          rw [e1] at hQ
          exact lp2_X4_toNextToken hE s hx hr hQ M3 (by omega) (hE1.fr (fun a9 j9 h9 => by rw [hM3o _ _ (by omega), hM2o _ _ (by omega)])) (by rw [hM3o _ _ (Or.inr (by decide)), hM2o _ _ (Or.inr (by decide))]; exact h2) (by first | (rw [hM3o _ _ (Or.inr (by decide)), hM2a]; done) | (rw [hM3o _ _ (Or.inr (by decide)), hM2a]; rfl)) (by rw [hM3o _ _ (Or.inr (by decide)), hM2o _ _ (Or.inr (by decide))]; exact h4) (by first | (rw [hM3a]; done) | (rw [hM3a]; rfl)) (fun a9 j9 h9 => by rw [hM3o _ _ (by omega), hM2o _ _ (by omega)]; exact hF1 a9 j9 h9)
  · refine J_aload_n hx dX4_toNextToken_19 (i := 0) rfl rfl ?_
    refine J_getR (b := q + 1) hx fl_X4_9 cl_X4 dX4_toNextToken_20 hE1.k (by decide) rfl hE1.r ?_
    refine J_aload_n hx dX4_toNextToken_23 (i := 0) rfl rfl ?_
    refine J_getI2 (v := ((s : Nat) : Int)) hx fl_X4_35 cl_X4 dX4_toNextToken_24 hE1.k (by decide) rfl h4 ?_
    refine J_iald2 (v := B s) hx s dX4_toNextToken_27 hE1.k1 (by omega) (by rw [hE1.n1]; omega) (by exact hE1.b (by omega)) ?_
    have rgb10 := hE1.rg (j := s) (by omega)
    refine J_bipush (v := 32) hx dX4_toNextToken_28 (by decide) ?_
    refine J_icmp_ne (tgt := 46) hx dX4_toNextToken_30 (by decide) (fun c11 => ?_) (fun c11 => ?_)
    · refine J_aload_n hx dX4_toNextToken_46 (i := 0) rfl rfl ?_
      refine J_aload_n hx dX4_toNextToken_47 (i := 0) rfl rfl ?_
      refine J_getI2 (v := ((s : Nat) : Int)) hx fl_X4_35 cl_X4 dX4_toNextToken_48 hE1.k (by decide) rfl h4 ?_
      refine J_aload_n hx dX4_toNextToken_51 (i := 0) rfl rfl ?_
      refine J_getI2 (v := ((z : Nat) : Int)) hx fl_X4_19 cl_X4 dX4_toNextToken_52 hE1.k (by decide) rfl hE1.z ?_
      refine J_icmp_ge (tgt := 73) hx dX4_toNextToken_55 (by decide) (fun c12 => ?_) (fun c12 => ?_)
      · refine J_iconst (v := 0) hx dX4_toNextToken_73 (by decide) ?_
        refine J_putI hx fl_X4_32 cl_X4 dX4_toNextToken_74 hE1.k (by decide) rfl (Or.inl rfl) (by decide) ?_
        generalize eM2 : up2 M1 q 3 0 = M2
        have hM2a : M2 q 3 = 0 := by rw [← eM2]; exact up2_at
        have hM2o : ∀ b9 j9, (b9 ≠ q ∨ j9 ≠ 3) → M2 b9 j9 = M1 b9 j9 := fun b9 j9 h9 => by rw [← eM2]; exact up2_ne h9
        have hM2r : ∀ b9, b9 ≠ q → M2 b9 = M1 b9 := fun b9 h9 => by rw [← eM2]; exact up2_row h9
        refine J_aload_n hx dX4_toNextToken_77 (i := 0) rfl rfl ?_
        refine J_aload_n hx dX4_toNextToken_78 (i := 0) rfl rfl ?_
        refine J_getI2 (v := ((s : Nat) : Int)) hx fl_X4_35 cl_X4 dX4_toNextToken_79 hE1.k (by decide) rfl (by rw [hM2o _ _ (Or.inr (by decide))]; exact h4) ?_
        refine J_putI hx fl_X4_22 cl_X4 dX4_toNextToken_82 hE1.k (by decide) rfl (Or.inl rfl) (by decide) ?_
        generalize eM3 : up2 M2 q 5 ((s : Nat) : Int) = M3
        have hM3a : M3 q 5 = ((s : Nat) : Int) := by rw [← eM3]; exact up2_at
        have hM3o : ∀ b9 j9, (b9 ≠ q ∨ j9 ≠ 5) → M3 b9 j9 = M2 b9 j9 := fun b9 j9 h9 => by rw [← eM3]; exact up2_ne h9
        have hM3r : ∀ b9, b9 ≠ q → M3 b9 = M2 b9 := fun b9 h9 => by rw [← eM3]; exact up2_row h9
        refine J_aload_n hx dX4_toNextToken_85 (i := 0) rfl rfl ?_
        refine J_getI2 (v := 0) hx fl_X4_32 cl_X4 dX4_toNextToken_86 hE1.k (by decide) rfl (by rw [hM3o _ _ (Or.inr (by decide)), hM2a]) ?_
        refine J_iconst (v := 1) hx dX4_toNextToken_89 (by decide) ?_
        refine J_icmp_eq (tgt := 101) hx dX4_toNextToken_90 (by decide) (fun c9 => absurd c9 (by decide)) (fun _ => ?_)
        refine J_aload_n hx dX4_toNextToken_93 (i := 0) rfl rfl ?_
        refine J_getI2 (v := 0) hx fl_X4_32 cl_X4 dX4_toNextToken_94 hE1.k (by decide) rfl (by rw [hM3o _ _ (Or.inr (by decide)), hM2a]) ?_
        refine J_iconst (v := 2) hx dX4_toNextToken_97 (by decide) ?_
        refine J_icmp_ne (tgt := 144) hx dX4_toNextToken_98 (by decide) (fun _ => ?_) (fun c9 => absurd c9 (by decide))
        refine J_aload_n hx dX4_toNextToken_144 (i := 0) rfl rfl ?_
        refine J_getI2 (v := 0) hx fl_X4_32 cl_X4 dX4_toNextToken_145 hE1.k (by decide) rfl (by rw [hM3o _ _ (Or.inr (by decide)), hM2a]) ?_
        refine J_if_eq (tgt := 161) hx dX4_toNextToken_148 (by decide) (fun _ => ?_) (fun c9 => absurd c9 (by decide))
        refine J_vret hx hr dX4_toNextToken_161 ?_
        first
        | (exfalso; omega)
        | (have e1 : tkN B z e = (s, 0, s) := by
            unfold tkN
            rw [hsp, spN_st (e := s) (by omega)]
            unfold enN tyN
            rw [if_neg (by omega)]
            rfl
           rw [e1] at hQ
           exact hQ M3 ⟨by rw [hM3o _ _ (Or.inr (by decide)), hM2o _ _ (Or.inr (by decide))]; exact h2, by first | (rw [hM3o _ _ (Or.inr (by decide)), hM2a]; done) | (rw [hM3o _ _ (Or.inr (by decide)), hM2a]; rfl), by rw [hM3o _ _ (Or.inr (by decide)), hM2o _ _ (Or.inr (by decide))]; exact h4, by first | (rw [hM3a]; done) | (rw [hM3a]; rfl)⟩ (fun a9 j9 h9 => by rw [hM3o _ _ (by omega), hM2o _ _ (by omega)]; exact hF1 a9 j9 h9))
      · refine J_aload_n hx dX4_toNextToken_58 (i := 0) rfl rfl ?_
        refine J_getR (b := q + 1) hx fl_X4_9 cl_X4 dX4_toNextToken_59 hE1.k (by decide) rfl hE1.r ?_
        refine J_aload_n hx dX4_toNextToken_62 (i := 0) rfl rfl ?_
        refine J_getI2 (v := ((s : Nat) : Int)) hx fl_X4_35 cl_X4 dX4_toNextToken_63 hE1.k (by decide) rfl h4 ?_
        refine J_iald2 (v := B s) hx s dX4_toNextToken_66 hE1.k1 (by omega) (by rw [hE1.n1]; omega) (by exact hE1.b (by omega)) ?_
        have rgb16 := hE1.rg (j := s) (by omega)
        refine J_invS (As := [vI (B s)]) (st := [vR (q)]) hx lk_X4_125 okX4_sortOf dX4_toNextToken_67 rfl rfl (Nat.le_of_ble_eq_true rfl) (Nat.zero_add _).symm (Nat.zero_add _).symm rfl (c_X4_sortOf (b := B s) ?_)
        have rgs := srtI_rg (B s)
        refine J_goto (tgt := 74) hx dX4_toNextToken_70 (by decide) ?_
        refine J_putI hx fl_X4_32 cl_X4 dX4_toNextToken_74 hE1.k (by decide) rfl (Or.inl rfl) (by decide) ?_
        generalize eM2 : up2 M1 q 3 (srtI (B s)) = M2
        have hM2a : M2 q 3 = srtI (B s) := by rw [← eM2]; exact up2_at
        have hM2o : ∀ b9 j9, (b9 ≠ q ∨ j9 ≠ 3) → M2 b9 j9 = M1 b9 j9 := fun b9 j9 h9 => by rw [← eM2]; exact up2_ne h9
        have hM2r : ∀ b9, b9 ≠ q → M2 b9 = M1 b9 := fun b9 h9 => by rw [← eM2]; exact up2_row h9
        refine J_aload_n hx dX4_toNextToken_77 (i := 0) rfl rfl ?_
        refine J_aload_n hx dX4_toNextToken_78 (i := 0) rfl rfl ?_
        refine J_getI2 (v := ((s : Nat) : Int)) hx fl_X4_35 cl_X4 dX4_toNextToken_79 hE1.k (by decide) rfl (by rw [hM2o _ _ (Or.inr (by decide))]; exact h4) ?_
        refine J_putI hx fl_X4_22 cl_X4 dX4_toNextToken_82 hE1.k (by decide) rfl (Or.inl rfl) (by decide) ?_
        generalize eM3 : up2 M2 q 5 ((s : Nat) : Int) = M3
        have hM3a : M3 q 5 = ((s : Nat) : Int) := by rw [← eM3]; exact up2_at
        have hM3o : ∀ b9 j9, (b9 ≠ q ∨ j9 ≠ 5) → M3 b9 j9 = M2 b9 j9 := fun b9 j9 h9 => by rw [← eM3]; exact up2_ne h9
        have hM3r : ∀ b9, b9 ≠ q → M3 b9 = M2 b9 := fun b9 h9 => by rw [← eM3]; exact up2_row h9
        refine J_aload_n hx dX4_toNextToken_85 (i := 0) rfl rfl ?_
        refine J_getI2 (v := srtI (B s)) hx fl_X4_32 cl_X4 dX4_toNextToken_86 hE1.k (by decide) rfl (by rw [hM3o _ _ (Or.inr (by decide)), hM2a]) ?_
        refine J_iconst (v := 1) hx dX4_toNextToken_89 (by decide) ?_
        refine J_icmp_eq (tgt := 101) hx dX4_toNextToken_90 (by decide) (fun c17 => ?_) (fun c17 => ?_)
        · have e1 : tkN B z e = (s, srtI (B s), rnN B z (srtI (B s)) s) := by
            unfold tkN
            rw [hsp, spN_st (e := s) (by omega)]
            unfold enN tyN
            rw [if_pos (by omega), if_pos (by omega)]
          rw [e1] at hQ
          exact lp2_X4_toNextToken hE s hx hr hQ M3 (by omega) (hE1.fr (fun a9 j9 h9 => by rw [hM3o _ _ (by omega), hM2o _ _ (by omega)])) (by rw [hM3o _ _ (Or.inr (by decide)), hM2o _ _ (Or.inr (by decide))]; exact h2) (by first | (rw [hM3o _ _ (Or.inr (by decide)), hM2a]; done) | (rw [hM3o _ _ (Or.inr (by decide)), hM2a]; rfl)) (by rw [hM3o _ _ (Or.inr (by decide)), hM2o _ _ (Or.inr (by decide))]; exact h4) (by first | (rw [hM3a]; done) | (rw [hM3a]; rfl)) (fun a9 j9 h9 => by rw [hM3o _ _ (by omega), hM2o _ _ (by omega)]; exact hF1 a9 j9 h9)
        · refine J_aload_n hx dX4_toNextToken_93 (i := 0) rfl rfl ?_
          refine J_getI2 (v := srtI (B s)) hx fl_X4_32 cl_X4 dX4_toNextToken_94 hE1.k (by decide) rfl (by rw [hM3o _ _ (Or.inr (by decide)), hM2a]) ?_
          refine J_iconst (v := 2) hx dX4_toNextToken_97 (by decide) ?_
          refine J_icmp_ne (tgt := 144) hx dX4_toNextToken_98 (by decide) (fun c18 => ?_) (fun c18 => ?_)
          · refine J_aload_n hx dX4_toNextToken_144 (i := 0) rfl rfl ?_
            refine J_getI2 (v := srtI (B s)) hx fl_X4_32 cl_X4 dX4_toNextToken_145 hE1.k (by decide) rfl (by rw [hM3o _ _ (Or.inr (by decide)), hM2a]) ?_
            refine J_if_eq (tgt := 161) hx dX4_toNextToken_148 (by decide) (fun c19 => ?_) (fun c19 => ?_)
            · refine J_vret hx hr dX4_toNextToken_161 ?_
              first
              | (exfalso; omega)
              | (have e1 : tkN B z e = (s, srtI (B s), s + 1) := by
                  unfold tkN
                  rw [hsp, spN_st (e := s) (by omega)]
                  unfold enN tyN
                  rw [if_pos (by omega), if_neg (by omega), if_pos (by omega)]
                 rw [e1] at hQ
                 exact hQ M3 ⟨by rw [hM3o _ _ (Or.inr (by decide)), hM2o _ _ (Or.inr (by decide))]; exact h2, by first | (rw [hM3o _ _ (Or.inr (by decide)), hM2a]; done) | (rw [hM3o _ _ (Or.inr (by decide)), hM2a]; rfl), by rw [hM3o _ _ (Or.inr (by decide)), hM2o _ _ (Or.inr (by decide))]; exact h4, by first | (rw [hM3a]; done) | (rw [hM3a]; rfl)⟩ (fun a9 j9 h9 => by rw [hM3o _ _ (by omega), hM2o _ _ (by omega)]; exact hF1 a9 j9 h9))
            · refine J_aload_n hx dX4_toNextToken_151 (i := 0) rfl rfl ?_
              refine J_dup hx dX4_toNextToken_152 rfl ?_
              refine J_getI2 (v := ((s : Nat) : Int)) hx fl_X4_22 cl_X4 dX4_toNextToken_153 hE1.k (by decide) rfl (by rw [hM3a]) ?_
              refine J_iconst (v := 1) hx dX4_toNextToken_156 (by decide) ?_
              refine J_iadd (v := ((s : Nat) : Int) + 1) hx dX4_toNextToken_157 (w32_id (by omega) (by omega)) ?_
              refine J_putI hx fl_X4_22 cl_X4 dX4_toNextToken_158 hE1.k (by decide) rfl (Or.inl rfl) (by decide) ?_
              generalize eM4 : up2 M3 q 5 (((s : Nat) : Int) + 1) = M4
              have hM4a : M4 q 5 = ((s : Nat) : Int) + 1 := by rw [← eM4]; exact up2_at
              have hM4o : ∀ b9 j9, (b9 ≠ q ∨ j9 ≠ 5) → M4 b9 j9 = M3 b9 j9 := fun b9 j9 h9 => by rw [← eM4]; exact up2_ne h9
              have hM4r : ∀ b9, b9 ≠ q → M4 b9 = M3 b9 := fun b9 h9 => by rw [← eM4]; exact up2_row h9
              refine J_vret hx hr dX4_toNextToken_161 ?_
              first
              | (exfalso; omega)
              | (have e1 : tkN B z e = (s, srtI (B s), s + 1) := by
                  unfold tkN
                  rw [hsp, spN_st (e := s) (by omega)]
                  unfold enN tyN
                  rw [if_pos (by omega), if_neg (by omega), if_pos (by omega)]
                 rw [e1] at hQ
                 exact hQ M4 ⟨by rw [hM4o _ _ (Or.inr (by decide)), hM3o _ _ (Or.inr (by decide)), hM2o _ _ (Or.inr (by decide))]; exact h2, by first | (rw [hM4o _ _ (Or.inr (by decide)), hM3o _ _ (Or.inr (by decide)), hM2a]; done) | (rw [hM4o _ _ (Or.inr (by decide)), hM3o _ _ (Or.inr (by decide)), hM2a]; rfl), by rw [hM4o _ _ (Or.inr (by decide)), hM3o _ _ (Or.inr (by decide)), hM2o _ _ (Or.inr (by decide))]; exact h4, by first | (rw [hM4a]; done) | (rw [hM4a]; rfl)⟩ (fun a9 j9 h9 => by rw [hM4o _ _ (by omega), hM3o _ _ (by omega), hM2o _ _ (by omega)]; exact hF1 a9 j9 h9))
          · have e1 : tkN B z e = (s, srtI (B s), rnN B z (srtI (B s)) s) := by
              unfold tkN
              rw [hsp, spN_st (e := s) (by omega)]
              unfold enN tyN
              rw [if_pos (by omega), if_pos (by omega)]
            rw [e1] at hQ
            exact lp2_X4_toNextToken hE s hx hr hQ M3 (by omega) (hE1.fr (fun a9 j9 h9 => by rw [hM3o _ _ (by omega), hM2o _ _ (by omega)])) (by rw [hM3o _ _ (Or.inr (by decide)), hM2o _ _ (Or.inr (by decide))]; exact h2) (by first | (rw [hM3o _ _ (Or.inr (by decide)), hM2a]; done) | (rw [hM3o _ _ (Or.inr (by decide)), hM2a]; rfl)) (by rw [hM3o _ _ (Or.inr (by decide)), hM2o _ _ (Or.inr (by decide))]; exact h4) (by first | (rw [hM3a]; done) | (rw [hM3a]; rfl)) (fun a9 j9 h9 => by rw [hM3o _ _ (by omega), hM2o _ _ (by omega)]; exact hF1 a9 j9 h9)
    · refine J_aload_n hx dX4_toNextToken_33 (i := 0) rfl rfl ?_
      refine J_dup hx dX4_toNextToken_34 rfl ?_
      refine J_getI2 (v := ((s : Nat) : Int)) hx fl_X4_35 cl_X4 dX4_toNextToken_35 hE1.k (by decide) rfl h4 ?_
      refine J_iconst (v := 1) hx dX4_toNextToken_38 (by decide) ?_
      refine J_iadd (v := ((s : Nat) : Int) + 1) hx dX4_toNextToken_39 (w32_id (by omega) (by omega)) ?_
      refine J_putI hx fl_X4_35 cl_X4 dX4_toNextToken_40 hE1.k (by decide) rfl (Or.inl rfl) (by decide) ?_
      generalize eM2 : up2 M1 q 4 (((s : Nat) : Int) + 1) = M2
      have hM2a : M2 q 4 = ((s : Nat) : Int) + 1 := by rw [← eM2]; exact up2_at
      have hM2o : ∀ b9 j9, (b9 ≠ q ∨ j9 ≠ 4) → M2 b9 j9 = M1 b9 j9 := fun b9 j9 h9 => by rw [← eM2]; exact up2_ne h9
      have hM2r : ∀ b9, b9 ≠ q → M2 b9 = M1 b9 := fun b9 h9 => by rw [← eM2]; exact up2_row h9
      refine J_goto (tgt := 8) hx dX4_toNextToken_43 (by decide) ?_
      exact lp_X4_toNextToken hE hx hr hQ (s + 1) M2 (by rw [hsp]; exact spN_go (by omega)) (by omega) (hE1.fr (fun a9 j9 h9 => hM2o _ _ (by omega))) (by rw [hM2o _ _ (Or.inr (by decide))]; exact h2) (by first | (rw [hM2a]; done) | (rw [hM2a]; rfl)) (by rw [hM2o _ _ (Or.inr (by decide))]; exact h5) (fun a9 j9 h9 => by rw [hM2o _ _ (by omega)]; exact hF1 a9 j9 h9)
termination_by z - s
decreasing_by all_goals omega

set_option maxHeartbeats 4000000 in
theorem c_X4_toNextToken {g : WG} {d : Nat} {T : TT} {M : MM} {q sz z : Nat} {B : Nat → Int} {Q : MVal → TT → MM → Nat → Prop} (hE : TPE T M q z B) {e : Nat} {f : Int} (he : e ≤ z) (h2 : M q 2 = f) (h5 : M q 5 = ((e : Nat) : Int)) (hQ : ∀ M', TPc M' q (tkN B z e) f → FrT q M M' → Q vU T M' sz) : Ct g (d + 2) mX4_toNextToken [vR (q)] T M sz 0 0 Q := by
  refine Ct_of2 (ls := [vR (q)]) okX4_toNextToken rfl (Nat.le_of_ble_eq_true rfl) rfl ?_
  intro x hx hr hnm
  refine J_aload_n hx dX4_toNextToken_0 (i := 0) rfl rfl ?_
  refine J_aload_n hx dX4_toNextToken_1 (i := 0) rfl rfl ?_
  refine J_getI2 (v := ((e : Nat) : Int)) hx fl_X4_22 cl_X4 dX4_toNextToken_2 hE.k (by decide) rfl h5 ?_
  refine J_putI hx fl_X4_35 cl_X4 dX4_toNextToken_5 hE.k (by decide) rfl (Or.inl rfl) (by decide) ?_
  generalize eM1 : up2 M q 4 ((e : Nat) : Int) = M1
  have hM1a : M1 q 4 = ((e : Nat) : Int) := by rw [← eM1]; exact up2_at
  have hM1o : ∀ b9 j9, (b9 ≠ q ∨ j9 ≠ 4) → M1 b9 j9 = M b9 j9 := fun b9 j9 h9 => by rw [← eM1]; exact up2_ne h9
  have hM1r : ∀ b9, b9 ≠ q → M1 b9 = M b9 := fun b9 h9 => by rw [← eM1]; exact up2_row h9
  exact lp_X4_toNextToken hE hx hr hQ e M1 rfl he (hE.fr (fun a9 j9 h9 => hM1o _ _ (by omega))) (by rw [hM1o _ _ (Or.inr (by decide))]; exact h2) (by first | (rw [hM1a]; done) | (rw [hM1a]; rfl)) (by rw [hM1o _ _ (Or.inr (by decide))]; exact h5) (fun a9 j9 h9 => by rw [hM1o _ _ (by omega)])

set_option maxHeartbeats 4000000 in
theorem c_X4_valueOfToken {g : WG} {d : Nat} {T : TT} {M : MM} {q sz z : Nat} {B : Nat → Int} {Q : MVal → TT → MM → Nat → Prop} (hE : TPE T M q z B) {tk : TK} {f : Int} (hwf : wfT B z tk) (hty : tk.2.1 = 2) (hP : TPc M q tk f) (hQ : Q (vI (vlT B tk)) T M sz) : Ct g (d + 1) mX4_valueOfToken [vR (q)] T M sz 0 0 Q := by
  refine Ct_of2 (ls := [vR (q), vU, vU]) okX4_valueOfToken rfl (Nat.le_of_ble_eq_true rfl) rfl ?_
  intro x hx hr hnm
  have h6 := hwf.2.2.2.2.2.1 (by omega)
  have hB7 := hwf.2.2.2.2.2.2 hty
  have h3 := hwf.2.2.1
  have hz2 := hE.z2
  have hB8 := hB7 tk.1 (Nat.le_refl _) h6
  have hB9 : tk.1 + 1 < tk.2.2 → 48 ≤ B (tk.1 + 1) ∧ B (tk.1 + 1) ≤ 57 := fun q9 => hB7 _ (by omega) q9
  refine J_aload_n hx dX4_valueOfToken_0 (i := 0) rfl rfl ?_
  refine J_getI2 (v := ((tk.2.2 : Nat) : Int)) hx fl_X4_22 cl_X4 dX4_valueOfToken_1 hE.k (by decide) rfl hP.2.2.2 ?_
  refine J_aload_n hx dX4_valueOfToken_4 (i := 0) rfl rfl ?_
  refine J_getI2 (v := ((tk.1 : Nat) : Int)) hx fl_X4_35 cl_X4 dX4_valueOfToken_5 hE.k (by decide) rfl hP.2.2.1 ?_
  refine J_isub (v := ((tk.2.2 : Nat) : Int) - ((tk.1 : Nat) : Int)) hx dX4_valueOfToken_8 (w32_id (by omega) (by omega)) ?_
  refine J_iconst (v := 2) hx dX4_valueOfToken_9 (by decide) ?_
  refine J_icmp_le (tgt := 15) hx dX4_valueOfToken_10 (by decide) (fun c1 => ?_) (fun c1 => ?_)
  · refine J_iconst (v := 0) hx dX4_valueOfToken_15 (by decide) ?_
    refine J_istore_n (lsn := [vR (q), vI (0), vU]) hx dX4_valueOfToken_16 (i := 1) rfl (Nat.le_of_ble_eq_true rfl) rfl rfl ?_
    refine J_aload_n hx dX4_valueOfToken_17 (i := 0) rfl rfl ?_
    refine J_getI2 (v := ((tk.1 : Nat) : Int)) hx fl_X4_35 cl_X4 dX4_valueOfToken_18 hE.k (by decide) rfl hP.2.2.1 ?_
    refine J_istore_n (lsn := [vR (q), vI (0), vI (((tk.1 : Nat) : Int))]) hx dX4_valueOfToken_21 (i := 2) rfl (Nat.le_of_ble_eq_true rfl) rfl rfl ?_
    refine J_iload_n hx dX4_valueOfToken_22 (i := 2) rfl rfl ?_
    refine J_aload_n hx dX4_valueOfToken_23 (i := 0) rfl rfl ?_
    refine J_getI2 (v := ((tk.2.2 : Nat) : Int)) hx fl_X4_22 cl_X4 dX4_valueOfToken_24 hE.k (by decide) rfl hP.2.2.2 ?_
    refine J_icmp_ge (tgt := 51) hx dX4_valueOfToken_27 (by decide) (fun c2 => ?_) (fun c2 => ?_)
    · refine J_iload_n hx dX4_valueOfToken_51 (i := 1) rfl rfl ?_
      refine J_iret hx hr dX4_valueOfToken_52 ?_
      first
      | (exfalso; omega)
      | exact Qv hQ (by unfold vlT; (repeat' split) <;> omega)
    · refine J_bipush (v := 10) hx dX4_valueOfToken_30 (by decide) ?_
      refine J_iload_n hx dX4_valueOfToken_32 (i := 1) rfl rfl ?_
      refine J_imul (v := 10 * 0) hx dX4_valueOfToken_33 (w32_id (by omega) (by omega)) ?_
      refine J_aload_n hx dX4_valueOfToken_34 (i := 0) rfl rfl ?_
      refine J_getR (b := q + 1) hx fl_X4_9 cl_X4 dX4_valueOfToken_35 hE.k (by decide) rfl hE.r ?_
      refine J_iload_n hx dX4_valueOfToken_38 (i := 2) rfl rfl ?_
      refine J_iald2 (v := B tk.1) hx tk.1 dX4_valueOfToken_39 hE.k1 (by omega) (by rw [hE.n1]; omega) (by exact hE.b (by omega)) ?_
      have rgb3 := hE.rg (j := tk.1) (by omega)
      refine J_iadd (v := 10 * 0 + (B tk.1)) hx dX4_valueOfToken_40 (w32_id (by omega) (by omega)) ?_
      refine J_bipush (v := 48) hx dX4_valueOfToken_41 (by decide) ?_
      refine J_isub (v := 10 * 0 + (B tk.1) - 48) hx dX4_valueOfToken_43 (w32_id (by omega) (by omega)) ?_
      refine J_istore_n (lsn := [vR (q), vI (10 * 0 + (B tk.1) - 48), vI (((tk.1 : Nat) : Int))]) hx dX4_valueOfToken_44 (i := 1) rfl (Nat.le_of_ble_eq_true rfl) rfl rfl ?_
      refine J_iinc (v := ((tk.1 : Nat) : Int) + 1) (lsn := [vR (q), vI (10 * 0 + (B tk.1) - 48), vI (((tk.1 : Nat) : Int) + 1)]) hx dX4_valueOfToken_45 rfl (jinc1 (by omega) (by omega)) rfl rfl ?_
      refine J_goto (tgt := 22) hx dX4_valueOfToken_48 (by decide) ?_
      refine J_iload_n hx dX4_valueOfToken_22 (i := 2) rfl rfl ?_
      refine J_aload_n hx dX4_valueOfToken_23 (i := 0) rfl rfl ?_
      refine J_getI2 (v := ((tk.2.2 : Nat) : Int)) hx fl_X4_22 cl_X4 dX4_valueOfToken_24 hE.k (by decide) rfl hP.2.2.2 ?_
      refine J_icmp_ge (tgt := 51) hx dX4_valueOfToken_27 (by decide) (fun c4 => ?_) (fun c4 => ?_)
      · refine J_iload_n hx dX4_valueOfToken_51 (i := 1) rfl rfl ?_
        refine J_iret hx hr dX4_valueOfToken_52 ?_
        first
        | (exfalso; omega)
        | exact Qv hQ (by unfold vlT; (repeat' split) <;> omega)
      · refine J_bipush (v := 10) hx dX4_valueOfToken_30 (by decide) ?_
        refine J_iload_n hx dX4_valueOfToken_32 (i := 1) rfl rfl ?_
        refine J_imul (v := 10 * (10 * 0 + (B tk.1) - 48)) hx dX4_valueOfToken_33 (w32_id (by omega) (by omega)) ?_
        refine J_aload_n hx dX4_valueOfToken_34 (i := 0) rfl rfl ?_
        refine J_getR (b := q + 1) hx fl_X4_9 cl_X4 dX4_valueOfToken_35 hE.k (by decide) rfl hE.r ?_
        refine J_iload_n hx dX4_valueOfToken_38 (i := 2) rfl rfl ?_
        refine J_iald2 (v := B (tk.1 + 1)) hx (tk.1 + 1) dX4_valueOfToken_39 hE.k1 (by omega) (by rw [hE.n1]; omega) (by exact hE.b (by omega)) ?_
        have rgb5 := hE.rg (j := tk.1 + 1) (by omega)
        refine J_iadd (v := 10 * (10 * 0 + (B tk.1) - 48) + (B (tk.1 + 1))) hx dX4_valueOfToken_40 (w32_id (by omega) (by omega)) ?_
        refine J_bipush (v := 48) hx dX4_valueOfToken_41 (by decide) ?_
        refine J_isub (v := 10 * (10 * 0 + (B tk.1) - 48) + (B (tk.1 + 1)) - 48) hx dX4_valueOfToken_43 (w32_id (by omega) (by omega)) ?_
        refine J_istore_n (lsn := [vR (q), vI (10 * (10 * 0 + (B tk.1) - 48) + (B (tk.1 + 1)) - 48), vI (((tk.1 : Nat) : Int) + 1)]) hx dX4_valueOfToken_44 (i := 1) rfl (Nat.le_of_ble_eq_true rfl) rfl rfl ?_
        refine J_iinc (v := ((tk.1 : Nat) : Int) + 1 + 1) (lsn := [vR (q), vI (10 * (10 * 0 + (B tk.1) - 48) + (B (tk.1 + 1)) - 48), vI (((tk.1 : Nat) : Int) + 1 + 1)]) hx dX4_valueOfToken_45 rfl (jinc1 (by omega) (by omega)) rfl rfl ?_
        refine J_goto (tgt := 22) hx dX4_valueOfToken_48 (by decide) ?_
        refine J_iload_n hx dX4_valueOfToken_22 (i := 2) rfl rfl ?_
        refine J_aload_n hx dX4_valueOfToken_23 (i := 0) rfl rfl ?_
        refine J_getI2 (v := ((tk.2.2 : Nat) : Int)) hx fl_X4_22 cl_X4 dX4_valueOfToken_24 hE.k (by decide) rfl hP.2.2.2 ?_
        refine J_icmp_ge (tgt := 51) hx dX4_valueOfToken_27 (by decide) (fun c6 => ?_) (fun c6 => ?_)
        · refine J_iload_n hx dX4_valueOfToken_51 (i := 1) rfl rfl ?_
          refine J_iret hx hr dX4_valueOfToken_52 ?_
          first
          | (exfalso; omega)
          | exact Qv hQ (by unfold vlT; (repeat' split) <;> omega)
        · refine J_bipush (v := 10) hx dX4_valueOfToken_30 (by decide) ?_
          refine J_iload_n hx dX4_valueOfToken_32 (i := 1) rfl rfl ?_
          refine J_imul (v := 10 * (10 * (10 * 0 + (B tk.1) - 48) + (B (tk.1 + 1)) - 48)) hx dX4_valueOfToken_33 (w32_id (by omega) (by omega)) ?_
          refine J_aload_n hx dX4_valueOfToken_34 (i := 0) rfl rfl ?_
          refine J_getR (b := q + 1) hx fl_X4_9 cl_X4 dX4_valueOfToken_35 hE.k (by decide) rfl hE.r ?_
          refine J_iload_n hx dX4_valueOfToken_38 (i := 2) rfl rfl ?_
          refine J_iald2 (v := B (tk.1 + 1 + 1)) hx (tk.1 + 1 + 1) dX4_valueOfToken_39 hE.k1 (by omega) (by rw [hE.n1]; omega) (by exact hE.b (by omega)) ?_
          have rgb7 := hE.rg (j := tk.1 + 1 + 1) (by omega)
          refine J_iadd (v := 10 * (10 * (10 * 0 + (B tk.1) - 48) + (B (tk.1 + 1)) - 48) + (B (tk.1 + 1 + 1))) hx dX4_valueOfToken_40 (w32_id (by omega) (by omega)) ?_
          refine J_bipush (v := 48) hx dX4_valueOfToken_41 (by decide) ?_
          refine J_isub (v := 10 * (10 * (10 * 0 + (B tk.1) - 48) + (B (tk.1 + 1)) - 48) + (B (tk.1 + 1 + 1)) - 48) hx dX4_valueOfToken_43 (w32_id (by omega) (by omega)) ?_
          refine J_istore_n (lsn := [vR (q), vI (10 * (10 * (10 * 0 + (B tk.1) - 48) + (B (tk.1 + 1)) - 48) + (B (tk.1 + 1 + 1)) - 48), vI (((tk.1 : Nat) : Int) + 1 + 1)]) hx dX4_valueOfToken_44 (i := 1) rfl (Nat.le_of_ble_eq_true rfl) rfl rfl ?_
          refine J_iinc (v := ((tk.1 : Nat) : Int) + 1 + 1 + 1) (lsn := [vR (q), vI (10 * (10 * (10 * 0 + (B tk.1) - 48) + (B (tk.1 + 1)) - 48) + (B (tk.1 + 1 + 1)) - 48), vI (((tk.1 : Nat) : Int) + 1 + 1 + 1)]) hx dX4_valueOfToken_45 rfl (jinc1 (by omega) (by omega)) rfl rfl ?_
          refine J_goto (tgt := 22) hx dX4_valueOfToken_48 (by decide) ?_
          exfalso; omega
  · refine J_iconst (v := -1) hx dX4_valueOfToken_13 (by decide) ?_
    refine J_iret hx hr dX4_valueOfToken_14 ?_
    first
    | (exfalso; omega)
    | exact Qv hQ (by unfold vlT; (repeat' split) <;> omega)

set_option maxHeartbeats 4000000 in
theorem c_X4_number_b {g : WG} {d : Nat} {T : TT} {M : MM} {q sz z : Nat} {B : Nat → Int} {Q : MVal → TT → MM → Nat → Prop} (hE : TPE T M q z B) {lo hi f : Int} (hf : M q 2 = f) (hf1 : f ≠ -1) (hQ : Q (vI (-1)) T M sz) : Ct g (d + 3) mX4_number [vR (q), vI (lo), vI (hi)] T M sz 0 0 Q := by
  refine Ct_of2 (ls := [vR (q), vI (lo), vI (hi), vU]) okX4_number rfl (Nat.le_of_ble_eq_true rfl) rfl ?_
  intro x hx hr hnm
  have hP : M q 2 = f ∧ True := ⟨hf, trivial⟩
  refine J_aload_n hx dX4_number_0 (i := 0) rfl rfl ?_
  refine J_getI2 (v := f) hx fl_X4_15 cl_X4 dX4_number_1 hE.k (by decide) rfl hP.1 ?_
  refine J_iconst (v := -1) hx dX4_number_4 (by decide) ?_
  refine J_icmp_eq (tgt := 10) hx dX4_number_5 (by decide) (fun c1 => ?_) (fun c1 => ?_)
  · exfalso; omega
  · refine J_iconst (v := -1) hx dX4_number_8 (by decide) ?_
    refine J_iret hx hr dX4_number_9 ?_
    first
    | exact hQ
    | (exfalso; omega)

set_option maxHeartbeats 4000000 in
theorem c_X4_number {g : WG} {d : Nat} {T : TT} {M : MM} {q sz z : Nat} {B : Nat → Int} {Q : MVal → TT → MM → Nat → Prop} (hE : TPE T M q z B) {tk : TK} {lo hi : Int} (hlo : 0 ≤ lo) (hwf : wfT B z tk) (hP : TPc M q tk (-1)) (hQ1 : okT B tk lo hi = true → ∀ M', TPc M' q (tkN B z tk.2.2) (-1) → FrT q M M' → Q (vI (vlT B tk)) T M' sz) (hQ0 : okT B tk lo hi = false → ∀ M', TPc M' q tk ((tk.1 : Nat) : Int) → FrT q M M' → Q (vI (-1)) T M' sz) : Ct g (d + 3) mX4_number [vR (q), vI (lo), vI (hi)] T M sz 0 0 Q := by
  refine Ct_of2 (ls := [vR (q), vI (lo), vI (hi), vU]) okX4_number rfl (Nat.le_of_ble_eq_true rfl) rfl ?_
  intro x hx hr hnm
  have hw4 := hwf.2.2.2.1
  refine J_aload_n hx dX4_number_0 (i := 0) rfl rfl ?_
  refine J_getI2 (v := (-1)) hx fl_X4_15 cl_X4 dX4_number_1 hE.k (by decide) rfl hP.1 ?_
  refine J_iconst (v := -1) hx dX4_number_4 (by decide) ?_
  refine J_icmp_eq (tgt := 10) hx dX4_number_5 (by decide) (fun _ => ?_) (fun c9 => absurd c9 (by decide))
  refine J_aload_n hx dX4_number_10 (i := 0) rfl rfl ?_
  refine J_getI2 (v := tk.2.1) hx fl_X4_32 cl_X4 dX4_number_11 hE.k (by decide) rfl hP.2.1 ?_
  refine J_iconst (v := 2) hx dX4_number_14 (by decide) ?_
  refine J_icmp_ne (tgt := 25) hx dX4_number_15 (by decide) (fun c2 => ?_) (fun c2 => ?_)
  · refine J_iconst (v := -1) hx dX4_number_25 (by decide) ?_
    refine J_istore_n (lsn := [vR (q), vI (lo), vI (hi), vI ((-1))]) hx dX4_number_26 (i := 3) rfl (Nat.le_of_ble_eq_true rfl) rfl rfl ?_
    refine J_iload_n hx dX4_number_27 (i := 3) rfl rfl ?_
    refine J_iload_n hx dX4_number_28 (i := 1) rfl rfl ?_
    refine J_icmp_lt (tgt := 37) hx dX4_number_29 (by decide) (fun c3 => ?_) (fun c3 => ?_)
    · refine J_aload_n hx dX4_number_37 (i := 0) rfl rfl ?_
      refine J_aload_n hx dX4_number_38 (i := 0) rfl rfl ?_
      refine J_getI2 (v := ((tk.1 : Nat) : Int)) hx fl_X4_35 cl_X4 dX4_number_39 hE.k (by decide) rfl hP.2.2.1 ?_
      refine J_putI hx fl_X4_15 cl_X4 dX4_number_42 hE.k (by decide) rfl (Or.inl rfl) (by decide) ?_
      generalize eM1 : up2 M q 2 ((tk.1 : Nat) : Int) = M1
      have hM1a : M1 q 2 = ((tk.1 : Nat) : Int) := by rw [← eM1]; exact up2_at
      have hM1o : ∀ b9 j9, (b9 ≠ q ∨ j9 ≠ 2) → M1 b9 j9 = M b9 j9 := fun b9 j9 h9 => by rw [← eM1]; exact up2_ne h9
      have hM1r : ∀ b9, b9 ≠ q → M1 b9 = M b9 := fun b9 h9 => by rw [← eM1]; exact up2_row h9
      refine J_iconst (v := -1) hx dX4_number_45 (by decide) ?_
      refine J_iret hx hr dX4_number_46 ?_
      exact hQ0 (decide_eq_false (by omega)) M1 ⟨hM1a, by rw [hM1o _ _ (Or.inr (by decide))]; exact hP.2.1, by rw [hM1o _ _ (Or.inr (by decide))]; exact hP.2.2.1, by rw [hM1o _ _ (Or.inr (by decide))]; exact hP.2.2.2⟩ (fun a9 j9 h9 => hM1o _ _ (by omega))
    · refine J_iload_n hx dX4_number_32 (i := 3) rfl rfl ?_
      refine J_iload_n hx dX4_number_33 (i := 2) rfl rfl ?_
      refine J_icmp_le (tgt := 47) hx dX4_number_34 (by decide) (fun c4 => ?_) (fun c4 => ?_)
      · refine J_aload_n hx dX4_number_47 (i := 0) rfl rfl ?_
        refine J_invVv (As := []) (st := []) hx lk_X4_25 okX4_toNextToken dX4_number_48 hE.k (by decide) rfl rfl rfl (Nat.le_of_ble_eq_true rfl) (Nat.zero_add _).symm (Nat.zero_add _).symm rfl (c_X4_toNextToken hE (e := tk.2.2) (f := -1) hwf.2.2.1 hP.1 hP.2.2.2 ?_)
        intro M2 hP2 hF2
        refine J_iload_n hx dX4_number_51 (i := 3) rfl rfl ?_
        refine J_iret hx hr dX4_number_52 ?_
        first
        | exact hQ1 (decide_eq_true ⟨by omega, by omega, by omega⟩) M2 hP2 hF2
        | (exfalso; omega)
      · refine J_aload_n hx dX4_number_37 (i := 0) rfl rfl ?_
        refine J_aload_n hx dX4_number_38 (i := 0) rfl rfl ?_
        refine J_getI2 (v := ((tk.1 : Nat) : Int)) hx fl_X4_35 cl_X4 dX4_number_39 hE.k (by decide) rfl hP.2.2.1 ?_
        refine J_putI hx fl_X4_15 cl_X4 dX4_number_42 hE.k (by decide) rfl (Or.inl rfl) (by decide) ?_
        generalize eM1 : up2 M q 2 ((tk.1 : Nat) : Int) = M1
        have hM1a : M1 q 2 = ((tk.1 : Nat) : Int) := by rw [← eM1]; exact up2_at
        have hM1o : ∀ b9 j9, (b9 ≠ q ∨ j9 ≠ 2) → M1 b9 j9 = M b9 j9 := fun b9 j9 h9 => by rw [← eM1]; exact up2_ne h9
        have hM1r : ∀ b9, b9 ≠ q → M1 b9 = M b9 := fun b9 h9 => by rw [← eM1]; exact up2_row h9
        refine J_iconst (v := -1) hx dX4_number_45 (by decide) ?_
        refine J_iret hx hr dX4_number_46 ?_
        exact hQ0 (decide_eq_false (by omega)) M1 ⟨hM1a, by rw [hM1o _ _ (Or.inr (by decide))]; exact hP.2.1, by rw [hM1o _ _ (Or.inr (by decide))]; exact hP.2.2.1, by rw [hM1o _ _ (Or.inr (by decide))]; exact hP.2.2.2⟩ (fun a9 j9 h9 => hM1o _ _ (by omega))
  · refine J_aload_n hx dX4_number_18 (i := 0) rfl rfl ?_
    refine J_invV (As := []) (st := []) hx lk_X4_112 okX4_valueOfToken dX4_number_19 hE.k (by decide) rfl rfl rfl (Nat.le_of_ble_eq_true rfl) (Nat.zero_add _).symm (Nat.zero_add _).symm rfl (c_X4_valueOfToken hE hwf (by omega) hP ?_)
    have rgv := vlT_rg hwf (by omega)
    refine J_goto (tgt := 26) hx dX4_number_22 (by decide) ?_
    refine J_istore_n (lsn := [vR (q), vI (lo), vI (hi), vI (vlT B tk)]) hx dX4_number_26 (i := 3) rfl (Nat.le_of_ble_eq_true rfl) rfl rfl ?_
    refine J_iload_n hx dX4_number_27 (i := 3) rfl rfl ?_
    refine J_iload_n hx dX4_number_28 (i := 1) rfl rfl ?_
    refine J_icmp_lt (tgt := 37) hx dX4_number_29 (by decide) (fun c5 => ?_) (fun c5 => ?_)
    · refine J_aload_n hx dX4_number_37 (i := 0) rfl rfl ?_
      refine J_aload_n hx dX4_number_38 (i := 0) rfl rfl ?_
      refine J_getI2 (v := ((tk.1 : Nat) : Int)) hx fl_X4_35 cl_X4 dX4_number_39 hE.k (by decide) rfl hP.2.2.1 ?_
      refine J_putI hx fl_X4_15 cl_X4 dX4_number_42 hE.k (by decide) rfl (Or.inl rfl) (by decide) ?_
      generalize eM1 : up2 M q 2 ((tk.1 : Nat) : Int) = M1
      have hM1a : M1 q 2 = ((tk.1 : Nat) : Int) := by rw [← eM1]; exact up2_at
      have hM1o : ∀ b9 j9, (b9 ≠ q ∨ j9 ≠ 2) → M1 b9 j9 = M b9 j9 := fun b9 j9 h9 => by rw [← eM1]; exact up2_ne h9
      have hM1r : ∀ b9, b9 ≠ q → M1 b9 = M b9 := fun b9 h9 => by rw [← eM1]; exact up2_row h9
      refine J_iconst (v := -1) hx dX4_number_45 (by decide) ?_
      refine J_iret hx hr dX4_number_46 ?_
      exact hQ0 (decide_eq_false (by omega)) M1 ⟨hM1a, by rw [hM1o _ _ (Or.inr (by decide))]; exact hP.2.1, by rw [hM1o _ _ (Or.inr (by decide))]; exact hP.2.2.1, by rw [hM1o _ _ (Or.inr (by decide))]; exact hP.2.2.2⟩ (fun a9 j9 h9 => hM1o _ _ (by omega))
    · refine J_iload_n hx dX4_number_32 (i := 3) rfl rfl ?_
      refine J_iload_n hx dX4_number_33 (i := 2) rfl rfl ?_
      refine J_icmp_le (tgt := 47) hx dX4_number_34 (by decide) (fun c6 => ?_) (fun c6 => ?_)
      · refine J_aload_n hx dX4_number_47 (i := 0) rfl rfl ?_
        refine J_invVv (As := []) (st := []) hx lk_X4_25 okX4_toNextToken dX4_number_48 hE.k (by decide) rfl rfl rfl (Nat.le_of_ble_eq_true rfl) (Nat.zero_add _).symm (Nat.zero_add _).symm rfl (c_X4_toNextToken hE (e := tk.2.2) (f := -1) hwf.2.2.1 hP.1 hP.2.2.2 ?_)
        intro M2 hP2 hF2
        refine J_iload_n hx dX4_number_51 (i := 3) rfl rfl ?_
        refine J_iret hx hr dX4_number_52 ?_
        first
        | exact hQ1 (decide_eq_true ⟨by omega, by omega, by omega⟩) M2 hP2 hF2
        | (exfalso; omega)
      · refine J_aload_n hx dX4_number_37 (i := 0) rfl rfl ?_
        refine J_aload_n hx dX4_number_38 (i := 0) rfl rfl ?_
        refine J_getI2 (v := ((tk.1 : Nat) : Int)) hx fl_X4_35 cl_X4 dX4_number_39 hE.k (by decide) rfl hP.2.2.1 ?_
        refine J_putI hx fl_X4_15 cl_X4 dX4_number_42 hE.k (by decide) rfl (Or.inl rfl) (by decide) ?_
        generalize eM1 : up2 M q 2 ((tk.1 : Nat) : Int) = M1
        have hM1a : M1 q 2 = ((tk.1 : Nat) : Int) := by rw [← eM1]; exact up2_at
        have hM1o : ∀ b9 j9, (b9 ≠ q ∨ j9 ≠ 2) → M1 b9 j9 = M b9 j9 := fun b9 j9 h9 => by rw [← eM1]; exact up2_ne h9
        have hM1r : ∀ b9, b9 ≠ q → M1 b9 = M b9 := fun b9 h9 => by rw [← eM1]; exact up2_row h9
        refine J_iconst (v := -1) hx dX4_number_45 (by decide) ?_
        refine J_iret hx hr dX4_number_46 ?_
        exact hQ0 (decide_eq_false (by omega)) M1 ⟨hM1a, by rw [hM1o _ _ (Or.inr (by decide))]; exact hP.2.1, by rw [hM1o _ _ (Or.inr (by decide))]; exact hP.2.2.1, by rw [hM1o _ _ (Or.inr (by decide))]; exact hP.2.2.2⟩ (fun a9 j9 h9 => hM1o _ _ (by omega))

set_option maxHeartbeats 4000000 in
theorem lp_X4_isWord {g : WG} {d : Nat} {T : TT} {M : MM} {q sz z : Nat} {B : Nat → Int} {Q : MVal → TT → MM → Nat → Prop} (hE : TPE T M q z B) {tk : TK} {f : Int} {w : Nat} (hw : w < 7) (hwf : wfT B z tk) (hP : TPc M q tk f) {x : CX} (hx : OKx g x RX4 cX4_isWord (d + 5)) (hr : RTx g x (some .boolean) Q) (hQ : ∀ v : Int, ((v = 1 ∧ wdP B tk w) ∨ (v = 0 ∧ ¬ wdP B tk w)) → Q (vI v) T M sz) (hty : tk.2.1 = 1) (hln : tk.2.2 - tk.1 = strL.getD w 0) (i : Nat) (hi : i ≤ strL.getD w 0) (hall : ∀ i9, i9 < i → B (tk.1 + i9) = wch w i9) : Jd g x 28 [vR (q), vR (g.2.2.2.2.1 w), vI (((i : Nat) : Int))] [] T M sz 0 0 := by
  have hs6 := (str_len ⟨w, hw⟩).2.2
  have hz2 := hE.z2
  have hw1 := hwf.2.1
  have hw3 := hwf.2.2.1
  refine J_iload_n hx dX4_isWord_28 (i := 2) rfl rfl ?_
  refine J_aload_n hx dX4_isWord_29 (i := 1) rfl rfl ?_
  refine J_invVK (As := []) (st := [vI (((i : Nat) : Int))]) hx hw lkT_116 okmSlen dX4_isWord_30 rfl rfl rfl (Nat.le_of_ble_eq_true rfl) rfl (c_Slen hw ?_)
  refine J_icmp_ge (tgt := 63) hx dX4_isWord_33 (by decide) (fun c1 => ?_) (fun c1 => ?_)
  · refine J_iconst (v := 1) hx dX4_isWord_63 (by decide) ?_
    refine J_zret hx hr dX4_isWord_64 (by omega) ?_
    exact hQ 1 (Or.inl ⟨rfl, hty, hln, fun i9 h9 => hall i9 (by omega)⟩)
  · refine J_aload_n hx dX4_isWord_36 (i := 0) rfl rfl ?_
    refine J_getR (b := q + 1) hx fl_X4_9 cl_X4 dX4_isWord_37 hE.k (by decide) rfl hE.r ?_
    refine J_aload_n hx dX4_isWord_40 (i := 0) rfl rfl ?_
    refine J_getI2 (v := ((tk.1 : Nat) : Int)) hx fl_X4_35 cl_X4 dX4_isWord_41 hE.k (by decide) rfl hP.2.2.1 ?_
    refine J_iload_n hx dX4_isWord_44 (i := 2) rfl rfl ?_
    refine J_iadd (v := ((tk.1 + i : Nat) : Int)) hx dX4_isWord_45 (by rw [w32_id (by omega) (by omega)]; omega) ?_
    refine J_iald2 (v := B (tk.1 + i)) hx (tk.1 + i) dX4_isWord_46 hE.k1 (by omega) (by rw [hE.n1]; omega) (by exact hE.b (by omega)) ?_
    have rgb2 := hE.rg (j := tk.1 + i) (by omega)
    refine J_aload_n hx dX4_isWord_47 (i := 1) rfl rfl ?_
    refine J_iload_n hx dX4_isWord_48 (i := 2) rfl rfl ?_
    refine J_invVK (As := [vI ((i : Nat) : Int)]) (st := [vI (B (tk.1 + i))]) hx hw lkT_121 okmSchr dX4_isWord_49 rfl rfl rfl (Nat.le_of_ble_eq_true rfl) rfl (c_Schr hw (i := i) (by omega) ?_)
    refine J_icmp_eq (tgt := 57) hx dX4_isWord_52 (by decide) (fun c3 => ?_) (fun c3 => ?_)
    · refine J_iinc (v := ((i : Nat) : Int) + 1) (lsn := [vR (q), vR (g.2.2.2.2.1 w), vI (((i : Nat) : Int) + 1)]) hx dX4_isWord_57 rfl (jinc1 (by omega) (by omega)) rfl rfl ?_
      refine J_goto (tgt := 28) hx dX4_isWord_60 (by decide) ?_
      exact lp_X4_isWord hE hw hwf hP hx hr hQ hty hln (i + 1) (by omega) (fun i9 h9 => by
          by_cases e9 : i9 = i
          · rw [e9]; assumption
          · exact hall i9 (by omega))
    · refine J_iconst (v := 0) hx dX4_isWord_55 (by decide) ?_
      refine J_zret hx hr dX4_isWord_56 (by omega) ?_
      exact hQ 0 (Or.inr ⟨rfl, fun h9 => absurd (h9.2.2 i (by omega)) (by assumption)⟩)
termination_by strL.getD w 0 - i
decreasing_by all_goals omega

set_option maxHeartbeats 4000000 in
theorem c_X4_isWord {g : WG} {d : Nat} {T : TT} {M : MM} {q sz z : Nat} {B : Nat → Int} {Q : MVal → TT → MM → Nat → Prop} (hE : TPE T M q z B) {tk : TK} {f : Int} {w : Nat} (hw : w < 7) (hwf : wfT B z tk) (hP : TPc M q tk f) (hQ : ∀ v : Int, ((v = 1 ∧ wdP B tk w) ∨ (v = 0 ∧ ¬ wdP B tk w)) → Q (vI v) T M sz) : Ct g (d + 5) mX4_isWord [vR (q), vR (g.2.2.2.2.1 w)] T M sz 0 0 Q := by
  refine Ct_of2 (ls := [vR (q), vR (g.2.2.2.2.1 w), vU]) okX4_isWord rfl (Nat.le_of_ble_eq_true rfl) rfl ?_
  intro x hx hr hnm
  have hs6 := (str_len ⟨w, hw⟩).2.2
  have hz2 := hE.z2
  have hw1 := hwf.2.1
  have hw3 := hwf.2.2.1
  refine J_aload_n hx dX4_isWord_0 (i := 0) rfl rfl ?_
  refine J_getI2 (v := tk.2.1) hx fl_X4_32 cl_X4 dX4_isWord_1 hE.k (by decide) rfl hP.2.1 ?_
  refine J_iconst (v := 1) hx dX4_isWord_4 (by decide) ?_
  refine J_icmp_ne (tgt := 24) hx dX4_isWord_5 (by decide) (fun c1 => ?_) (fun c1 => ?_)
  · refine J_iconst (v := 0) hx dX4_isWord_24 (by decide) ?_
    refine J_zret hx hr dX4_isWord_25 (by omega) ?_
    exact hQ 0 (Or.inr ⟨rfl, fun h9 => by have h8 := h9.1; have h7 := h9.2.1; omega⟩)
  · refine J_aload_n hx dX4_isWord_8 (i := 0) rfl rfl ?_
    refine J_getI2 (v := ((tk.2.2 : Nat) : Int)) hx fl_X4_22 cl_X4 dX4_isWord_9 hE.k (by decide) rfl hP.2.2.2 ?_
    refine J_aload_n hx dX4_isWord_12 (i := 0) rfl rfl ?_
    refine J_getI2 (v := ((tk.1 : Nat) : Int)) hx fl_X4_35 cl_X4 dX4_isWord_13 hE.k (by decide) rfl hP.2.2.1 ?_
    refine J_isub (v := ((tk.2.2 : Nat) : Int) - ((tk.1 : Nat) : Int)) hx dX4_isWord_16 (w32_id (by omega) (by omega)) ?_
    refine J_aload_n hx dX4_isWord_17 (i := 1) rfl rfl ?_
    refine J_invVK (As := []) (st := [vI (((tk.2.2 : Nat) : Int) - ((tk.1 : Nat) : Int))]) hx hw lkT_116 okmSlen dX4_isWord_18 rfl rfl rfl (Nat.le_of_ble_eq_true rfl) rfl (c_Slen hw ?_)
    refine J_icmp_eq (tgt := 26) hx dX4_isWord_21 (by decide) (fun c2 => ?_) (fun c2 => ?_)
    · refine J_iconst (v := 0) hx dX4_isWord_26 (by decide) ?_
      refine J_istore_n (lsn := [vR (q), vR (g.2.2.2.2.1 w), vI (0)]) hx dX4_isWord_27 (i := 2) rfl (Nat.le_of_ble_eq_true rfl) rfl rfl ?_
      exact lp_X4_isWord hE hw hwf hP hx hr hQ (by omega) (by omega) 0 (by omega) (fun i9 h9 => absurd h9 (Nat.not_lt_zero i9))
    · refine J_iconst (v := 0) hx dX4_isWord_24 (by decide) ?_
      refine J_zret hx hr dX4_isWord_25 (by omega) ?_
      exact hQ 0 (Or.inr ⟨rfl, fun h9 => by have h8 := h9.1; have h7 := h9.2.1; omega⟩)

