def fitI (h v : Int) : Int := if h = 0 then (w32 v).bmod 256 else if h = 1 then (w32 v).bmod 65536 else if h = 2 then w32 v else if h = 3 then v else if v = 0 then 0 else 1
def useS (S : ST) (k : Nat) : Nat := cntF (fun s => decide ((S.sh s).1 ≠ -1)) k
def elmS (S : ST) (s i : Int) : Int := if 0 ≤ s ∧ s < 8 ∧ 0 ≤ (S.sh s.toNat).1 ∧ (S.sh s.toNat).1 < 5 ∧ 0 ≤ i ∧ i < (S.sh s.toNat).2.1 then (S.sh s.toNat).2.2 i.toNat else 0
def a_set (S : ST) (s i v : Int) : Int × ST := if ¬ (0 ≤ s ∧ s < 8) then rA S 0 else if 10 ≤ (S.sh s.toNat).1 then rA S 1 else if (S.sh s.toNat).1 = -1 then rA S 2 else if ¬ (0 ≤ i ∧ i < (S.sh s.toNat).2.1) then rA S 0 else (1, shS S s.toNat ((S.sh s.toNat).1, (S.sh s.toNat).2.1, fun j => if j = i.toNat then fitI (S.sh s.toNat).1 v else (S.sh s.toNat).2.2 j))
def a_status (S : ST) (w : Int) : Int × ST := if w = 0 then (((S.1.n : Nat) : Int), S) else if w = 1 then (S.1.sc 6, S) else if w = 2 then (S.1.sc 5, S) else if w = 3 then (S.1.sc 1, S) else if w = 4 then (S.1.sc 2, S) else if w = 5 then (S.1.sc 3, S) else if w = 6 then (S.1.sc 4, S) else if w = 7 then (sumF (S.1.att 3) S.1.n, S) else if w = 8 then (((S.tp.1 : Nat) : Int), S) else if w = 9 then (S.1.sc 7, S) else if w = 10 then (((useS S 8 : Nat) : Int), S) else if 12 ≤ w ∧ w ≤ 16 then (S.rf (w - 12).toNat, S) else (-1, S)
set_option maxHeartbeats 4000000 in
theorem c_X6_faultOfRow {g : WG} {d : Nat} {T : TT} {M : MM} {o sz : Nat} {S : ST} {Q : MVal → TT → MM → Nat → Prop} (hC : CT T o) (hN : CN M o S) (hW : WFS S) {s n : Int} (hQ : ∀ v : Int, ((v = -2 ∧ ¬ (0 ≤ s ∧ s < 8 ∧ 0 ≤ n ∧ n ≤ 40)) ∨ (v = -3 ∧ (0 ≤ s ∧ s < 8 ∧ 0 ≤ n ∧ n ≤ 40) ∧ 10 ≤ (S.sh s.toNat).1) ∨ (v = -4 ∧ (0 ≤ s ∧ s < 8 ∧ 0 ≤ n ∧ n ≤ 40) ∧ (S.sh s.toNat).1 = -1) ∨ (v = -2 ∧ (0 ≤ s ∧ s < 8 ∧ 0 ≤ n ∧ n ≤ 40) ∧ (0 ≤ (S.sh s.toNat).1 ∧ (S.sh s.toNat).1 ≤ 4) ∧ (S.sh s.toNat).2.1 < n) ∨ (v = 0 ∧ (0 ≤ s ∧ s < 8 ∧ 0 ≤ n ∧ n ≤ 40) ∧ (0 ≤ (S.sh s.toNat).1 ∧ (S.sh s.toNat).1 ≤ 4) ∧ n ≤ (S.sh s.toNat).2.1)) → Q (vI v) T M sz) : Ct g (d + 2) mX6_faultOfRow [vR (o), vI (s), vI (n)] T M sz 0 0 Q := by
  refine Ct_of2 (ls := [vR (o), vI (s), vI (n)]) okX6_faultOfRow rfl (Nat.le_of_ble_eq_true rfl) rfl ?_
  intro x hx hr hnm
  refine J_iload_n hx dX6_faultOfRow_0 (i := 1) rfl rfl ?_
  refine J_invS (As := [vI (s)]) (st := []) hx lk_X6_63 okX6_isShelf dX6_faultOfRow_1 rfl rfl (Nat.le_of_ble_eq_true rfl) (Nat.zero_add _).symm (Nat.zero_add _).symm rfl (c_X6_isShelf (a := s) ?_)
  intro v1 hv1
  refine J_if_eq (tgt := 17) hx dX6_faultOfRow_4 (by decide) (fun c2 => ?_) (fun c2 => ?_)
  · refine J_bipush (v := -2) hx dX6_faultOfRow_17 (by decide) ?_
    refine J_iret hx hr dX6_faultOfRow_19 ?_
    first
    | exact hQ _ (Or.inl ⟨rfl, by omega⟩)
    | exact hQ _ (Or.inr (Or.inr (Or.inr (Or.inl ⟨rfl, ⟨by omega, by omega, by omega, by omega⟩, ⟨by (try simp only [Int.toNat_natCast] at *); omega, by (try simp only [Int.toNat_natCast] at *); omega⟩, by (try simp only [Int.toNat_natCast] at *); omega⟩))))
  · refine J_iload_n hx dX6_faultOfRow_7 (i := 2) rfl rfl ?_
    refine J_if_lt (tgt := 17) hx dX6_faultOfRow_8 (by decide) (fun c3 => ?_) (fun c3 => ?_)
    · refine J_bipush (v := -2) hx dX6_faultOfRow_17 (by decide) ?_
      refine J_iret hx hr dX6_faultOfRow_19 ?_
      first
      | exact hQ _ (Or.inl ⟨rfl, by omega⟩)
      | exact hQ _ (Or.inr (Or.inr (Or.inr (Or.inl ⟨rfl, ⟨by omega, by omega, by omega, by omega⟩, ⟨by (try simp only [Int.toNat_natCast] at *); omega, by (try simp only [Int.toNat_natCast] at *); omega⟩, by (try simp only [Int.toNat_natCast] at *); omega⟩))))
    · refine J_iload_n hx dX6_faultOfRow_11 (i := 2) rfl rfl ?_
      refine J_bipush (v := 40) hx dX6_faultOfRow_12 (by decide) ?_
      refine J_icmp_le (tgt := 20) hx dX6_faultOfRow_14 (by decide) (fun c4 => ?_) (fun c4 => ?_)
      · obtain ⟨sN, rfl⟩ : ∃ z : Nat, s = ((z : Nat) : Int) := ⟨s.toNat, by omega⟩
        refine J_aload_n hx dX6_faultOfRow_20 (i := 0) rfl rfl ?_
        refine J_getR (b := o + 65) hx fl_X6_54 cl_X6 dX6_faultOfRow_21 hC.o (by decide) rfl hC.r7 ?_
        refine J_iload_n hx dX6_faultOfRow_24 (i := 1) rfl rfl ?_
        refine J_aald (b := o + 67 + 2 * sN) hx sN dX6_faultOfRow_25 hC.k65 (by decide) (by omega) (by rw [hC.n65]; omega) (hC.sre (by omega)) ?_
        refine J_invV (As := []) (st := []) hx lk_X6_90 okX3_isSomebody dX6_faultOfRow_26 (hC.skd (by omega)) (by decide) rfl rfl rfl (Nat.le_of_ble_eq_true rfl) (Nat.zero_add _).symm (Nat.zero_add _).symm rfl (c_X3_isSomebody (hC.sht (by omega)) (hN.hd (s := sN) (by omega)) ?_)
        intro v5 hv5
        have rg6 := hW.h (s := sN) (by omega)
        refine J_if_eq (tgt := 35) hx dX6_faultOfRow_29 (by decide) (fun c7 => ?_) (fun c7 => ?_)
        · refine J_aload_n hx dX6_faultOfRow_35 (i := 0) rfl rfl ?_
          refine J_getR (b := o + 65) hx fl_X6_54 cl_X6 dX6_faultOfRow_36 hC.o (by decide) rfl hC.r7 ?_
          refine J_iload_n hx dX6_faultOfRow_39 (i := 1) rfl rfl ?_
          refine J_aald (b := o + 67 + 2 * sN) hx sN dX6_faultOfRow_40 hC.k65 (by decide) (by omega) (by rw [hC.n65]; omega) (hC.sre (by omega)) ?_
          refine J_invV (As := []) (st := []) hx lk_X6_108 okX3_isRow dX6_faultOfRow_41 (hC.skd (by omega)) (by decide) rfl rfl rfl (Nat.le_of_ble_eq_true rfl) (Nat.zero_add _).symm (Nat.zero_add _).symm rfl (c_X3_isRow (hC.sht (by omega)) (hN.hd (s := sN) (by omega)) ?_)
          intro v8 hv8
          have rg9 := hW.h (s := sN) (by omega)
          refine J_if_ne (tgt := 50) hx dX6_faultOfRow_44 (by decide) (fun c10 => ?_) (fun c10 => ?_)
          · refine J_aload_n hx dX6_faultOfRow_50 (i := 0) rfl rfl ?_
            refine J_getR (b := o + 65) hx fl_X6_54 cl_X6 dX6_faultOfRow_51 hC.o (by decide) rfl hC.r7 ?_
            refine J_iload_n hx dX6_faultOfRow_54 (i := 1) rfl rfl ?_
            refine J_aald (b := o + 67 + 2 * sN) hx sN dX6_faultOfRow_55 hC.k65 (by decide) (by omega) (by rw [hC.n65]; omega) (hC.sre (by omega)) ?_
            refine J_getI2 (v := (S.sh sN).2.1) hx fl_X6_79 cl_X3 dX6_faultOfRow_56 (hC.skd (by omega)) (by decide) rfl (hN.hz (by omega) (show rowH _ from ⟨by omega, by omega⟩)) ?_
            have rg11 := hW.z (s := sN) (by omega)
            refine J_iload_n hx dX6_faultOfRow_59 (i := 2) rfl rfl ?_
            refine J_icmp_ge (tgt := 68) hx dX6_faultOfRow_60 (by decide) (fun c12 => ?_) (fun c12 => ?_)
            · refine J_iconst (v := 0) hx dX6_faultOfRow_68 (by decide) ?_
              refine J_iret hx hr dX6_faultOfRow_69 ?_
              exact hQ _ (Or.inr (Or.inr (Or.inr (Or.inr ⟨rfl, ⟨by omega, by omega, by omega, by omega⟩, ⟨by (try simp only [Int.toNat_natCast] at *); omega, by (try simp only [Int.toNat_natCast] at *); omega⟩, by (try simp only [Int.toNat_natCast] at *); omega⟩))))
            · refine J_bipush (v := -2) hx dX6_faultOfRow_63 (by decide) ?_
              refine J_goto (tgt := 69) hx dX6_faultOfRow_65 (by decide) ?_
              refine J_iret hx hr dX6_faultOfRow_69 ?_
              first
              | exact hQ _ (Or.inl ⟨rfl, by omega⟩)
              | exact hQ _ (Or.inr (Or.inr (Or.inr (Or.inl ⟨rfl, ⟨by omega, by omega, by omega, by omega⟩, ⟨by (try simp only [Int.toNat_natCast] at *); omega, by (try simp only [Int.toNat_natCast] at *); omega⟩, by (try simp only [Int.toNat_natCast] at *); omega⟩))))
          · refine J_bipush (v := -4) hx dX6_faultOfRow_47 (by decide) ?_
            refine J_iret hx hr dX6_faultOfRow_49 ?_
            exact hQ _ (Or.inr (Or.inr (Or.inl ⟨rfl, ⟨by omega, by omega, by omega, by omega⟩, by (try simp only [Int.toNat_natCast] at *); omega⟩)))
        · refine J_bipush (v := -3) hx dX6_faultOfRow_32 (by decide) ?_
          refine J_iret hx hr dX6_faultOfRow_34 ?_
          exact hQ _ (Or.inr (Or.inl ⟨rfl, ⟨by omega, by omega, by omega, by omega⟩, by (try simp only [Int.toNat_natCast] at *); omega⟩))
      · refine J_bipush (v := -2) hx dX6_faultOfRow_17 (by decide) ?_
        refine J_iret hx hr dX6_faultOfRow_19 ?_
        first
        | exact hQ _ (Or.inl ⟨rfl, by omega⟩)
        | exact hQ _ (Or.inr (Or.inr (Or.inr (Or.inl ⟨rfl, ⟨by omega, by omega, by omega, by omega⟩, ⟨by (try simp only [Int.toNat_natCast] at *); omega, by (try simp only [Int.toNat_natCast] at *); omega⟩, by (try simp only [Int.toNat_natCast] at *); omega⟩))))

set_option maxHeartbeats 4000000 in
theorem c_X3_putElement {g : WG} {d : Nat} {T : TT} {M : MM} {q sz : Nat} {Q : MVal → TT → MM → Nat → Prop} (hT : ShT T q) {h v : Int} {i : Nat} (hh : M q 1 = h) (hr0 : 0 ≤ h ∧ h ≤ 4) (hi : i < 40) (hQ : Q vU T (up2 M (q + 1) i (fitI h v)) sz) : Ct g (d + 1) mX3_putElement [vR (q), vI (((i : Nat) : Int)), vL (v)] T M sz 0 0 Q := by
  refine Ct_of2 (ls := [vR (q), vI (((i : Nat) : Int)), vL (v), vU]) okX3_putElement rfl (Nat.le_of_ble_eq_true rfl) rfl ?_
  intro x hx hr hnm
  refine J_aload_n hx dX3_putElement_0 (i := 0) rfl rfl ?_
  refine J_getI2 (v := h) hx fl_X3_15 cl_X3 dX3_putElement_1 hT.1 (by decide) rfl hh ?_
  by_cases t1_0 : h = 0
  · refine J_tswIn (tgt := 36) (off := 32) hx dX3_putElement_4 (by omega) (by omega) (by rw [t1_0]; rfl) (by decide) ?_
    refine J_aload_n hx dX3_putElement_36 (i := 0) rfl rfl ?_
    refine J_getR (b := q + 1) hx fl_X3_9 cl_X3 dX3_putElement_37 hT.1 (by decide) rfl hT.2.1 ?_
    refine J_iload_n hx dX3_putElement_40 (i := 1) rfl rfl ?_
    refine J_lload_n hx dX3_putElement_41 (i := 2) rfl rfl ?_
    refine J_l2i (v := w32 v) hx dX3_putElement_42 rfl ?_
    refine J_i2b (v := (w32 v).bmod 256) hx dX3_putElement_43 rfl ?_
    refine J_i2l hx dX3_putElement_44 ?_
    refine J_last hx i dX3_putElement_45 hT.2.2.1 (by omega) (by rw [hT.2.2.2]; omega) ?_
    refine J_goto (tgt := 101) hx dX3_putElement_46 (by decide) ?_
    refine J_vret hx hr dX3_putElement_101 ?_
    have e9 : fitI h v = ((w32 v).bmod 256) := by unfold fitI; (repeat' split) <;> first | rfl | (exfalso; omega)
    rw [e9] at hQ
    exact hQ
  by_cases t1_1 : h = 1
  · refine J_tswIn (tgt := 49) (off := 45) hx dX3_putElement_4 (by omega) (by omega) (by rw [t1_1]; rfl) (by decide) ?_
    refine J_aload_n hx dX3_putElement_49 (i := 0) rfl rfl ?_
    refine J_getR (b := q + 1) hx fl_X3_9 cl_X3 dX3_putElement_50 hT.1 (by decide) rfl hT.2.1 ?_
    refine J_iload_n hx dX3_putElement_53 (i := 1) rfl rfl ?_
    refine J_lload_n hx dX3_putElement_54 (i := 2) rfl rfl ?_
    refine J_l2i (v := w32 v) hx dX3_putElement_55 rfl ?_
    refine J_i2s (v := (w32 v).bmod 65536) hx dX3_putElement_56 rfl ?_
    refine J_i2l hx dX3_putElement_57 ?_
    refine J_last hx i dX3_putElement_58 hT.2.2.1 (by omega) (by rw [hT.2.2.2]; omega) ?_
    refine J_goto (tgt := 101) hx dX3_putElement_59 (by decide) ?_
    refine J_vret hx hr dX3_putElement_101 ?_
    have e9 : fitI h v = ((w32 v).bmod 65536) := by unfold fitI; (repeat' split) <;> first | rfl | (exfalso; omega)
    rw [e9] at hQ
    exact hQ
  by_cases t1_2 : h = 2
  · refine J_tswIn (tgt := 62) (off := 58) hx dX3_putElement_4 (by omega) (by omega) (by rw [t1_2]; rfl) (by decide) ?_
    refine J_aload_n hx dX3_putElement_62 (i := 0) rfl rfl ?_
    refine J_getR (b := q + 1) hx fl_X3_9 cl_X3 dX3_putElement_63 hT.1 (by decide) rfl hT.2.1 ?_
    refine J_iload_n hx dX3_putElement_66 (i := 1) rfl rfl ?_
    refine J_lload_n hx dX3_putElement_67 (i := 2) rfl rfl ?_
    refine J_l2i (v := w32 v) hx dX3_putElement_68 rfl ?_
    refine J_i2l hx dX3_putElement_69 ?_
    refine J_last hx i dX3_putElement_70 hT.2.2.1 (by omega) (by rw [hT.2.2.2]; omega) ?_
    refine J_goto (tgt := 101) hx dX3_putElement_71 (by decide) ?_
    refine J_vret hx hr dX3_putElement_101 ?_
    have e9 : fitI h v = (w32 v) := by unfold fitI; (repeat' split) <;> first | rfl | (exfalso; omega)
    rw [e9] at hQ
    exact hQ
  by_cases t1_3 : h = 3
  · refine J_tswIn (tgt := 74) (off := 70) hx dX3_putElement_4 (by omega) (by omega) (by rw [t1_3]; rfl) (by decide) ?_
    refine J_aload_n hx dX3_putElement_74 (i := 0) rfl rfl ?_
    refine J_getR (b := q + 1) hx fl_X3_9 cl_X3 dX3_putElement_75 hT.1 (by decide) rfl hT.2.1 ?_
    refine J_iload_n hx dX3_putElement_78 (i := 1) rfl rfl ?_
    refine J_lload_n hx dX3_putElement_79 (i := 2) rfl rfl ?_
    refine J_last hx i dX3_putElement_80 hT.2.2.1 (by omega) (by rw [hT.2.2.2]; omega) ?_
    refine J_goto (tgt := 101) hx dX3_putElement_81 (by decide) ?_
    refine J_vret hx hr dX3_putElement_101 ?_
    have e9 : fitI h v = v := by unfold fitI; (repeat' split) <;> first | rfl | (exfalso; omega)
    rw [e9] at hQ
    exact hQ
  refine J_tswOut (tgt := 84) hx dX3_putElement_4 (by omega) (by decide) ?_
  refine J_aload_n hx dX3_putElement_84 (i := 0) rfl rfl ?_
  refine J_getR (b := q + 1) hx fl_X3_9 cl_X3 dX3_putElement_85 hT.1 (by decide) rfl hT.2.1 ?_
  refine J_iload_n hx dX3_putElement_88 (i := 1) rfl rfl ?_
  refine J_lload_n hx dX3_putElement_89 (i := 2) rfl rfl ?_
  refine J_lconst (v := 0) hx dX3_putElement_90 (by decide) ?_
  refine J_lc_eq (tgt := 99) hx dX3_putElement_91 dX3_putElement_92 (by decide) (fun c2 => ?_) (fun c2 => ?_)
  · refine J_lconst (v := 0) hx dX3_putElement_99 (by decide) ?_
    refine J_last hx i dX3_putElement_100 hT.2.2.1 (by omega) (by rw [hT.2.2.2]; omega) ?_
    refine J_vret hx hr dX3_putElement_101 ?_
    have e9 : fitI h v = 0 := by unfold fitI; (repeat' split) <;> first | rfl | (exfalso; omega)
    rw [e9] at hQ
    exact hQ
  · refine J_lconst (v := 1) hx dX3_putElement_95 (by decide) ?_
    refine J_goto (tgt := 100) hx dX3_putElement_96 (by decide) ?_
    refine J_last hx i dX3_putElement_100 hT.2.2.1 (by omega) (by rw [hT.2.2.2]; omega) ?_
    refine J_vret hx hr dX3_putElement_101 ?_
    have e9 : fitI h v = 1 := by unfold fitI; (repeat' split) <;> first | rfl | (exfalso; omega)
    rw [e9] at hQ
    exact hQ

set_option maxHeartbeats 4000000 in
theorem c_X6_set {g : WG} {d : Nat} {T : TT} {M : MM} {o sz : Nat} {S : ST} {Q : MVal → TT → MM → Nat → Prop} (hC : CT T o) (hN : CN M o S) (hW : WFS S) {s i v : Int} (h_s : -2147483648 ≤ s ∧ s ≤ 2147483647) (h_i : -2147483648 ≤ i ∧ i ≤ 2147483647) (hQ : CQ o T M sz Q (a_set S s i v)) : Ct g (d + 3) mX6_set [vR (o), vI (s), vI (i), vL (v)] T M sz 0 0 Q := by
  refine Ct_of2 (ls := [vR (o), vI (s), vI (i), vL (v), vU, vU]) okX6_set rfl (Nat.le_of_ble_eq_true rfl) rfl ?_
  intro x hx hr hnm
  have hshv : 0 ≤ s → s < 8 → _ := fun h1 h2 => hW.h (s := s.toNat) (by omega)
  refine J_aload_n hx dX6_set_0 (i := 0) rfl rfl ?_
  refine J_iload_n hx dX6_set_1 (i := 1) rfl rfl ?_
  refine J_iconst (v := 0) hx dX6_set_2 (by decide) ?_
  refine J_invV (As := [vI (s), vI (0)]) (st := []) hx lk_X6_75 okX6_faultOfRow dX6_set_3 hC.o (by decide) rfl rfl rfl (Nat.le_of_ble_eq_true rfl) (Nat.zero_add _).symm (Nat.zero_add _).symm rfl (c_X6_faultOfRow hC hN hW (s := s) (n := 0) ?_)
  rintro vf (⟨rfl, hvf⟩ | ⟨rfl, hvf⟩ | ⟨rfl, hvf⟩ | ⟨rfl, hvf⟩ | ⟨rfl, hvf⟩)
  · refine J_istore (lsn := [vR (o), vI (s), vI (i), vL (v), vU, vI ((-2))]) hx dX6_set_6 (Nat.le_of_ble_eq_true rfl) rfl rfl ?_
    refine J_iload hx dX6_set_8 rfl ?_
    refine J_if_eq (tgt := 20) hx dX6_set_10 (by decide) (fun c9 => absurd c9 (by decide)) (fun _ => ?_)
    refine J_aload_n hx dX6_set_13 (i := 0) rfl rfl ?_
    refine J_iload hx dX6_set_14 rfl ?_
    refine J_invV (As := [vI ((-2))]) (st := []) hx lk_X6_67 okX6_refuse dX6_set_16 hC.o (by decide) rfl rfl rfl (Nat.le_of_ble_eq_true rfl) (Nat.zero_add _).symm (Nat.zero_add _).symm rfl (c_X6_refuse hC hN hW (k := 0) (by decide) ?_)
    intro M1 hN1 hf1
    refine J_iret hx hr dX6_set_19 ?_
    exact hQ.to (v := -((0 + 2 : Nat) : Int)) (S := rfS S 0) (by
      unfold a_set
      all_goals (try unfold overY at *)
      all_goals (try unfold mayQ at *)
      all_goals (try simp only [Int.toNat_natCast] at *)
      all_goals ((repeat' split) <;> first | rfl | (exfalso; omega) | (congr 1; omega))) hC hN1 hf1
  · refine J_istore (lsn := [vR (o), vI (s), vI (i), vL (v), vU, vI ((-3))]) hx dX6_set_6 (Nat.le_of_ble_eq_true rfl) rfl rfl ?_
    refine J_iload hx dX6_set_8 rfl ?_
    refine J_if_eq (tgt := 20) hx dX6_set_10 (by decide) (fun c9 => absurd c9 (by decide)) (fun _ => ?_)
    refine J_aload_n hx dX6_set_13 (i := 0) rfl rfl ?_
    refine J_iload hx dX6_set_14 rfl ?_
    refine J_invV (As := [vI ((-3))]) (st := []) hx lk_X6_67 okX6_refuse dX6_set_16 hC.o (by decide) rfl rfl rfl (Nat.le_of_ble_eq_true rfl) (Nat.zero_add _).symm (Nat.zero_add _).symm rfl (c_X6_refuse hC hN hW (k := 1) (by decide) ?_)
    intro M1 hN1 hf1
    refine J_iret hx hr dX6_set_19 ?_
    exact hQ.to (v := -((1 + 2 : Nat) : Int)) (S := rfS S 1) (by
      unfold a_set
      all_goals (try unfold overY at *)
      all_goals (try unfold mayQ at *)
      all_goals (try simp only [Int.toNat_natCast] at *)
      all_goals ((repeat' split) <;> first | rfl | (exfalso; omega) | (congr 1; omega))) hC hN1 hf1
  · refine J_istore (lsn := [vR (o), vI (s), vI (i), vL (v), vU, vI ((-4))]) hx dX6_set_6 (Nat.le_of_ble_eq_true rfl) rfl rfl ?_
    refine J_iload hx dX6_set_8 rfl ?_
    refine J_if_eq (tgt := 20) hx dX6_set_10 (by decide) (fun c9 => absurd c9 (by decide)) (fun _ => ?_)
    refine J_aload_n hx dX6_set_13 (i := 0) rfl rfl ?_
    refine J_iload hx dX6_set_14 rfl ?_
    refine J_invV (As := [vI ((-4))]) (st := []) hx lk_X6_67 okX6_refuse dX6_set_16 hC.o (by decide) rfl rfl rfl (Nat.le_of_ble_eq_true rfl) (Nat.zero_add _).symm (Nat.zero_add _).symm rfl (c_X6_refuse hC hN hW (k := 2) (by decide) ?_)
    intro M1 hN1 hf1
    refine J_iret hx hr dX6_set_19 ?_
    exact hQ.to (v := -((2 + 2 : Nat) : Int)) (S := rfS S 2) (by
      unfold a_set
      all_goals (try unfold overY at *)
      all_goals (try unfold mayQ at *)
      all_goals (try simp only [Int.toNat_natCast] at *)
      all_goals ((repeat' split) <;> first | rfl | (exfalso; omega) | (congr 1; omega))) hC hN1 hf1
  · refine J_istore (lsn := [vR (o), vI (s), vI (i), vL (v), vU, vI ((-2))]) hx dX6_set_6 (Nat.le_of_ble_eq_true rfl) rfl rfl ?_
    refine J_iload hx dX6_set_8 rfl ?_
    refine J_if_eq (tgt := 20) hx dX6_set_10 (by decide) (fun c9 => absurd c9 (by decide)) (fun _ => ?_)
    refine J_aload_n hx dX6_set_13 (i := 0) rfl rfl ?_
    refine J_iload hx dX6_set_14 rfl ?_
    refine J_invV (As := [vI ((-2))]) (st := []) hx lk_X6_67 okX6_refuse dX6_set_16 hC.o (by decide) rfl rfl rfl (Nat.le_of_ble_eq_true rfl) (Nat.zero_add _).symm (Nat.zero_add _).symm rfl (c_X6_refuse hC hN hW (k := 0) (by decide) ?_)
    intro M1 hN1 hf1
    refine J_iret hx hr dX6_set_19 ?_
    exact hQ.to (v := -((0 + 2 : Nat) : Int)) (S := rfS S 0) (by
      unfold a_set
      all_goals (try unfold overY at *)
      all_goals (try unfold mayQ at *)
      all_goals (try simp only [Int.toNat_natCast] at *)
      all_goals ((repeat' split) <;> first | rfl | (exfalso; omega) | (congr 1; omega))) hC hN1 hf1
  · refine J_istore (lsn := [vR (o), vI (s), vI (i), vL (v), vU, vI (0)]) hx dX6_set_6 (Nat.le_of_ble_eq_true rfl) rfl rfl ?_
    refine J_iload hx dX6_set_8 rfl ?_
    refine J_if_eq (tgt := 20) hx dX6_set_10 (by decide) (fun _ => ?_) (fun c9 => absurd c9 (by decide))
    obtain ⟨sN, rfl⟩ : ∃ z : Nat, s = ((z : Nat) : Int) := ⟨s.toNat, by omega⟩
    simp only [Int.toNat_natCast] at hvf
    have rgz := hW.z (s := sN) (by omega)
    refine J_iload_n hx dX6_set_20 (i := 2) rfl rfl ?_
    refine J_if_lt (tgt := 37) hx dX6_set_21 (by decide) (fun c6 => ?_) (fun c6 => ?_)
    · refine J_aload_n hx dX6_set_37 (i := 0) rfl rfl ?_
      refine J_bipush (v := -2) hx dX6_set_38 (by decide) ?_
      refine J_invV (As := [vI ((-2))]) (st := []) hx lk_X6_67 okX6_refuse dX6_set_40 hC.o (by decide) rfl rfl rfl (Nat.le_of_ble_eq_true rfl) (Nat.zero_add _).symm (Nat.zero_add _).symm rfl (c_X6_refuse hC hN hW (k := 0) (by decide) ?_)
      intro M1 hN1 hf1
      refine J_iret hx hr dX6_set_43 ?_
      exact hQ.to (v := -((0 + 2 : Nat) : Int)) (S := rfS S 0) (by
        unfold a_set
        all_goals (try unfold overY at *)
        all_goals (try unfold mayQ at *)
        all_goals (try simp only [Int.toNat_natCast] at *)
        all_goals ((repeat' split) <;> first | rfl | (exfalso; omega) | (congr 1; omega))) hC hN1 hf1
    · refine J_iload_n hx dX6_set_24 (i := 2) rfl rfl ?_
      refine J_aload_n hx dX6_set_25 (i := 0) rfl rfl ?_
      refine J_getR (b := o + 65) hx fl_X6_54 cl_X6 dX6_set_26 hC.o (by decide) rfl hC.r7 ?_
      refine J_iload_n hx dX6_set_29 (i := 1) rfl rfl ?_
      refine J_aald (b := o + 67 + 2 * sN) hx sN dX6_set_30 hC.k65 (by decide) (by omega) (by rw [hC.n65]; omega) (hC.sre (by omega)) ?_
      refine J_getI2 (v := (S.sh sN).2.1) hx fl_X6_79 cl_X3 dX6_set_31 (hC.skd (by omega)) (by decide) rfl (hN.hz (by omega) (show rowH _ from ⟨by omega, by omega⟩)) ?_
      have rg7 := hW.z (s := sN) (by omega)
      refine J_icmp_lt (tgt := 44) hx dX6_set_34 (by decide) (fun c8 => ?_) (fun c8 => ?_)
      · obtain ⟨iN, rfl⟩ : ∃ z : Nat, i = ((z : Nat) : Int) := ⟨i.toNat, by omega⟩
        refine J_aload_n hx dX6_set_44 (i := 0) rfl rfl ?_
        refine J_getR (b := o + 65) hx fl_X6_54 cl_X6 dX6_set_45 hC.o (by decide) rfl hC.r7 ?_
        refine J_iload_n hx dX6_set_48 (i := 1) rfl rfl ?_
        refine J_aald (b := o + 67 + 2 * sN) hx sN dX6_set_49 hC.k65 (by decide) (by omega) (by rw [hC.n65]; omega) (hC.sre (by omega)) ?_
        refine J_iload_n hx dX6_set_50 (i := 2) rfl rfl ?_
        refine J_lload_n hx dX6_set_51 (i := 3) rfl rfl ?_
        refine J_invVv (As := [vI (((iN : Nat) : Int)), vL (v)]) (st := []) hx lk_X6_83 okX3_putElement dX6_set_52 (hC.skd (by omega)) (by decide) rfl rfl rfl (Nat.le_of_ble_eq_true rfl) (Nat.zero_add _).symm (Nat.zero_add _).symm rfl (c_X3_putElement (hC.sht (s := sN) (by omega)) (v := v) (hN.hd (by omega)) (by (try simp only [Int.toNat_natCast] at *); omega) (i := iN) (by omega) ?_)
        have h4 : ∀ a9, a9 ≠ o + 67 + 2 * sN + 1 → up2 M (o + 67 + 2 * sN + 1) iN (fitI (S.sh sN).1 v) a9 = M a9 := fun a9 h9 => up2_row h9
        refine J_iconst (v := 1) hx dX6_set_55 (by decide) ?_
        refine J_iret hx hr dX6_set_56 ?_
        exact hQ.to (v := 1) (S := shS S sN ((S.sh sN).1, (S.sh sN).2.1, fun j => if j = iN then fitI (S.sh sN).1 v else (S.sh sN).2.2 j)) (by
          unfold a_set
          all_goals (try unfold overY at *)
          all_goals (try unfold mayQ at *)
          all_goals (try simp only [Int.toNat_natCast] at *)
          all_goals ((repeat' split) <;> first | rfl | (exfalso; omega) | (congr 1; omega))) hC (hN.shelf (by omega) (by rw [h4 _ (by omega)]; exact hN.hd (by omega)) (fun hr9 => ⟨by rw [h4 _ (by omega)]; exact hN.hz (by omega) hr9, fun j9 h9 => by
            dsimp only
            by_cases e : j9 = iN
            · rw [if_pos e, e, up2_at]
            · rw [if_neg e, up2_ne (Or.inr e)]; exact hN.he (by omega) hr9 h9⟩) (fun a9 ha hb => h4 a9 hb)) (fun b hb => h4 b (by omega))
      · refine J_aload_n hx dX6_set_37 (i := 0) rfl rfl ?_
        refine J_bipush (v := -2) hx dX6_set_38 (by decide) ?_
        refine J_invV (As := [vI ((-2))]) (st := []) hx lk_X6_67 okX6_refuse dX6_set_40 hC.o (by decide) rfl rfl rfl (Nat.le_of_ble_eq_true rfl) (Nat.zero_add _).symm (Nat.zero_add _).symm rfl (c_X6_refuse hC hN hW (k := 0) (by decide) ?_)
        intro M1 hN1 hf1
        refine J_iret hx hr dX6_set_43 ?_
        exact hQ.to (v := -((0 + 2 : Nat) : Int)) (S := rfS S 0) (by
          unfold a_set
          all_goals (try unfold overY at *)
          all_goals (try unfold mayQ at *)
          all_goals (try simp only [Int.toNat_natCast] at *)
          all_goals ((repeat' split) <;> first | rfl | (exfalso; omega) | (congr 1; omega))) hC hN1 hf1

set_option maxHeartbeats 4000000 in
theorem c_X6_element {g : WG} {d : Nat} {T : TT} {M : MM} {o sz : Nat} {S : ST} {Q : MVal → TT → MM → Nat → Prop} (hC : CT T o) (hN : CN M o S) (hW : WFS S) {s i : Int} (hQ : Q (vL (elmS S s i)) T M sz) : Ct g (d + 2) mX6_element [vR (o), vI (s), vI (i)] T M sz 0 0 Q := by
  refine Ct_of2 (ls := [vR (o), vI (s), vI (i)]) okX6_element rfl (Nat.le_of_ble_eq_true rfl) rfl ?_
  intro x hx hr hnm
  refine J_iload_n hx dX6_element_0 (i := 1) rfl rfl ?_
  refine J_invS (As := [vI (s)]) (st := []) hx lk_X6_63 okX6_isShelf dX6_element_1 rfl rfl (Nat.le_of_ble_eq_true rfl) (Nat.zero_add _).symm (Nat.zero_add _).symm rfl (c_X6_isShelf (a := s) ?_)
  intro v1 hv1
  refine J_if_eq (tgt := 36) hx dX6_element_4 (by decide) (fun c2 => ?_) (fun c2 => ?_)
  · refine J_lconst (v := 0) hx dX6_element_36 (by decide) ?_
    refine J_lret hx hr dX6_element_37 ?_
    have e9 : elmS S s i = 0 := by
      unfold elmS
      (try simp only [Int.toNat_natCast] at *)
      split <;> first | rfl | (exfalso; omega)
    rw [e9] at hQ
    exact hQ
  · obtain ⟨sN, rfl⟩ : ∃ z : Nat, s = ((z : Nat) : Int) := ⟨s.toNat, by omega⟩
    refine J_aload_n hx dX6_element_7 (i := 0) rfl rfl ?_
    refine J_getR (b := o + 65) hx fl_X6_54 cl_X6 dX6_element_8 hC.o (by decide) rfl hC.r7 ?_
    refine J_iload_n hx dX6_element_11 (i := 1) rfl rfl ?_
    refine J_aald (b := o + 67 + 2 * sN) hx sN dX6_element_12 hC.k65 (by decide) (by omega) (by rw [hC.n65]; omega) (hC.sre (by omega)) ?_
    refine J_invV (As := []) (st := []) hx lk_X6_108 okX3_isRow dX6_element_13 (hC.skd (by omega)) (by decide) rfl rfl rfl (Nat.le_of_ble_eq_true rfl) (Nat.zero_add _).symm (Nat.zero_add _).symm rfl (c_X3_isRow (hC.sht (by omega)) (hN.hd (s := sN) (by omega)) ?_)
    intro v3 hv3
    have rg4 := hW.h (s := sN) (by omega)
    refine J_if_eq (tgt := 36) hx dX6_element_16 (by decide) (fun c5 => ?_) (fun c5 => ?_)
    · refine J_lconst (v := 0) hx dX6_element_36 (by decide) ?_
      refine J_lret hx hr dX6_element_37 ?_
      have e9 : elmS S ((sN : Nat) : Int) i = 0 := by
        unfold elmS
        (try simp only [Int.toNat_natCast] at *)
        split <;> first | rfl | (exfalso; omega)
      rw [e9] at hQ
      exact hQ
    · refine J_iload_n hx dX6_element_19 (i := 2) rfl rfl ?_
      refine J_if_lt (tgt := 36) hx dX6_element_20 (by decide) (fun c6 => ?_) (fun c6 => ?_)
      · refine J_lconst (v := 0) hx dX6_element_36 (by decide) ?_
        refine J_lret hx hr dX6_element_37 ?_
        have e9 : elmS S ((sN : Nat) : Int) i = 0 := by
          unfold elmS
          (try simp only [Int.toNat_natCast] at *)
          split <;> first | rfl | (exfalso; omega)
        rw [e9] at hQ
        exact hQ
      · refine J_iload_n hx dX6_element_23 (i := 2) rfl rfl ?_
        have rgz := hW.z (s := sN) (by omega)
        refine J_aload_n hx dX6_element_24 (i := 0) rfl rfl ?_
        refine J_getR (b := o + 65) hx fl_X6_54 cl_X6 dX6_element_25 hC.o (by decide) rfl hC.r7 ?_
        refine J_iload_n hx dX6_element_28 (i := 1) rfl rfl ?_
        refine J_aald (b := o + 67 + 2 * sN) hx sN dX6_element_29 hC.k65 (by decide) (by omega) (by rw [hC.n65]; omega) (hC.sre (by omega)) ?_
        refine J_getI2 (v := (S.sh sN).2.1) hx fl_X6_79 cl_X3 dX6_element_30 (hC.skd (by omega)) (by decide) rfl (hN.hz (by omega) (show rowH _ from ⟨by omega, by omega⟩)) ?_
        have rg7 := hW.z (s := sN) (by omega)
        refine J_icmp_lt (tgt := 38) hx dX6_element_33 (by decide) (fun c8 => ?_) (fun c8 => ?_)
        · obtain ⟨iN, rfl⟩ : ∃ z : Nat, i = ((z : Nat) : Int) := ⟨i.toNat, by omega⟩
          refine J_aload_n hx dX6_element_38 (i := 0) rfl rfl ?_
          refine J_getR (b := o + 65) hx fl_X6_54 cl_X6 dX6_element_39 hC.o (by decide) rfl hC.r7 ?_
          refine J_iload_n hx dX6_element_42 (i := 1) rfl rfl ?_
          refine J_aald (b := o + 67 + 2 * sN) hx sN dX6_element_43 hC.k65 (by decide) (by omega) (by rw [hC.n65]; omega) (hC.sre (by omega)) ?_
          refine J_getR (b := o + 67 + 2 * sN + 1) hx fl_X6_98 cl_X3 dX6_element_44 (hC.skd (by omega)) (by decide) rfl (hC.sel (by omega)) ?_
          refine J_iload_n hx dX6_element_47 (i := 2) rfl rfl ?_
          refine J_lald2 (v := (S.sh sN).2.2 iN) hx iN dX6_element_48 (hC.sak (by omega)) (by omega) (by rw [hC.san (by omega)]; omega) (hN.he (by omega) (show rowH _ from ⟨by omega, by omega⟩) (by omega)) ?_
          refine J_lret hx hr dX6_element_49 ?_
          have e9 : elmS S ((sN : Nat) : Int) ((iN : Nat) : Int) = (S.sh sN).2.2 iN := by
            unfold elmS
            (try simp only [Int.toNat_natCast] at *)
            split <;> first | rfl | (exfalso; omega)
          rw [e9] at hQ
          exact hQ
        · refine J_lconst (v := 0) hx dX6_element_36 (by decide) ?_
          refine J_lret hx hr dX6_element_37 ?_
          have e9 : elmS S ((sN : Nat) : Int) i = 0 := by
            unfold elmS
            (try simp only [Int.toNat_natCast] at *)
            split <;> first | rfl | (exfalso; omega)
          rw [e9] at hQ
          exact hQ

