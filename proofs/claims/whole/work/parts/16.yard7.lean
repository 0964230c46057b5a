set_option maxHeartbeats 4000000 in
theorem c_X5_becomeAs {g : WG} {d : Nat} {T : TT} {M : MM} {r f sz : Nat} {B : YA} {Q : MVal → TT → MM → Nat → Prop} (hT : YT T r) (hTf : YT T f) (hNf : YN M f B) (hW : WFY B) (hdj : r + 11 ≤ f ∨ f + 11 ≤ r) (hQ : ∀ M', YN M' r B → FrY r M M' → Q vU T M' sz) : Ct g (d + 1) mX5_becomeAs [vR (r), vR (f)] T M sz 0 0 Q := by
  refine Ct_of2 (ls := [vR (r), vR (f)]) okX5_becomeAs rfl (Nat.le_of_ble_eq_true rfl) rfl ?_
  intro x hx hr hnm
  refine J_aload_n hx dX5_becomeAs_0 (i := 1) rfl rfl ?_
  refine J_getR (b := f + 1) hx fl_X5_9 cl_X5 dX5_becomeAs_1 hTf.o (by decide) rfl hTf.r0 ?_
  refine J_iconst (v := 0) hx dX5_becomeAs_4 (by decide) ?_
  refine J_aload_n hx dX5_becomeAs_5 (i := 0) rfl rfl ?_
  refine J_getR (b := r + 1) hx fl_X5_9 cl_X5 dX5_becomeAs_6 hT.o (by decide) rfl hT.r0 ?_
  refine J_iconst (v := 0) hx dX5_becomeAs_9 (by decide) ?_
  refine J_bipush (v := 8) hx dX5_becomeAs_10 (by decide) ?_
  refine J_copyI (st := []) hx 0 0 8 lk_X5_51 dX5_becomeAs_12 hTf.k1 hT.k1 rfl rfl rfl (by have h9 := hTf.l1 (i := 7) (by decide); omega) (by have h9 := hT.l1 (i := 7) (by decide); omega) (Nat.le_of_ble_eq_true rfl) ?_
  generalize eM1 : cpM M (f + 1) (r + 1) 0 0 8 = M1
  have hM1a : ∀ j9, j9 < 8 → M1 (r + 1) j9 = M (f + 1) j9 := fun j9 h9 => by rw [← eM1, cpM_at (by omega)]; congr 1; omega
  have hM1r : ∀ b9, b9 ≠ r + 1 → M1 b9 = M b9 := fun b9 h9 => by rw [← eM1]; exact cpM_row h9
  refine J_aload_n hx dX5_becomeAs_15 (i := 1) rfl rfl ?_
  refine J_getR (b := f + 2) hx fl_X5_15 cl_X5 dX5_becomeAs_16 hTf.o (by decide) rfl hTf.r1 ?_
  refine J_iconst (v := 0) hx dX5_becomeAs_19 (by decide) ?_
  refine J_aload_n hx dX5_becomeAs_20 (i := 0) rfl rfl ?_
  refine J_getR (b := r + 2) hx fl_X5_15 cl_X5 dX5_becomeAs_21 hT.o (by decide) rfl hT.r1 ?_
  refine J_iconst (v := 0) hx dX5_becomeAs_24 (by decide) ?_
  refine J_bipush (v := 8) hx dX5_becomeAs_25 (by decide) ?_
  refine J_copyI (st := []) hx 0 0 8 lk_X5_51 dX5_becomeAs_27 hTf.k2 hT.k2 rfl rfl rfl (by have h9 := hTf.l2 (i := 7) (by decide); omega) (by have h9 := hT.l2 (i := 7) (by decide); omega) (Nat.le_of_ble_eq_true rfl) ?_
  generalize eM2 : cpM M1 (f + 2) (r + 2) 0 0 8 = M2
  have hM2a : ∀ j9, j9 < 8 → M2 (r + 2) j9 = M1 (f + 2) j9 := fun j9 h9 => by rw [← eM2, cpM_at (by omega)]; congr 1; omega
  have hM2r : ∀ b9, b9 ≠ r + 2 → M2 b9 = M1 b9 := fun b9 h9 => by rw [← eM2]; exact cpM_row h9
  refine J_aload_n hx dX5_becomeAs_30 (i := 1) rfl rfl ?_
  refine J_getR (b := f + 3) hx fl_X5_18 cl_X5 dX5_becomeAs_31 hTf.o (by decide) rfl hTf.r2 ?_
  refine J_iconst (v := 0) hx dX5_becomeAs_34 (by decide) ?_
  refine J_aload_n hx dX5_becomeAs_35 (i := 0) rfl rfl ?_
  refine J_getR (b := r + 3) hx fl_X5_18 cl_X5 dX5_becomeAs_36 hT.o (by decide) rfl hT.r2 ?_
  refine J_iconst (v := 0) hx dX5_becomeAs_39 (by decide) ?_
  refine J_bipush (v := 8) hx dX5_becomeAs_40 (by decide) ?_
  refine J_copyI (st := []) hx 0 0 8 lk_X5_51 dX5_becomeAs_42 hTf.k3 hT.k3 rfl rfl rfl (by have h9 := hTf.l3 (i := 7) (by decide); omega) (by have h9 := hT.l3 (i := 7) (by decide); omega) (Nat.le_of_ble_eq_true rfl) ?_
  generalize eM3 : cpM M2 (f + 3) (r + 3) 0 0 8 = M3
  have hM3a : ∀ j9, j9 < 8 → M3 (r + 3) j9 = M2 (f + 3) j9 := fun j9 h9 => by rw [← eM3, cpM_at (by omega)]; congr 1; omega
  have hM3r : ∀ b9, b9 ≠ r + 3 → M3 b9 = M2 b9 := fun b9 h9 => by rw [← eM3]; exact cpM_row h9
  refine J_aload_n hx dX5_becomeAs_45 (i := 1) rfl rfl ?_
  refine J_getR (b := f + 4) hx fl_X5_21 cl_X5 dX5_becomeAs_46 hTf.o (by decide) rfl hTf.r3 ?_
  refine J_iconst (v := 0) hx dX5_becomeAs_49 (by decide) ?_
  refine J_aload_n hx dX5_becomeAs_50 (i := 0) rfl rfl ?_
  refine J_getR (b := r + 4) hx fl_X5_21 cl_X5 dX5_becomeAs_51 hT.o (by decide) rfl hT.r3 ?_
  refine J_iconst (v := 0) hx dX5_becomeAs_54 (by decide) ?_
  refine J_bipush (v := 8) hx dX5_becomeAs_55 (by decide) ?_
  refine J_copyI (st := []) hx 0 0 8 lk_X5_51 dX5_becomeAs_57 hTf.k4 hT.k4 rfl rfl rfl (by have h9 := hTf.l4 (i := 7) (by decide); omega) (by have h9 := hT.l4 (i := 7) (by decide); omega) (Nat.le_of_ble_eq_true rfl) ?_
  generalize eM4 : cpM M3 (f + 4) (r + 4) 0 0 8 = M4
  have hM4a : ∀ j9, j9 < 8 → M4 (r + 4) j9 = M3 (f + 4) j9 := fun j9 h9 => by rw [← eM4, cpM_at (by omega)]; congr 1; omega
  have hM4r : ∀ b9, b9 ≠ r + 4 → M4 b9 = M3 b9 := fun b9 h9 => by rw [← eM4]; exact cpM_row h9
  refine J_aload_n hx dX5_becomeAs_60 (i := 1) rfl rfl ?_
  refine J_getR (b := f + 5) hx fl_X5_24 cl_X5 dX5_becomeAs_61 hTf.o (by decide) rfl hTf.r4 ?_
  refine J_iconst (v := 0) hx dX5_becomeAs_64 (by decide) ?_
  refine J_aload_n hx dX5_becomeAs_65 (i := 0) rfl rfl ?_
  refine J_getR (b := r + 5) hx fl_X5_24 cl_X5 dX5_becomeAs_66 hT.o (by decide) rfl hT.r4 ?_
  refine J_iconst (v := 0) hx dX5_becomeAs_69 (by decide) ?_
  refine J_bipush (v := 8) hx dX5_becomeAs_70 (by decide) ?_
  refine J_copyI (st := []) hx 0 0 8 lk_X5_51 dX5_becomeAs_72 hTf.k5 hT.k5 rfl rfl rfl (by have h9 := hTf.l5 (i := 7) (by decide); omega) (by have h9 := hT.l5 (i := 7) (by decide); omega) (Nat.le_of_ble_eq_true rfl) ?_
  generalize eM5 : cpM M4 (f + 5) (r + 5) 0 0 8 = M5
  have hM5a : ∀ j9, j9 < 8 → M5 (r + 5) j9 = M4 (f + 5) j9 := fun j9 h9 => by rw [← eM5, cpM_at (by omega)]; congr 1; omega
  have hM5r : ∀ b9, b9 ≠ r + 5 → M5 b9 = M4 b9 := fun b9 h9 => by rw [← eM5]; exact cpM_row h9
  refine J_aload_n hx dX5_becomeAs_75 (i := 1) rfl rfl ?_
  refine J_getR (b := f + 6) hx fl_X5_27 cl_X5 dX5_becomeAs_76 hTf.o (by decide) rfl hTf.r5 ?_
  refine J_iconst (v := 0) hx dX5_becomeAs_79 (by decide) ?_
  refine J_aload_n hx dX5_becomeAs_80 (i := 0) rfl rfl ?_
  refine J_getR (b := r + 6) hx fl_X5_27 cl_X5 dX5_becomeAs_81 hT.o (by decide) rfl hT.r5 ?_
  refine J_iconst (v := 0) hx dX5_becomeAs_84 (by decide) ?_
  refine J_bipush (v := 8) hx dX5_becomeAs_85 (by decide) ?_
  refine J_copyI (st := []) hx 0 0 8 lk_X5_51 dX5_becomeAs_87 hTf.k6 hT.k6 rfl rfl rfl (by have h9 := hTf.l6 (i := 7) (by decide); omega) (by have h9 := hT.l6 (i := 7) (by decide); omega) (Nat.le_of_ble_eq_true rfl) ?_
  generalize eM6 : cpM M5 (f + 6) (r + 6) 0 0 8 = M6
  have hM6a : ∀ j9, j9 < 8 → M6 (r + 6) j9 = M5 (f + 6) j9 := fun j9 h9 => by rw [← eM6, cpM_at (by omega)]; congr 1; omega
  have hM6r : ∀ b9, b9 ≠ r + 6 → M6 b9 = M5 b9 := fun b9 h9 => by rw [← eM6]; exact cpM_row h9
  refine J_aload_n hx dX5_becomeAs_90 (i := 1) rfl rfl ?_
  refine J_getR (b := f + 7) hx fl_X5_32 cl_X5 dX5_becomeAs_91 hTf.o (by decide) rfl hTf.r6 ?_
  refine J_iconst (v := 0) hx dX5_becomeAs_94 (by decide) ?_
  refine J_aald (b := f + 8) hx 0 dX5_becomeAs_95 hTf.k7 (by decide) (by omega) (hTf.l7 (by decide)) (hTf.f7 (by decide)) ?_
  refine J_iconst (v := 0) hx dX5_becomeAs_96 (by decide) ?_
  refine J_aload_n hx dX5_becomeAs_97 (i := 0) rfl rfl ?_
  refine J_getR (b := r + 7) hx fl_X5_32 cl_X5 dX5_becomeAs_98 hT.o (by decide) rfl hT.r6 ?_
  refine J_iconst (v := 0) hx dX5_becomeAs_101 (by decide) ?_
  refine J_aald (b := r + 8) hx 0 dX5_becomeAs_102 hT.k7 (by decide) (by omega) (hT.l7 (by decide)) (hT.f7 (by decide)) ?_
  refine J_iconst (v := 0) hx dX5_becomeAs_103 (by decide) ?_
  refine J_bipush (v := 8) hx dX5_becomeAs_104 (by decide) ?_
  refine J_copyI (st := []) hx 0 0 8 lk_X5_51 dX5_becomeAs_106 (hTf.kl (c := 0) (by decide)) (hT.kl (c := 0) (by decide)) rfl rfl rfl (by have h9 := hTf.ll (c := 0) (k := 7) (by decide) (by decide); exact h9) (by have h9 := hT.ll (c := 0) (k := 7) (by decide) (by decide); exact h9) (Nat.le_of_ble_eq_true rfl) ?_
  generalize eM7 : cpM M6 (f + 8) (r + 8) 0 0 8 = M7
  have hM7a : ∀ j9, j9 < 8 → M7 (r + 8) j9 = M6 (f + 8) j9 := fun j9 h9 => by rw [← eM7, cpM_at (by omega)]; congr 1; omega
  have hM7r : ∀ b9, b9 ≠ r + 8 → M7 b9 = M6 b9 := fun b9 h9 => by rw [← eM7]; exact cpM_row h9
  refine J_aload_n hx dX5_becomeAs_109 (i := 1) rfl rfl ?_
  refine J_getR (b := f + 7) hx fl_X5_32 cl_X5 dX5_becomeAs_110 hTf.o (by decide) rfl hTf.r6 ?_
  refine J_iconst (v := 1) hx dX5_becomeAs_113 (by decide) ?_
  refine J_aald (b := f + 9) hx 1 dX5_becomeAs_114 hTf.k7 (by decide) (by omega) (hTf.l7 (by decide)) (hTf.f7 (by decide)) ?_
  refine J_iconst (v := 0) hx dX5_becomeAs_115 (by decide) ?_
  refine J_aload_n hx dX5_becomeAs_116 (i := 0) rfl rfl ?_
  refine J_getR (b := r + 7) hx fl_X5_32 cl_X5 dX5_becomeAs_117 hT.o (by decide) rfl hT.r6 ?_
  refine J_iconst (v := 1) hx dX5_becomeAs_120 (by decide) ?_
  refine J_aald (b := r + 9) hx 1 dX5_becomeAs_121 hT.k7 (by decide) (by omega) (hT.l7 (by decide)) (hT.f7 (by decide)) ?_
  refine J_iconst (v := 0) hx dX5_becomeAs_122 (by decide) ?_
  refine J_bipush (v := 8) hx dX5_becomeAs_123 (by decide) ?_
  refine J_copyI (st := []) hx 0 0 8 lk_X5_51 dX5_becomeAs_125 (hTf.kl (c := 1) (by decide)) (hT.kl (c := 1) (by decide)) rfl rfl rfl (by have h9 := hTf.ll (c := 1) (k := 7) (by decide) (by decide); exact h9) (by have h9 := hT.ll (c := 1) (k := 7) (by decide) (by decide); exact h9) (Nat.le_of_ble_eq_true rfl) ?_
  generalize eM8 : cpM M7 (f + 9) (r + 9) 0 0 8 = M8
  have hM8a : ∀ j9, j9 < 8 → M8 (r + 9) j9 = M7 (f + 9) j9 := fun j9 h9 => by rw [← eM8, cpM_at (by omega)]; congr 1; omega
  have hM8r : ∀ b9, b9 ≠ r + 9 → M8 b9 = M7 b9 := fun b9 h9 => by rw [← eM8]; exact cpM_row h9
  refine J_aload_n hx dX5_becomeAs_128 (i := 0) rfl rfl ?_
  refine J_getR (b := r + 10) hx fl_X5_35 cl_X5 dX5_becomeAs_129 hT.o (by decide) rfl hT.r7 ?_
  refine J_iconst (v := 0) hx dX5_becomeAs_132 (by decide) ?_
  refine J_aload_n hx dX5_becomeAs_133 (i := 1) rfl rfl ?_
  refine J_getR (b := f + 10) hx fl_X5_35 cl_X5 dX5_becomeAs_134 hTf.o (by decide) rfl hTf.r7 ?_
  refine J_iconst (v := 0) hx dX5_becomeAs_137 (by decide) ?_
  refine J_iald2 (v := (((B.ch 0).length : Nat) : Int)) hx 0 dX5_becomeAs_138 hTf.k10 (by omega) (hTf.l10 (by decide)) (by rw [hM8r _ (by omega), hM7r _ (by omega), hM6r _ (by omega), hM5r _ (by omega), hM4r _ (by omega), hM3r _ (by omega), hM2r _ (by omega), hM1r _ (by omega)]; exact hNf.sz (by decide)) ?_
  refine J_iast hx 0 dX5_becomeAs_139 hT.k10 (by omega) (hT.l10 (by decide)) ?_
  generalize eM9 : up2 M8 (r + 10) 0 (((B.ch 0).length : Nat) : Int) = M9
  have hM9a : M9 (r + 10) 0 = (((B.ch 0).length : Nat) : Int) := by rw [← eM9]; exact up2_at
  have hM9o : ∀ b9 j9, (b9 ≠ r + 10 ∨ j9 ≠ 0) → M9 b9 j9 = M8 b9 j9 := fun b9 j9 h9 => by rw [← eM9]; exact up2_ne h9
  have hM9r : ∀ b9, b9 ≠ r + 10 → M9 b9 = M8 b9 := fun b9 h9 => by rw [← eM9]; exact up2_row h9
  refine J_aload_n hx dX5_becomeAs_140 (i := 0) rfl rfl ?_
  refine J_getR (b := r + 10) hx fl_X5_35 cl_X5 dX5_becomeAs_141 hT.o (by decide) rfl hT.r7 ?_
  refine J_iconst (v := 1) hx dX5_becomeAs_144 (by decide) ?_
  refine J_aload_n hx dX5_becomeAs_145 (i := 1) rfl rfl ?_
  refine J_getR (b := f + 10) hx fl_X5_35 cl_X5 dX5_becomeAs_146 hTf.o (by decide) rfl hTf.r7 ?_
  refine J_iconst (v := 1) hx dX5_becomeAs_149 (by decide) ?_
  refine J_iald2 (v := (((B.ch 1).length : Nat) : Int)) hx 1 dX5_becomeAs_150 hTf.k10 (by omega) (hTf.l10 (by decide)) (by rw [hM9r _ (by omega), hM8r _ (by omega), hM7r _ (by omega), hM6r _ (by omega), hM5r _ (by omega), hM4r _ (by omega), hM3r _ (by omega), hM2r _ (by omega), hM1r _ (by omega)]; exact hNf.sz (by decide)) ?_
  refine J_iast hx 1 dX5_becomeAs_151 hT.k10 (by omega) (hT.l10 (by decide)) ?_
  generalize eM10 : up2 M9 (r + 10) 1 (((B.ch 1).length : Nat) : Int) = M10
  have hM10a : M10 (r + 10) 1 = (((B.ch 1).length : Nat) : Int) := by rw [← eM10]; exact up2_at
  have hM10o : ∀ b9 j9, (b9 ≠ r + 10 ∨ j9 ≠ 1) → M10 b9 j9 = M9 b9 j9 := fun b9 j9 h9 => by rw [← eM10]; exact up2_ne h9
  have hM10r : ∀ b9, b9 ≠ r + 10 → M10 b9 = M9 b9 := fun b9 h9 => by rw [← eM10]; exact up2_row h9
  refine J_aload_n hx dX5_becomeAs_152 (i := 0) rfl rfl ?_
  refine J_aload_n hx dX5_becomeAs_153 (i := 1) rfl rfl ?_
  refine J_getI2 (v := ((B.n : Nat) : Int)) hx fl_X5_57 cl_X5 dX5_becomeAs_154 hTf.o (by decide) rfl (by rw [hM10r _ (by omega), hM9r _ (by omega), hM8r _ (by omega), hM7r _ (by omega), hM6r _ (by omega), hM5r _ (by omega), hM4r _ (by omega), hM3r _ (by omega), hM2r _ (by omega), hM1r _ (by omega)]; exact hNf.pp) ?_
  refine J_putI hx fl_X5_57 cl_X5 dX5_becomeAs_157 hT.o (by decide) rfl (Or.inl rfl) (by decide) ?_
  generalize eM11 : up2 M10 r 8 ((B.n : Nat) : Int) = M11
  have hM11a : M11 r 8 = ((B.n : Nat) : Int) := by rw [← eM11]; exact up2_at
  have hM11o : ∀ b9 j9, (b9 ≠ r ∨ j9 ≠ 8) → M11 b9 j9 = M10 b9 j9 := fun b9 j9 h9 => by rw [← eM11]; exact up2_ne h9
  have hM11r : ∀ b9, b9 ≠ r → M11 b9 = M10 b9 := fun b9 h9 => by rw [← eM11]; exact up2_row h9
  refine J_aload_n hx dX5_becomeAs_160 (i := 0) rfl rfl ?_
  refine J_aload_n hx dX5_becomeAs_161 (i := 1) rfl rfl ?_
  refine J_getI2 (v := B.sc 1) hx fl_X5_38 cl_X5 dX5_becomeAs_162 hTf.o (by decide) rfl (by rw [hM11r _ (by omega), hM10r _ (by omega), hM9r _ (by omega), hM8r _ (by omega), hM7r _ (by omega), hM6r _ (by omega), hM5r _ (by omega), hM4r _ (by omega), hM3r _ (by omega), hM2r _ (by omega), hM1r _ (by omega)]; exact hNf.s1) ?_
  refine J_putI hx fl_X5_38 cl_X5 dX5_becomeAs_165 hT.o (by decide) rfl (Or.inl rfl) (by decide) ?_
  generalize eM12 : up2 M11 r 9 (B.sc 1) = M12
  have hM12a : M12 r 9 = B.sc 1 := by rw [← eM12]; exact up2_at
  have hM12o : ∀ b9 j9, (b9 ≠ r ∨ j9 ≠ 9) → M12 b9 j9 = M11 b9 j9 := fun b9 j9 h9 => by rw [← eM12]; exact up2_ne h9
  have hM12r : ∀ b9, b9 ≠ r → M12 b9 = M11 b9 := fun b9 h9 => by rw [← eM12]; exact up2_row h9
  refine J_aload_n hx dX5_becomeAs_168 (i := 0) rfl rfl ?_
  refine J_aload_n hx dX5_becomeAs_169 (i := 1) rfl rfl ?_
  refine J_getI2 (v := B.sc 2) hx fl_X5_42 cl_X5 dX5_becomeAs_170 hTf.o (by decide) rfl (by rw [hM12r _ (by omega), hM11r _ (by omega), hM10r _ (by omega), hM9r _ (by omega), hM8r _ (by omega), hM7r _ (by omega), hM6r _ (by omega), hM5r _ (by omega), hM4r _ (by omega), hM3r _ (by omega), hM2r _ (by omega), hM1r _ (by omega)]; exact hNf.s2) ?_
  refine J_putI hx fl_X5_42 cl_X5 dX5_becomeAs_173 hT.o (by decide) rfl (Or.inl rfl) (by decide) ?_
  generalize eM13 : up2 M12 r 10 (B.sc 2) = M13
  have hM13a : M13 r 10 = B.sc 2 := by rw [← eM13]; exact up2_at
  have hM13o : ∀ b9 j9, (b9 ≠ r ∨ j9 ≠ 10) → M13 b9 j9 = M12 b9 j9 := fun b9 j9 h9 => by rw [← eM13]; exact up2_ne h9
  have hM13r : ∀ b9, b9 ≠ r → M13 b9 = M12 b9 := fun b9 h9 => by rw [← eM13]; exact up2_row h9
  refine J_aload_n hx dX5_becomeAs_176 (i := 0) rfl rfl ?_
  refine J_aload_n hx dX5_becomeAs_177 (i := 1) rfl rfl ?_
  refine J_getI2 (v := B.sc 3) hx fl_X5_60 cl_X5 dX5_becomeAs_178 hTf.o (by decide) rfl (by rw [hM13r _ (by omega), hM12r _ (by omega), hM11r _ (by omega), hM10r _ (by omega), hM9r _ (by omega), hM8r _ (by omega), hM7r _ (by omega), hM6r _ (by omega), hM5r _ (by omega), hM4r _ (by omega), hM3r _ (by omega), hM2r _ (by omega), hM1r _ (by omega)]; exact hNf.s3) ?_
  refine J_putI hx fl_X5_60 cl_X5 dX5_becomeAs_181 hT.o (by decide) rfl (Or.inl rfl) (by decide) ?_
  generalize eM14 : up2 M13 r 11 (B.sc 3) = M14
  have hM14a : M14 r 11 = B.sc 3 := by rw [← eM14]; exact up2_at
  have hM14o : ∀ b9 j9, (b9 ≠ r ∨ j9 ≠ 11) → M14 b9 j9 = M13 b9 j9 := fun b9 j9 h9 => by rw [← eM14]; exact up2_ne h9
  have hM14r : ∀ b9, b9 ≠ r → M14 b9 = M13 b9 := fun b9 h9 => by rw [← eM14]; exact up2_row h9
  refine J_aload_n hx dX5_becomeAs_184 (i := 0) rfl rfl ?_
  refine J_aload_n hx dX5_becomeAs_185 (i := 1) rfl rfl ?_
  refine J_getI2 (v := B.sc 4) hx fl_X5_45 cl_X5 dX5_becomeAs_186 hTf.o (by decide) rfl (by rw [hM14r _ (by omega), hM13r _ (by omega), hM12r _ (by omega), hM11r _ (by omega), hM10r _ (by omega), hM9r _ (by omega), hM8r _ (by omega), hM7r _ (by omega), hM6r _ (by omega), hM5r _ (by omega), hM4r _ (by omega), hM3r _ (by omega), hM2r _ (by omega), hM1r _ (by omega)]; exact hNf.s4) ?_
  refine J_putI hx fl_X5_45 cl_X5 dX5_becomeAs_189 hT.o (by decide) rfl (Or.inl rfl) (by decide) ?_
  generalize eM15 : up2 M14 r 12 (B.sc 4) = M15
  have hM15a : M15 r 12 = B.sc 4 := by rw [← eM15]; exact up2_at
  have hM15o : ∀ b9 j9, (b9 ≠ r ∨ j9 ≠ 12) → M15 b9 j9 = M14 b9 j9 := fun b9 j9 h9 => by rw [← eM15]; exact up2_ne h9
  have hM15r : ∀ b9, b9 ≠ r → M15 b9 = M14 b9 := fun b9 h9 => by rw [← eM15]; exact up2_row h9
  refine J_aload_n hx dX5_becomeAs_192 (i := 0) rfl rfl ?_
  refine J_aload_n hx dX5_becomeAs_193 (i := 1) rfl rfl ?_
  refine J_getI2 (v := B.sc 5) hx fl_X5_63 cl_X5 dX5_becomeAs_194 hTf.o (by decide) rfl (by rw [hM15r _ (by omega), hM14r _ (by omega), hM13r _ (by omega), hM12r _ (by omega), hM11r _ (by omega), hM10r _ (by omega), hM9r _ (by omega), hM8r _ (by omega), hM7r _ (by omega), hM6r _ (by omega), hM5r _ (by omega), hM4r _ (by omega), hM3r _ (by omega), hM2r _ (by omega), hM1r _ (by omega)]; exact hNf.s5) ?_
  refine J_putI hx fl_X5_63 cl_X5 dX5_becomeAs_197 hT.o (by decide) rfl (Or.inl rfl) (by decide) ?_
  generalize eM16 : up2 M15 r 13 (B.sc 5) = M16
  have hM16a : M16 r 13 = B.sc 5 := by rw [← eM16]; exact up2_at
  have hM16o : ∀ b9 j9, (b9 ≠ r ∨ j9 ≠ 13) → M16 b9 j9 = M15 b9 j9 := fun b9 j9 h9 => by rw [← eM16]; exact up2_ne h9
  have hM16r : ∀ b9, b9 ≠ r → M16 b9 = M15 b9 := fun b9 h9 => by rw [← eM16]; exact up2_row h9
  refine J_aload_n hx dX5_becomeAs_200 (i := 0) rfl rfl ?_
  refine J_aload_n hx dX5_becomeAs_201 (i := 1) rfl rfl ?_
  refine J_getI2 (v := B.sc 6) hx fl_X5_66 cl_X5 dX5_becomeAs_202 hTf.o (by decide) rfl (by rw [hM16r _ (by omega), hM15r _ (by omega), hM14r _ (by omega), hM13r _ (by omega), hM12r _ (by omega), hM11r _ (by omega), hM10r _ (by omega), hM9r _ (by omega), hM8r _ (by omega), hM7r _ (by omega), hM6r _ (by omega), hM5r _ (by omega), hM4r _ (by omega), hM3r _ (by omega), hM2r _ (by omega), hM1r _ (by omega)]; exact hNf.s6) ?_
  refine J_putI hx fl_X5_66 cl_X5 dX5_becomeAs_205 hT.o (by decide) rfl (Or.inl rfl) (by decide) ?_
  generalize eM17 : up2 M16 r 14 (B.sc 6) = M17
  have hM17a : M17 r 14 = B.sc 6 := by rw [← eM17]; exact up2_at
  have hM17o : ∀ b9 j9, (b9 ≠ r ∨ j9 ≠ 14) → M17 b9 j9 = M16 b9 j9 := fun b9 j9 h9 => by rw [← eM17]; exact up2_ne h9
  have hM17r : ∀ b9, b9 ≠ r → M17 b9 = M16 b9 := fun b9 h9 => by rw [← eM17]; exact up2_row h9
  refine J_aload_n hx dX5_becomeAs_208 (i := 0) rfl rfl ?_
  refine J_aload_n hx dX5_becomeAs_209 (i := 1) rfl rfl ?_
  refine J_getI2 (v := B.sc 7) hx fl_X5_48 cl_X5 dX5_becomeAs_210 hTf.o (by decide) rfl (by rw [hM17r _ (by omega), hM16r _ (by omega), hM15r _ (by omega), hM14r _ (by omega), hM13r _ (by omega), hM12r _ (by omega), hM11r _ (by omega), hM10r _ (by omega), hM9r _ (by omega), hM8r _ (by omega), hM7r _ (by omega), hM6r _ (by omega), hM5r _ (by omega), hM4r _ (by omega), hM3r _ (by omega), hM2r _ (by omega), hM1r _ (by omega)]; exact hNf.s7) ?_
  refine J_putI hx fl_X5_48 cl_X5 dX5_becomeAs_213 hT.o (by decide) rfl (Or.inl rfl) (by decide) ?_
  generalize eM18 : up2 M17 r 15 (B.sc 7) = M18
  have hM18a : M18 r 15 = B.sc 7 := by rw [← eM18]; exact up2_at
  have hM18o : ∀ b9 j9, (b9 ≠ r ∨ j9 ≠ 15) → M18 b9 j9 = M17 b9 j9 := fun b9 j9 h9 => by rw [← eM18]; exact up2_ne h9
  have hM18r : ∀ b9, b9 ≠ r → M18 b9 = M17 b9 := fun b9 h9 => by rw [← eM18]; exact up2_row h9
  refine J_vret hx hr dX5_becomeAs_216 ?_
  have hn8 := hW.n8
  have hl0 := hW.len8 (c := 0) (by decide)
  have hl1 := hW.len8 (c := 1) (by decide)
  refine hQ M18 ⟨fun f9 hf9 i hi => ?_, fun p hp => ?_, fun c9 hc9 k9 hk9 => ?_, fun c9 hc9 => ?_, ?_, fun q h1 h2 => ?_⟩ (fun a9 ha9 => by rw [hM18r a9 (by omega), hM17r a9 (by omega), hM16r a9 (by omega), hM15r a9 (by omega), hM14r a9 (by omega), hM13r a9 (by omega), hM12r a9 (by omega), hM11r a9 (by omega), hM10r a9 (by omega), hM9r a9 (by omega), hM8r a9 (by omega), hM7r a9 (by omega), hM6r a9 (by omega), hM5r a9 (by omega), hM4r a9 (by omega), hM3r a9 (by omega), hM2r a9 (by omega), hM1r a9 (by omega)])
  · rcases (show f9 = 0 ∨ f9 = 1 ∨ f9 = 2 ∨ f9 = 3 ∨ f9 = 4 by omega) with rfl | rfl | rfl | rfl | rfl
    · rw [show r + 1 + 0 = r + 1 by omega]; rw [hM18r _ (by omega), hM17r _ (by omega), hM16r _ (by omega), hM15r _ (by omega), hM14r _ (by omega), hM13r _ (by omega), hM12r _ (by omega), hM11r _ (by omega), hM10r _ (by omega), hM9r _ (by omega), hM8r _ (by omega), hM7r _ (by omega), hM6r _ (by omega), hM5r _ (by omega), hM4r _ (by omega), hM3r _ (by omega), hM2r _ (by omega), hM1a _ (by omega)]; exact hNf.1 0 (by decide) i hi
    · rw [show r + 1 + 1 = r + 2 by omega]; rw [hM18r _ (by omega), hM17r _ (by omega), hM16r _ (by omega), hM15r _ (by omega), hM14r _ (by omega), hM13r _ (by omega), hM12r _ (by omega), hM11r _ (by omega), hM10r _ (by omega), hM9r _ (by omega), hM8r _ (by omega), hM7r _ (by omega), hM6r _ (by omega), hM5r _ (by omega), hM4r _ (by omega), hM3r _ (by omega), hM2a _ (by omega), hM1r _ (by omega)]; exact hNf.1 1 (by decide) i hi
    · rw [show r + 1 + 2 = r + 3 by omega]; rw [hM18r _ (by omega), hM17r _ (by omega), hM16r _ (by omega), hM15r _ (by omega), hM14r _ (by omega), hM13r _ (by omega), hM12r _ (by omega), hM11r _ (by omega), hM10r _ (by omega), hM9r _ (by omega), hM8r _ (by omega), hM7r _ (by omega), hM6r _ (by omega), hM5r _ (by omega), hM4r _ (by omega), hM3a _ (by omega), hM2r _ (by omega), hM1r _ (by omega)]; exact hNf.1 2 (by decide) i hi
    · rw [show r + 1 + 3 = r + 4 by omega]; rw [hM18r _ (by omega), hM17r _ (by omega), hM16r _ (by omega), hM15r _ (by omega), hM14r _ (by omega), hM13r _ (by omega), hM12r _ (by omega), hM11r _ (by omega), hM10r _ (by omega), hM9r _ (by omega), hM8r _ (by omega), hM7r _ (by omega), hM6r _ (by omega), hM5r _ (by omega), hM4a _ (by omega), hM3r _ (by omega), hM2r _ (by omega), hM1r _ (by omega)]; exact hNf.1 3 (by decide) i hi
    · rw [show r + 1 + 4 = r + 5 by omega]; rw [hM18r _ (by omega), hM17r _ (by omega), hM16r _ (by omega), hM15r _ (by omega), hM14r _ (by omega), hM13r _ (by omega), hM12r _ (by omega), hM11r _ (by omega), hM10r _ (by omega), hM9r _ (by omega), hM8r _ (by omega), hM7r _ (by omega), hM6r _ (by omega), hM5a _ (by omega), hM4r _ (by omega), hM3r _ (by omega), hM2r _ (by omega), hM1r _ (by omega)]; exact hNf.1 4 (by decide) i hi
  · rw [hM18r _ (by omega), hM17r _ (by omega), hM16r _ (by omega), hM15r _ (by omega), hM14r _ (by omega), hM13r _ (by omega), hM12r _ (by omega), hM11r _ (by omega), hM10r _ (by omega), hM9r _ (by omega), hM8r _ (by omega), hM7r _ (by omega), hM6a _ (by omega), hM5r _ (by omega), hM4r _ (by omega), hM3r _ (by omega), hM2r _ (by omega), hM1r _ (by omega)]; exact hNf.hm hp
  · rcases (show c9 = 0 ∨ c9 = 1 by omega) with rfl | rfl
    · rw [show r + 8 + 0 = r + 8 by omega]; rw [hM18r _ (by omega), hM17r _ (by omega), hM16r _ (by omega), hM15r _ (by omega), hM14r _ (by omega), hM13r _ (by omega), hM12r _ (by omega), hM11r _ (by omega), hM10r _ (by omega), hM9r _ (by omega), hM8r _ (by omega), hM7a _ (by omega), hM6r _ (by omega), hM5r _ (by omega), hM4r _ (by omega), hM3r _ (by omega), hM2r _ (by omega), hM1r _ (by omega)]; exact hNf.ln (c := 0) (by decide) hk9
    · rw [show r + 8 + 1 = r + 9 by omega]; rw [hM18r _ (by omega), hM17r _ (by omega), hM16r _ (by omega), hM15r _ (by omega), hM14r _ (by omega), hM13r _ (by omega), hM12r _ (by omega), hM11r _ (by omega), hM10r _ (by omega), hM9r _ (by omega), hM8a _ (by omega), hM7r _ (by omega), hM6r _ (by omega), hM5r _ (by omega), hM4r _ (by omega), hM3r _ (by omega), hM2r _ (by omega), hM1r _ (by omega)]; exact hNf.ln (c := 1) (by decide) hk9
  · rcases (show c9 = 0 ∨ c9 = 1 by omega) with rfl | rfl
    · rw [hM18r _ (by omega), hM17r _ (by omega), hM16r _ (by omega), hM15r _ (by omega), hM14r _ (by omega), hM13r _ (by omega), hM12r _ (by omega), hM11r _ (by omega), hM10o _ _ (Or.inr (by decide)), hM9a]
    · rw [hM18r _ (by omega), hM17r _ (by omega), hM16r _ (by omega), hM15r _ (by omega), hM14r _ (by omega), hM13r _ (by omega), hM12r _ (by omega), hM11r _ (by omega), hM10a]
  · rw [hM18o _ _ (Or.inr (by decide)), hM17o _ _ (Or.inr (by decide)), hM16o _ _ (Or.inr (by decide)), hM15o _ _ (Or.inr (by decide)), hM14o _ _ (Or.inr (by decide)), hM13o _ _ (Or.inr (by decide)), hM12o _ _ (Or.inr (by decide)), hM11a]
  · rcases (show q = 1 ∨ q = 2 ∨ q = 3 ∨ q = 4 ∨ q = 5 ∨ q = 6 ∨ q = 7 by omega) with rfl | rfl | rfl | rfl | rfl | rfl | rfl
    · rw [show 8 + 1 = 9 from rfl]; rw [hM18o _ _ (Or.inr (by decide)), hM17o _ _ (Or.inr (by decide)), hM16o _ _ (Or.inr (by decide)), hM15o _ _ (Or.inr (by decide)), hM14o _ _ (Or.inr (by decide)), hM13o _ _ (Or.inr (by decide)), hM12a]
    · rw [show 8 + 2 = 10 from rfl]; rw [hM18o _ _ (Or.inr (by decide)), hM17o _ _ (Or.inr (by decide)), hM16o _ _ (Or.inr (by decide)), hM15o _ _ (Or.inr (by decide)), hM14o _ _ (Or.inr (by decide)), hM13a]
    · rw [show 8 + 3 = 11 from rfl]; rw [hM18o _ _ (Or.inr (by decide)), hM17o _ _ (Or.inr (by decide)), hM16o _ _ (Or.inr (by decide)), hM15o _ _ (Or.inr (by decide)), hM14a]
    · rw [show 8 + 4 = 12 from rfl]; rw [hM18o _ _ (Or.inr (by decide)), hM17o _ _ (Or.inr (by decide)), hM16o _ _ (Or.inr (by decide)), hM15a]
    · rw [show 8 + 5 = 13 from rfl]; rw [hM18o _ _ (Or.inr (by decide)), hM17o _ _ (Or.inr (by decide)), hM16a]
    · rw [show 8 + 6 = 14 from rfl]; rw [hM18o _ _ (Or.inr (by decide)), hM17a]
    · rw [show 8 + 7 = 15 from rfl]; rw [hM18a]

theorem YN.fr {M M' : MM} {r f : Nat} {A : YA} (h : YN M r A) (hF : FrY f M M') (hd : r + 11 ≤ f ∨ f + 11 ≤ r) : YN M' r A := by
  obtain ⟨h1, h2, h3, h4, h5, h6⟩ := h
  refine ⟨fun f9 hf9 i hi => ?_, fun p hp => ?_, fun c hc k hk => ?_, fun c hc => ?_, ?_, fun q a b => ?_⟩
  · rw [hF _ (by omega)]; exact h1 f9 hf9 i hi
  · rw [hF _ (by omega)]; exact h2 p hp
  · rw [hF _ (by omega)]; exact h3 c hc k hk
  · rw [hF _ (by omega)]; exact h4 c hc
  · rw [hF _ (by omega)]; exact h5
  · rw [hF _ (by omega)]; exact h6 q a b
theorem YN.same {M M' : MM} {r : Nat} {A : YA} (h : YN M r A) (hF : ∀ a, r ≤ a → a < r + 11 → M' a = M a) : YN M' r A := by
  obtain ⟨h1, h2, h3, h4, h5, h6⟩ := h
  refine ⟨fun f9 hf9 i hi => ?_, fun p hp => ?_, fun c hc k hk => ?_, fun c hc => ?_, ?_, fun q a b => ?_⟩
  · rw [hF _ (by omega) (by omega)]; exact h1 f9 hf9 i hi
  · rw [hF _ (by omega) (by omega)]; exact h2 p hp
  · rw [hF _ (by omega) (by omega)]; exact h3 c hc k hk
  · rw [hF _ (by omega) (by omega)]; exact h4 c hc
  · rw [hF _ (by omega) (by omega)]; exact h5
  · rw [hF _ (by omega) (by omega)]; exact h6 q a b