theorem srt_1 (b : Int) : srtI b = 1 ↔ 97 ≤ b ∧ b ≤ 122 := by unfold srtI; constructor <;> intro h <;> (repeat' split at *) <;> omega
theorem srt_2 (b : Int) : srtI b = 2 ↔ 48 ≤ b ∧ b ≤ 57 := by unfold srtI; constructor <;> intro h <;> (repeat' split at *) <;> omega
def fgT (B : Nat → Int) (tk : TK) : Int := if tk.2.1 = 2 then (if 2 < tk.2.2 - tk.1 then 1000 else vlT B tk) else 0
def fgD (B : Nat → Int) (s t : Nat) : Int := if t - s = 0 then 0 else if t - s = 1 then B s - 48 else if t - s = 2 then 10 * (B s - 48) + (B (s + 1) - 48) else 1000
theorem fgD_T {B : Nat → Int} {s t : Nat} (h : s < t) : fgT B (s, 2, t) = fgD B s t := by
  unfold fgT fgD vlT
  dsimp only
  rw [if_pos rfl]
  (repeat' split) <;> first | rfl | omega
theorem fgT_rg {B : Nat → Int} {z : Nat} {tk : TK} (h : wfT B z tk) : 0 ≤ fgT B tk ∧ fgT B tk ≤ 1000 := by
  unfold fgT
  split
  · rename_i e
    have := vlT_rg h e
    obtain ⟨a1, a2, a3, a4, a5, a6, a7⟩ := h
    have h6 := a6 (by omega)
    have h7 := a7 e tk.1 (Nat.le_refl _) h6
    split
    · omega
    · unfold vlT
      rw [if_neg (by assumption)]
      split
      · have h8 := a7 e (tk.1 + 1) (by omega) (by omega); omega
      · split <;> omega
  · omega
theorem okT_f {B : Nat → Int} {tk : TK} {lo hi : Int} (hlo : 0 ≤ lo) (hhi : hi < 1000) : okT B tk lo hi = true ↔ (tk.2.1 = 2 ∧ lo ≤ fgT B tk ∧ fgT B tk ≤ hi) := by
  unfold okT
  rw [decide_eq_true_eq]
  constructor
  · rintro ⟨h1, h2, h3⟩
    unfold fgT
    rw [if_pos h1]
    split
    · rename_i e; unfold vlT at h2; rw [if_pos e] at h2; omega
    · exact ⟨h1, h2, h3⟩
  · rintro ⟨h1, h2, h3⟩
    unfold fgT at h2 h3
    rw [if_pos h1] at h2 h3
    split at h2
    · rename_i e; rw [if_pos e] at h3; omega
    · rename_i e; rw [if_neg e] at h3; exact ⟨h1, h2, h3⟩
theorem okT_v {B : Nat → Int} {tk : TK} {lo hi : Int} (hlo : 0 ≤ lo) (h : okT B tk lo hi = true) : fgT B tk = vlT B tk := by
  have h1 := okT_t h
  unfold fgT
  rw [if_pos h1.1]
  split
  · rename_i e
    have h2 := h1.2.1
    unfold vlT at h2; rw [if_pos e] at h2; omega
  · rfl
def RPE (M : MM) (r z : Nat) (B : Nat → Int) : Prop := M r 7 = ((z : Nat) : Int) ∧ z ≤ 250 ∧ ∀ j, j < z → M (r + 15) j = B j ∧ 0 ≤ B j ∧ B j ≤ 255
theorem RPE.z {M : MM} {r z : Nat} {B : Nat → Int} (h : RPE M r z B) : M r 7 = ((z : Nat) : Int) := h.1
theorem RPE.z2 {M : MM} {r z : Nat} {B : Nat → Int} (h : RPE M r z B) : z ≤ 250 := h.2.1
theorem RPE.b {M : MM} {r z : Nat} {B : Nat → Int} (h : RPE M r z B) {j : Nat} (hj : j < z) : M (r + 15) j = B j := (h.2.2 j hj).1
theorem RPE.rg {M : MM} {r z : Nat} {B : Nat → Int} (h : RPE M r z B) {j : Nat} (hj : j < z) : 0 ≤ B j ∧ B j ≤ 255 := (h.2.2 j hj).2
def TPr (M : MM) (r : Nat) (B : Nat → Int) (tk : TK) : Prop := M r 27 = ((tk.2.2 : Nat) : Int) ∧ M r 28 = tk.2.1 ∧ M r 29 = ((tk.1 : Nat) : Int) ∧ M r 30 = fgT B tk
def FrL (r : Nat) (M M' : MM) : Prop := ∀ a j, ¬ (a = r ∧ 27 ≤ j ∧ j ≤ 30) → M' a j = M a j
theorem FrL.rf {r : Nat} {M : MM} : FrL r M M := fun _ _ _ => rfl
theorem FrL.tr {r : Nat} {M M1 M2 : MM} (h : FrL r M M1) (h2 : FrL r M1 M2) : FrL r M M2 := fun a j h3 => (h2 a j h3).trans (h a j h3)
theorem RPE.l {M M' : MM} {r z : Nat} {B : Nat → Int} (h : RPE M r z B) (hF : FrL r M M') : RPE M' r z B := ⟨by rw [hF _ _ (by omega)]; exact h.1, h.2.1, fun j hj => by rw [hF _ _ (by omega)]; exact h.2.2 j hj⟩
/-- a statement may change the yard, the token, the fault, what is told -/
def FrW (r : Nat) (M M' : MM) : Prop := ∀ a j, ¬ (a = r ∧ ((27 ≤ j ∧ j ≤ 31) ∨ j = 9 ∨ (17 ≤ j ∧ j ≤ 23))) → ¬ (r + 17 ≤ a ∧ a ≤ r + 26) → M' a j = M a j
theorem FrW.rf {r : Nat} {M : MM} : FrW r M M := fun _ _ _ _ => rfl
theorem FrW.tr {r : Nat} {M M1 M2 : MM} (h : FrW r M M1) (h2 : FrW r M1 M2) : FrW r M M2 := fun a j h3 h4 => (h2 a j h3 h4).trans (h a j h3 h4)
theorem FrW.l {r : Nat} {M M' : MM} (h : FrL r M M') : FrW r M M' := fun a j h3 h4 => h a j (by omega)
theorem FrW.n {r : Nat} {M M' : MM} (h : FrN r M M') : FrW r M M' := fun a j h3 h4 => h a j (by omega) (by omega)
theorem RPE.w {M M' : MM} {r z : Nat} {B : Nat → Int} (h : RPE M r z B) (hF : FrW r M M') : RPE M' r z B := ⟨by rw [hF _ _ (by omega) (by omega)]; exact h.1, h.2.1, fun j hj => by rw [hF _ _ (by omega) (by omega)]; exact h.2.2 j hj⟩
theorem MN.l {M M' : MM} {r : Nat} {A : YA} (h : MN M r A) (hF : FrL r M M') : MN M' r A := h.same (fun a j ha => hF a j (by omega))
theorem TPr.n {M M' : MM} {r : Nat} {B : Nat → Int} {tk : TK} (h : TPr M r B tk) (hF : FrN r M M') : TPr M' r B tk := ⟨by rw [hF _ _ (by omega) (by omega)]; exact h.1, by rw [hF _ _ (by omega) (by omega)]; exact h.2.1, by rw [hF _ _ (by omega) (by omega)]; exact h.2.2.1, by rw [hF _ _ (by omega) (by omega)]; exact h.2.2.2⟩
/-- a number: the token, the fault, what is told -/
def FrM (r : Nat) (M M' : MM) : Prop := ∀ a j, ¬ (a = r ∧ 27 ≤ j ∧ j ≤ 31) → a ≠ r + 26 → M' a j = M a j
theorem FrM.w {r : Nat} {M M' : MM} (h : FrM r M M') : FrW r M M' := fun a j h3 h4 => h a j (by omega) (by omega)
theorem MN.m {M M' : MM} {r : Nat} {A : YA} (h : MN M r A) (hF : FrM r M M') : MN M' r A := h.same (fun a j ha => hF a j (by omega) (by omega))
set_option maxHeartbeats 4000000 in
theorem c_X7_isLetter {g : WG} {d : Nat} {T : TT} {M : MM} {sz : Nat} {Q : MVal → TT → MM → Nat → Prop} {b : Int} (hQ : ∀ v : Int, ((v = 1 ∧ (97 ≤ b ∧ b ≤ 122)) ∨ (v = 0 ∧ ¬ (97 ≤ b ∧ b ≤ 122))) → Q (vI v) T M sz) : Ct g (d + 1) mX7_isLetter [vI (b)] T M sz 0 0 Q := by
  refine Ct_of2 (ls := [vI (b)]) okX7_isLetter rfl (Nat.le_of_ble_eq_true rfl) rfl ?_
  intro x hx hr hnm
  refine J_iload_n hx dX7_isLetter_0 (i := 0) rfl rfl ?_
  refine J_bipush (v := 97) hx dX7_isLetter_1 (by decide) ?_
  refine J_icmp_lt (tgt := 16) hx dX7_isLetter_3 (by decide) (fun c1 => ?_) (fun c1 => ?_)
  · refine J_iconst (v := 0) hx dX7_isLetter_16 (by decide) ?_
    refine J_zret hx hr dX7_isLetter_17 (by omega) ?_
    exact hQ _ (by omega)
  · refine J_iload_n hx dX7_isLetter_6 (i := 0) rfl rfl ?_
    refine J_bipush (v := 122) hx dX7_isLetter_7 (by decide) ?_
    refine J_icmp_gt (tgt := 16) hx dX7_isLetter_9 (by decide) (fun c2 => ?_) (fun c2 => ?_)
    · refine J_iconst (v := 0) hx dX7_isLetter_16 (by decide) ?_
      refine J_zret hx hr dX7_isLetter_17 (by omega) ?_
      exact hQ _ (by omega)
    · refine J_iconst (v := 1) hx dX7_isLetter_12 (by decide) ?_
      refine J_goto (tgt := 17) hx dX7_isLetter_13 (by decide) ?_
      refine J_zret hx hr dX7_isLetter_17 (by omega) ?_
      exact hQ _ (by omega)

set_option maxHeartbeats 4000000 in
theorem c_X7_isDigit {g : WG} {d : Nat} {T : TT} {M : MM} {sz : Nat} {Q : MVal → TT → MM → Nat → Prop} {b : Int} (hQ : ∀ v : Int, ((v = 1 ∧ (48 ≤ b ∧ b ≤ 57)) ∨ (v = 0 ∧ ¬ (48 ≤ b ∧ b ≤ 57))) → Q (vI v) T M sz) : Ct g (d + 1) mX7_isDigit [vI (b)] T M sz 0 0 Q := by
  refine Ct_of2 (ls := [vI (b)]) okX7_isDigit rfl (Nat.le_of_ble_eq_true rfl) rfl ?_
  intro x hx hr hnm
  refine J_iload_n hx dX7_isDigit_0 (i := 0) rfl rfl ?_
  refine J_bipush (v := 48) hx dX7_isDigit_1 (by decide) ?_
  refine J_icmp_lt (tgt := 16) hx dX7_isDigit_3 (by decide) (fun c1 => ?_) (fun c1 => ?_)
  · refine J_iconst (v := 0) hx dX7_isDigit_16 (by decide) ?_
    refine J_zret hx hr dX7_isDigit_17 (by omega) ?_
    exact hQ _ (by omega)
  · refine J_iload_n hx dX7_isDigit_6 (i := 0) rfl rfl ?_
    refine J_bipush (v := 57) hx dX7_isDigit_7 (by decide) ?_
    refine J_icmp_gt (tgt := 16) hx dX7_isDigit_9 (by decide) (fun c2 => ?_) (fun c2 => ?_)
    · refine J_iconst (v := 0) hx dX7_isDigit_16 (by decide) ?_
      refine J_zret hx hr dX7_isDigit_17 (by omega) ?_
      exact hQ _ (by omega)
    · refine J_iconst (v := 1) hx dX7_isDigit_12 (by decide) ?_
      refine J_goto (tgt := 17) hx dX7_isDigit_13 (by decide) ?_
      refine J_zret hx hr dX7_isDigit_17 (by omega) ?_
      exact hQ _ (by omega)

set_option maxHeartbeats 4000000 in
theorem lp2_X7_look {g : WG} {d : Nat} {T : TT} {M : MM} {r sz z : Nat} {B : Nat → Int} {Q : MVal → TT → MM → Nat → Prop} (hT : MT T r) (hE : RPE M r z B) {s : Nat} (t : Nat) {x : CX} (hx : OKx g x RX7 cX7_look (d + 2)) (hr : RTx g x none Q) (hQ : ∀ M', TPr M' r B (s, 1, rnN B z 1 t) → FrL r M M' → Q vU T M' sz) (M1 : MM) (ht : t ≤ z) (hE1 : RPE M1 r z B) (h27 : M1 r 27 = ((t : Nat) : Int)) (h28 : M1 r 28 = 1) (h29 : M1 r 29 = ((s : Nat) : Int)) (h30 : M1 r 30 = 0) (hF1 : FrL r M M1) : Jd g x 90 [vR (r)] [] T M1 sz 0 0 := by
  have hz2 := hE1.z2
  refine J_aload_n hx dX7_look_90 (i := 0) rfl rfl ?_
  refine J_getI2 (v := ((t : Nat) : Int)) hx fl_X7_166 cl_X7 dX7_look_91 hT.o (by decide) rfl h27 ?_
  refine J_aload_n hx dX7_look_94 (i := 0) rfl rfl ?_
  refine J_getI2 (v := ((z : Nat) : Int)) hx fl_X7_163 cl_X7 dX7_look_95 hT.o (by decide) rfl hE1.z ?_
  refine J_icmp_ge (tgt := 264) hx dX7_look_98 (by decide) (fun c1 => ?_) (fun c1 => ?_)
  · refine J_vret hx hr dX7_look_264 ?_
    rw [rnN_st (e := t) (by omega)] at hQ
    exact hQ M1 ⟨h27, h28, h29, h30⟩ hF1
  · refine J_aload_n hx dX7_look_101 (i := 0) rfl rfl ?_
    refine J_getR (b := r + 15) hx fl_X7_31 cl_X7 dX7_look_102 hT.o (by decide) rfl hT.r6 ?_
    refine J_aload_n hx dX7_look_105 (i := 0) rfl rfl ?_
    refine J_getI2 (v := ((t : Nat) : Int)) hx fl_X7_166 cl_X7 dX7_look_106 hT.o (by decide) rfl h27 ?_
    refine J_iald2 (v := B t) hx t dX7_look_109 hT.k15 (by omega) (hT.l15 (by omega)) (by exact hE1.b (by omega)) ?_
    have rgb2 := hE1.rg (j := t) (by omega)
    refine J_invS (As := [vI (B t)]) (st := []) hx lk_X7_178 okX7_isLetter dX7_look_110 rfl rfl (Nat.le_of_ble_eq_true rfl) (Nat.zero_add _).symm (Nat.zero_add _).symm rfl (c_X7_isLetter (b := B t) ?_)
    intro v3 hv3
    have k1v3 := srt_1 (B t)
    have k2v3 := srt_2 (B t)
    refine J_if_eq (tgt := 264) hx dX7_look_113 (by decide) (fun c4 => ?_) (fun c4 => ?_)
    · refine J_vret hx hr dX7_look_264 ?_
      rw [rnN_st (e := t) (by omega)] at hQ
      exact hQ M1 ⟨h27, h28, h29, h30⟩ hF1
    · refine J_aload_n hx dX7_look_116 (i := 0) rfl rfl ?_
      refine J_dup hx dX7_look_117 rfl ?_
      refine J_getI2 (v := ((t : Nat) : Int)) hx fl_X7_166 cl_X7 dX7_look_118 hT.o (by decide) rfl h27 ?_
      refine J_iconst (v := 1) hx dX7_look_121 (by decide) ?_
      refine J_iadd (v := ((t : Nat) : Int) + 1) hx dX7_look_122 (w32_id (by omega) (by omega)) ?_
      refine J_putI hx fl_X7_166 cl_X7 dX7_look_123 hT.o (by decide) rfl (Or.inl rfl) (by decide) ?_
      generalize eM2 : up2 M1 r 27 (((t : Nat) : Int) + 1) = M2
      have hM2a : M2 r 27 = ((t : Nat) : Int) + 1 := by rw [← eM2]; exact up2_at
      have hM2o : ∀ b9 j9, (b9 ≠ r ∨ j9 ≠ 27) → M2 b9 j9 = M1 b9 j9 := fun b9 j9 h9 => by rw [← eM2]; exact up2_ne h9
      have hM2r : ∀ b9, b9 ≠ r → M2 b9 = M1 b9 := fun b9 h9 => by rw [← eM2]; exact up2_row h9
      refine J_goto (tgt := 90) hx dX7_look_126 (by decide) ?_
      rw [rnN_go (e := t) (by omega)] at hQ
      exact lp2_X7_look hT hE (t + 1) hx hr hQ M2 (by omega) (hE1.l (fun a9 j9 h9 => hM2o _ _ (by omega))) (by first | (rw [hM2a]; done) | (rw [hM2a]; rfl)) (by rw [hM2o _ _ (Or.inr (by decide))]; exact h28) (by rw [hM2o _ _ (Or.inr (by decide))]; exact h29) (by rw [hM2o _ _ (Or.inr (by decide))]; exact h30) (fun a9 j9 h9 => by rw [hM2o _ _ (by omega)]; exact hF1 a9 j9 h9)
termination_by z - t
decreasing_by all_goals omega

set_option maxHeartbeats 4000000 in
theorem lp3_X7_look {g : WG} {d : Nat} {T : TT} {M : MM} {r sz z : Nat} {B : Nat → Int} {Q : MVal → TT → MM → Nat → Prop} (hT : MT T r) (hE : RPE M r z B) {s : Nat} (t : Nat) {x : CX} (hx : OKx g x RX7 cX7_look (d + 2)) (hr : RTx g x none Q) (hQ : ∀ M', TPr M' r B (s, 2, rnN B z 2 t) → FrL r M M' → Q vU T M' sz) (M1 : MM) (ht : t ≤ z) (hst : s ≤ t) (hnz : s < t ∨ (t < z ∧ srtI (B t) = 2)) (hds : s < t → 48 ≤ B s ∧ B s ≤ 57) (hfg : 0 ≤ fgD B s t ∧ fgD B s t ≤ 1000) (hE1 : RPE M1 r z B) (h27 : M1 r 27 = ((t : Nat) : Int)) (h28 : M1 r 28 = 2) (h29 : M1 r 29 = ((s : Nat) : Int)) (h30 : M1 r 30 = fgD B s t) (hF1 : FrL r M M1) : Jd g x 149 [vR (r)] [] T M1 sz 0 0 := by
  have hz2 := hE1.z2
  have hf2 : t = s → fgD B s t = 0 := fun e => by unfold fgD; rw [if_pos (by omega)]
  have hf3 : t = s + 1 → fgD B s t = B s - 48 := fun e => by unfold fgD; rw [if_neg (by omega), if_pos (by omega)]
  have hdd : s < t → t < s + 2 → True := fun _ _ => trivial
  refine J_aload_n hx dX7_look_149 (i := 0) rfl rfl ?_
  refine J_getI2 (v := ((t : Nat) : Int)) hx fl_X7_166 cl_X7 dX7_look_150 hT.o (by decide) rfl h27 ?_
  refine J_aload_n hx dX7_look_153 (i := 0) rfl rfl ?_
  refine J_getI2 (v := ((z : Nat) : Int)) hx fl_X7_163 cl_X7 dX7_look_154 hT.o (by decide) rfl hE1.z ?_
  refine J_icmp_ge (tgt := 264) hx dX7_look_157 (by decide) (fun c1 => ?_) (fun c1 => ?_)
  · refine J_vret hx hr dX7_look_264 ?_
    rw [rnN_st (e := t) (by omega)] at hQ
    first
    | exact hQ M1 ⟨h27, h28, h29, by rw [h30, fgD_T (by omega)]⟩ hF1
    | (exfalso; omega)
  · refine J_aload_n hx dX7_look_160 (i := 0) rfl rfl ?_
    refine J_getR (b := r + 15) hx fl_X7_31 cl_X7 dX7_look_161 hT.o (by decide) rfl hT.r6 ?_
    refine J_aload_n hx dX7_look_164 (i := 0) rfl rfl ?_
    refine J_getI2 (v := ((t : Nat) : Int)) hx fl_X7_166 cl_X7 dX7_look_165 hT.o (by decide) rfl h27 ?_
    refine J_iald2 (v := B t) hx t dX7_look_168 hT.k15 (by omega) (hT.l15 (by omega)) (by exact hE1.b (by omega)) ?_
    have rgb2 := hE1.rg (j := t) (by omega)
    refine J_invS (As := [vI (B t)]) (st := []) hx lk_X7_181 okX7_isDigit dX7_look_169 rfl rfl (Nat.le_of_ble_eq_true rfl) (Nat.zero_add _).symm (Nat.zero_add _).symm rfl (c_X7_isDigit (b := B t) ?_)
    intro v3 hv3
    have k1v3 := srt_1 (B t)
    have k2v3 := srt_2 (B t)
    refine J_if_eq (tgt := 264) hx dX7_look_172 (by decide) (fun c4 => ?_) (fun c4 => ?_)
    · refine J_vret hx hr dX7_look_264 ?_
      rw [rnN_st (e := t) (by omega)] at hQ
      first
      | exact hQ M1 ⟨h27, h28, h29, by rw [h30, fgD_T (by omega)]⟩ hF1
      | (exfalso; omega)
    · refine J_aload_n hx dX7_look_175 (i := 0) rfl rfl ?_
      refine J_aload_n hx dX7_look_176 (i := 0) rfl rfl ?_
      refine J_getI2 (v := ((t : Nat) : Int)) hx fl_X7_166 cl_X7 dX7_look_177 hT.o (by decide) rfl h27 ?_
      refine J_aload_n hx dX7_look_180 (i := 0) rfl rfl ?_
      refine J_getI2 (v := ((s : Nat) : Int)) hx fl_X7_169 cl_X7 dX7_look_181 hT.o (by decide) rfl h29 ?_
      refine J_isub (v := ((t - s : Nat) : Int)) hx dX7_look_184 (by rw [w32_id (by omega) (by omega)]; omega) ?_
      refine J_iconst (v := 2) hx dX7_look_185 (by decide) ?_
      refine J_icmp_ge (tgt := 212) hx dX7_look_186 (by decide) (fun c5 => ?_) (fun c5 => ?_)
      · refine J_sipush (v := 1000) hx dX7_look_212 (by decide) ?_
        refine J_putI hx fl_X7_172 cl_X7 dX7_look_215 hT.o (by decide) rfl (Or.inl rfl) (by decide) ?_
        generalize eM2 : up2 M1 r 30 1000 = M2
        have hM2a : M2 r 30 = 1000 := by rw [← eM2]; exact up2_at
        have hM2o : ∀ b9 j9, (b9 ≠ r ∨ j9 ≠ 30) → M2 b9 j9 = M1 b9 j9 := fun b9 j9 h9 => by rw [← eM2]; exact up2_ne h9
        have hM2r : ∀ b9, b9 ≠ r → M2 b9 = M1 b9 := fun b9 h9 => by rw [← eM2]; exact up2_row h9
        refine J_aload_n hx dX7_look_218 (i := 0) rfl rfl ?_
        refine J_dup hx dX7_look_219 rfl ?_
        refine J_getI2 (v := ((t : Nat) : Int)) hx fl_X7_166 cl_X7 dX7_look_220 hT.o (by decide) rfl (by rw [hM2o _ _ (Or.inr (by decide))]; exact h27) ?_
        refine J_iconst (v := 1) hx dX7_look_223 (by decide) ?_
        refine J_iadd (v := ((t : Nat) : Int) + 1) hx dX7_look_224 (w32_id (by omega) (by omega)) ?_
        refine J_putI hx fl_X7_166 cl_X7 dX7_look_225 hT.o (by decide) rfl (Or.inl rfl) (by decide) ?_
        generalize eM3 : up2 M2 r 27 (((t : Nat) : Int) + 1) = M3
        have hM3a : M3 r 27 = ((t : Nat) : Int) + 1 := by rw [← eM3]; exact up2_at
        have hM3o : ∀ b9 j9, (b9 ≠ r ∨ j9 ≠ 27) → M3 b9 j9 = M2 b9 j9 := fun b9 j9 h9 => by rw [← eM3]; exact up2_ne h9
        have hM3r : ∀ b9, b9 ≠ r → M3 b9 = M2 b9 := fun b9 h9 => by rw [← eM3]; exact up2_row h9
        refine J_goto (tgt := 149) hx dX7_look_228 (by decide) ?_
        rw [rnN_go (e := t) (by omega)] at hQ
        have e9 : 1000 = fgD B s (t + 1) := by
          unfold fgD
          rcases (show t = s ∨ t = s + 1 ∨ s + 2 ≤ t by omega) with e8 | e8 | e8
          · subst e8; (repeat' split) <;> omega
          · subst e8; (repeat' split) <;> omega
          · (repeat' split) <;> omega
        have hds9 : 48 ≤ B s ∧ B s ≤ 57 := by
          by_cases e7 : s < t
          · exact hds e7
          · have e6 : t = s := by omega
            subst e6; omega
        exact lp3_X7_look hT hE (t + 1) hx hr hQ M3 (by omega) (by omega) (by omega) (fun _ => hds9) (by rw [← e9]; omega) (hE1.l (fun a9 j9 h9 => by rw [hM3o _ _ (by omega), hM2o _ _ (by omega)])) (by first | (rw [hM3a]; done) | (rw [hM3a]; rfl)) (by rw [hM3o _ _ (Or.inr (by decide)), hM2o _ _ (Or.inr (by decide))]; exact h28) (by rw [hM3o _ _ (Or.inr (by decide)), hM2o _ _ (Or.inr (by decide))]; exact h29) (by rw [← e9]; first | (rw [hM3o _ _ (Or.inr (by decide)), hM2a]; done) | (rw [hM3o _ _ (Or.inr (by decide)), hM2a]; rfl)) (fun a9 j9 h9 => by rw [hM3o _ _ (by omega), hM2o _ _ (by omega)]; exact hF1 a9 j9 h9)
      · refine J_aload_n hx dX7_look_189 (i := 0) rfl rfl ?_
        refine J_getI2 (v := fgD B s t) hx fl_X7_172 cl_X7 dX7_look_190 hT.o (by decide) rfl h30 ?_
        refine J_bipush (v := 10) hx dX7_look_193 (by decide) ?_
        refine J_imul (v := fgD B s t * 10) hx dX7_look_195 (w32_id (by omega) (by omega)) ?_
        refine J_aload_n hx dX7_look_196 (i := 0) rfl rfl ?_
        refine J_getR (b := r + 15) hx fl_X7_31 cl_X7 dX7_look_197 hT.o (by decide) rfl hT.r6 ?_
        refine J_aload_n hx dX7_look_200 (i := 0) rfl rfl ?_
        refine J_getI2 (v := ((t : Nat) : Int)) hx fl_X7_166 cl_X7 dX7_look_201 hT.o (by decide) rfl h27 ?_
        refine J_iald2 (v := B t) hx t dX7_look_204 hT.k15 (by omega) (hT.l15 (by omega)) (by exact hE1.b (by omega)) ?_
        have rgb6 := hE1.rg (j := t) (by omega)
        refine J_iadd (v := fgD B s t * 10 + (B t)) hx dX7_look_205 (w32_id (by omega) (by omega)) ?_
        refine J_bipush (v := 48) hx dX7_look_206 (by decide) ?_
        refine J_isub (v := fgD B s t * 10 + (B t) - 48) hx dX7_look_208 (w32_id (by omega) (by omega)) ?_
        refine J_goto (tgt := 215) hx dX7_look_209 (by decide) ?_
        refine J_putI hx fl_X7_172 cl_X7 dX7_look_215 hT.o (by decide) rfl (Or.inl rfl) (by decide) ?_
        generalize eM2 : up2 M1 r 30 (fgD B s t * 10 + (B t) - 48) = M2
        have hM2a : M2 r 30 = fgD B s t * 10 + (B t) - 48 := by rw [← eM2]; exact up2_at
        have hM2o : ∀ b9 j9, (b9 ≠ r ∨ j9 ≠ 30) → M2 b9 j9 = M1 b9 j9 := fun b9 j9 h9 => by rw [← eM2]; exact up2_ne h9
        have hM2r : ∀ b9, b9 ≠ r → M2 b9 = M1 b9 := fun b9 h9 => by rw [← eM2]; exact up2_row h9
        refine J_aload_n hx dX7_look_218 (i := 0) rfl rfl ?_
        refine J_dup hx dX7_look_219 rfl ?_
        refine J_getI2 (v := ((t : Nat) : Int)) hx fl_X7_166 cl_X7 dX7_look_220 hT.o (by decide) rfl (by rw [hM2o _ _ (Or.inr (by decide))]; exact h27) ?_
        refine J_iconst (v := 1) hx dX7_look_223 (by decide) ?_
        refine J_iadd (v := ((t : Nat) : Int) + 1) hx dX7_look_224 (w32_id (by omega) (by omega)) ?_
        refine J_putI hx fl_X7_166 cl_X7 dX7_look_225 hT.o (by decide) rfl (Or.inl rfl) (by decide) ?_
        generalize eM3 : up2 M2 r 27 (((t : Nat) : Int) + 1) = M3
        have hM3a : M3 r 27 = ((t : Nat) : Int) + 1 := by rw [← eM3]; exact up2_at
        have hM3o : ∀ b9 j9, (b9 ≠ r ∨ j9 ≠ 27) → M3 b9 j9 = M2 b9 j9 := fun b9 j9 h9 => by rw [← eM3]; exact up2_ne h9
        have hM3r : ∀ b9, b9 ≠ r → M3 b9 = M2 b9 := fun b9 h9 => by rw [← eM3]; exact up2_row h9
        refine J_goto (tgt := 149) hx dX7_look_228 (by decide) ?_
        rw [rnN_go (e := t) (by omega)] at hQ
        have e9 : fgD B s t * 10 + (B t) - 48 = fgD B s (t + 1) := by
          unfold fgD
          rcases (show t = s ∨ t = s + 1 ∨ s + 2 ≤ t by omega) with e8 | e8 | e8
          · subst e8; (repeat' split) <;> omega
          · subst e8; (repeat' split) <;> omega
          · (repeat' split) <;> omega
        have hds9 : 48 ≤ B s ∧ B s ≤ 57 := by
          by_cases e7 : s < t
          · exact hds e7
          · have e6 : t = s := by omega
            subst e6; omega
        exact lp3_X7_look hT hE (t + 1) hx hr hQ M3 (by omega) (by omega) (by omega) (fun _ => hds9) (by rw [← e9]; omega) (hE1.l (fun a9 j9 h9 => by rw [hM3o _ _ (by omega), hM2o _ _ (by omega)])) (by first | (rw [hM3a]; done) | (rw [hM3a]; rfl)) (by rw [hM3o _ _ (Or.inr (by decide)), hM2o _ _ (Or.inr (by decide))]; exact h28) (by rw [hM3o _ _ (Or.inr (by decide)), hM2o _ _ (Or.inr (by decide))]; exact h29) (by rw [← e9]; first | (rw [hM3o _ _ (Or.inr (by decide)), hM2a]; done) | (rw [hM3o _ _ (Or.inr (by decide)), hM2a]; rfl)) (fun a9 j9 h9 => by rw [hM3o _ _ (by omega), hM2o _ _ (by omega)]; exact hF1 a9 j9 h9)
termination_by z - t
decreasing_by all_goals omega

set_option maxHeartbeats 4000000 in
theorem lp_X7_look {g : WG} {d : Nat} {T : TT} {M : MM} {r sz z : Nat} {B : Nat → Int} {Q : MVal → TT → MM → Nat → Prop} (hT : MT T r) (hE : RPE M r z B) {e : Nat} {x : CX} (hx : OKx g x RX7 cX7_look (d + 2)) (hr : RTx g x none Q) (hQ : ∀ M', TPr M' r B (tkN B z e) → FrL r M M' → Q vU T M' sz) (s : Nat) (M1 : MM) (hsp : spN B z e = spN B z s) (hs : s ≤ z) (hE1 : RPE M1 r z B) (h27 : M1 r 27 = ((s : Nat) : Int)) (hF1 : FrL r M M1) : Jd g x 0 [vR (r)] [] T M1 sz 0 0 := by
  have hz2 := hE1.z2
  refine J_aload_n hx dX7_look_0 (i := 0) rfl rfl ?_
  refine J_getI2 (v := ((s : Nat) : Int)) hx fl_X7_166 cl_X7 dX7_look_1 hT.o (by decide) rfl h27 ?_
  refine J_aload_n hx dX7_look_4 (i := 0) rfl rfl ?_
  refine J_getI2 (v := ((z : Nat) : Int)) hx fl_X7_163 cl_X7 dX7_look_5 hT.o (by decide) rfl hE1.z ?_
  refine J_icmp_ge (tgt := 38) hx dX7_look_8 (by decide) (fun c1 => ?_) (fun c1 => ?_)
  · refine J_aload_n hx dX7_look_38 (i := 0) rfl rfl ?_
    refine J_aload_n hx dX7_look_39 (i := 0) rfl rfl ?_
    refine J_getI2 (v := ((s : Nat) : Int)) hx fl_X7_166 cl_X7 dX7_look_40 hT.o (by decide) rfl h27 ?_
    refine J_putI hx fl_X7_169 cl_X7 dX7_look_43 hT.o (by decide) rfl (Or.inl rfl) (by decide) ?_
    generalize eM2 : up2 M1 r 29 ((s : Nat) : Int) = M2
    have hM2a : M2 r 29 = ((s : Nat) : Int) := by rw [← eM2]; exact up2_at
    have hM2o : ∀ b9 j9, (b9 ≠ r ∨ j9 ≠ 29) → M2 b9 j9 = M1 b9 j9 := fun b9 j9 h9 => by rw [← eM2]; exact up2_ne h9
    have hM2r : ∀ b9, b9 ≠ r → M2 b9 = M1 b9 := fun b9 h9 => by rw [← eM2]; exact up2_row h9
    refine J_aload_n hx dX7_look_46 (i := 0) rfl rfl ?_
    refine J_iconst (v := 0) hx dX7_look_47 (by decide) ?_
    refine J_putI hx fl_X7_172 cl_X7 dX7_look_48 hT.o (by decide) rfl (Or.inl rfl) (by decide) ?_
    generalize eM3 : up2 M2 r 30 0 = M3
    have hM3a : M3 r 30 = 0 := by rw [← eM3]; exact up2_at
    have hM3o : ∀ b9 j9, (b9 ≠ r ∨ j9 ≠ 30) → M3 b9 j9 = M2 b9 j9 := fun b9 j9 h9 => by rw [← eM3]; exact up2_ne h9
    have hM3r : ∀ b9, b9 ≠ r → M3 b9 = M2 b9 := fun b9 h9 => by rw [← eM3]; exact up2_row h9
    refine J_aload_n hx dX7_look_51 (i := 0) rfl rfl ?_
    refine J_getI2 (v := ((s : Nat) : Int)) hx fl_X7_166 cl_X7 dX7_look_52 hT.o (by decide) rfl (by rw [hM3o _ _ (Or.inr (by decide)), hM2o _ _ (Or.inr (by decide))]; exact h27) ?_
    refine J_aload_n hx dX7_look_55 (i := 0) rfl rfl ?_
    refine J_getI2 (v := ((z : Nat) : Int)) hx fl_X7_163 cl_X7 dX7_look_56 hT.o (by decide) rfl (by rw [hM3o _ _ (Or.inr (by decide)), hM2o _ _ (Or.inr (by decide))]; exact hE1.z) ?_
    refine J_icmp_ne (tgt := 70) hx dX7_look_59 (by decide) (fun c2 => ?_) (fun c2 => ?_)
    · refine J_aload_n hx dX7_look_70 (i := 0) rfl rfl ?_
      refine J_getR (b := r + 15) hx fl_X7_31 cl_X7 dX7_look_71 hT.o (by decide) rfl hT.r6 ?_
      refine J_aload_n hx dX7_look_74 (i := 0) rfl rfl ?_
      refine J_getI2 (v := ((s : Nat) : Int)) hx fl_X7_166 cl_X7 dX7_look_75 hT.o (by decide) rfl (by rw [hM3o _ _ (Or.inr (by decide)), hM2o _ _ (Or.inr (by decide))]; exact h27) ?_
      refine J_iald2 (v := B s) hx s dX7_look_78 hT.k15 (by omega) (hT.l15 (by omega)) (by rw [hM3r _ (by omega), hM2r _ (by omega)]; exact hE1.b (by omega)) ?_
      have rgb3 := hE1.rg (j := s) (by omega)
      refine J_invS (As := [vI (B s)]) (st := []) hx lk_X7_178 okX7_isLetter dX7_look_79 rfl rfl (Nat.le_of_ble_eq_true rfl) (Nat.zero_add _).symm (Nat.zero_add _).symm rfl (c_X7_isLetter (b := B s) ?_)
      intro v4 hv4
      have k1v4 := srt_1 (B s)
      have k2v4 := srt_2 (B s)
      refine J_if_eq (tgt := 129) hx dX7_look_82 (by decide) (fun c5 => ?_) (fun c5 => ?_)
      · refine J_aload_n hx dX7_look_129 (i := 0) rfl rfl ?_
        refine J_getR (b := r + 15) hx fl_X7_31 cl_X7 dX7_look_130 hT.o (by decide) rfl hT.r6 ?_
        refine J_aload_n hx dX7_look_133 (i := 0) rfl rfl ?_
        refine J_getI2 (v := ((s : Nat) : Int)) hx fl_X7_166 cl_X7 dX7_look_134 hT.o (by decide) rfl (by rw [hM3o _ _ (Or.inr (by decide)), hM2o _ _ (Or.inr (by decide))]; exact h27) ?_
        refine J_iald2 (v := B s) hx s dX7_look_137 hT.k15 (by omega) (hT.l15 (by omega)) (by rw [hM3r _ (by omega), hM2r _ (by omega)]; exact hE1.b (by omega)) ?_
        have rgb6 := hE1.rg (j := s) (by omega)
        refine J_invS (As := [vI (B s)]) (st := []) hx lk_X7_181 okX7_isDigit dX7_look_138 rfl rfl (Nat.le_of_ble_eq_true rfl) (Nat.zero_add _).symm (Nat.zero_add _).symm rfl (c_X7_isDigit (b := B s) ?_)
        intro v7 hv7
        have k1v7 := srt_1 (B s)
        have k2v7 := srt_2 (B s)
        refine J_if_eq (tgt := 231) hx dX7_look_141 (by decide) (fun c8 => ?_) (fun c8 => ?_)
        · refine J_aload_n hx dX7_look_231 (i := 0) rfl rfl ?_
          refine J_aload_n hx dX7_look_232 (i := 0) rfl rfl ?_
          refine J_getR (b := r + 15) hx fl_X7_31 cl_X7 dX7_look_233 hT.o (by decide) rfl hT.r6 ?_
          refine J_aload_n hx dX7_look_236 (i := 0) rfl rfl ?_
          refine J_getI2 (v := ((s : Nat) : Int)) hx fl_X7_166 cl_X7 dX7_look_237 hT.o (by decide) rfl (by rw [hM3o _ _ (Or.inr (by decide)), hM2o _ _ (Or.inr (by decide))]; exact h27) ?_
          refine J_iald2 (v := B s) hx s dX7_look_240 hT.k15 (by omega) (hT.l15 (by omega)) (by rw [hM3r _ (by omega), hM2r _ (by omega)]; exact hE1.b (by omega)) ?_
          have rgb9 := hE1.rg (j := s) (by omega)
          refine J_bipush (v := 59) hx dX7_look_241 (by decide) ?_
          refine J_icmp_ne (tgt := 250) hx dX7_look_243 (by decide) (fun c10 => ?_) (fun c10 => ?_)
          · refine J_iconst (v := 4) hx dX7_look_250 (by decide) ?_
            refine J_putI hx fl_X7_175 cl_X7 dX7_look_251 hT.o (by decide) rfl (Or.inl rfl) (by decide) ?_
            generalize eM4 : up2 M3 r 28 4 = M4
            have hM4a : M4 r 28 = 4 := by rw [← eM4]; exact up2_at
            have hM4o : ∀ b9 j9, (b9 ≠ r ∨ j9 ≠ 28) → M4 b9 j9 = M3 b9 j9 := fun b9 j9 h9 => by rw [← eM4]; exact up2_ne h9
            have hM4r : ∀ b9, b9 ≠ r → M4 b9 = M3 b9 := fun b9 h9 => by rw [← eM4]; exact up2_row h9
            refine J_aload_n hx dX7_look_254 (i := 0) rfl rfl ?_
            refine J_dup hx dX7_look_255 rfl ?_
            refine J_getI2 (v := ((s : Nat) : Int)) hx fl_X7_166 cl_X7 dX7_look_256 hT.o (by decide) rfl (by rw [hM4o _ _ (Or.inr (by decide)), hM3o _ _ (Or.inr (by decide)), hM2o _ _ (Or.inr (by decide))]; exact h27) ?_
            refine J_iconst (v := 1) hx dX7_look_259 (by decide) ?_
            refine J_iadd (v := ((s : Nat) : Int) + 1) hx dX7_look_260 (w32_id (by omega) (by omega)) ?_
            refine J_putI hx fl_X7_166 cl_X7 dX7_look_261 hT.o (by decide) rfl (Or.inl rfl) (by decide) ?_
            generalize eM5 : up2 M4 r 27 (((s : Nat) : Int) + 1) = M5
            have hM5a : M5 r 27 = ((s : Nat) : Int) + 1 := by rw [← eM5]; exact up2_at
            have hM5o : ∀ b9 j9, (b9 ≠ r ∨ j9 ≠ 27) → M5 b9 j9 = M4 b9 j9 := fun b9 j9 h9 => by rw [← eM5]; exact up2_ne h9
            have hM5r : ∀ b9, b9 ≠ r → M5 b9 = M4 b9 := fun b9 h9 => by rw [← eM5]; exact up2_row h9
            refine J_vret hx hr dX7_look_264 ?_
            have e1 : tkN B z e = (s, 4, s + 1) := by
              have e0 : srtI (B s) = 4 := by unfold srtI at *; (repeat' split at *) <;> omega
              unfold tkN
              rw [hsp, spN_st (e := s) (by omega)]
              unfold enN tyN
              rw [if_pos (by omega), e0, if_neg (by decide), if_pos (by decide)]
            rw [e1] at hQ
            exact hQ M5 ⟨by first | (rw [hM5a]; done) | (rw [hM5a]; rfl), by first | (rw [hM5o _ _ (Or.inr (by decide)), hM4a]; done) | (rw [hM5o _ _ (Or.inr (by decide)), hM4a]; rfl), by first | (rw [hM5o _ _ (Or.inr (by decide)), hM4o _ _ (Or.inr (by decide)), hM3o _ _ (Or.inr (by decide)), hM2a]; done) | (rw [hM5o _ _ (Or.inr (by decide)), hM4o _ _ (Or.inr (by decide)), hM3o _ _ (Or.inr (by decide)), hM2a]; rfl), by first | (rw [hM5o _ _ (Or.inr (by decide)), hM4o _ _ (Or.inr (by decide)), hM3a]; done) | (rw [hM5o _ _ (Or.inr (by decide)), hM4o _ _ (Or.inr (by decide)), hM3a]; rfl)⟩ (fun a9 j9 h9 => by rw [hM5o _ _ (by omega), hM4o _ _ (by omega), hM3o _ _ (by omega), hM2o _ _ (by omega)]; exact hF1 a9 j9 h9)
          · refine J_iconst (v := 3) hx dX7_look_246 (by decide) ?_
            refine J_goto (tgt := 251) hx dX7_look_247 (by decide) ?_
            refine J_putI hx fl_X7_175 cl_X7 dX7_look_251 hT.o (by decide) rfl (Or.inl rfl) (by decide) ?_
            generalize eM4 : up2 M3 r 28 3 = M4
            have hM4a : M4 r 28 = 3 := by rw [← eM4]; exact up2_at
            have hM4o : ∀ b9 j9, (b9 ≠ r ∨ j9 ≠ 28) → M4 b9 j9 = M3 b9 j9 := fun b9 j9 h9 => by rw [← eM4]; exact up2_ne h9
            have hM4r : ∀ b9, b9 ≠ r → M4 b9 = M3 b9 := fun b9 h9 => by rw [← eM4]; exact up2_row h9
            refine J_aload_n hx dX7_look_254 (i := 0) rfl rfl ?_
            refine J_dup hx dX7_look_255 rfl ?_
            refine J_getI2 (v := ((s : Nat) : Int)) hx fl_X7_166 cl_X7 dX7_look_256 hT.o (by decide) rfl (by rw [hM4o _ _ (Or.inr (by decide)), hM3o _ _ (Or.inr (by decide)), hM2o _ _ (Or.inr (by decide))]; exact h27) ?_
            refine J_iconst (v := 1) hx dX7_look_259 (by decide) ?_
            refine J_iadd (v := ((s : Nat) : Int) + 1) hx dX7_look_260 (w32_id (by omega) (by omega)) ?_
            refine J_putI hx fl_X7_166 cl_X7 dX7_look_261 hT.o (by decide) rfl (Or.inl rfl) (by decide) ?_
            generalize eM5 : up2 M4 r 27 (((s : Nat) : Int) + 1) = M5
            have hM5a : M5 r 27 = ((s : Nat) : Int) + 1 := by rw [← eM5]; exact up2_at
            have hM5o : ∀ b9 j9, (b9 ≠ r ∨ j9 ≠ 27) → M5 b9 j9 = M4 b9 j9 := fun b9 j9 h9 => by rw [← eM5]; exact up2_ne h9
            have hM5r : ∀ b9, b9 ≠ r → M5 b9 = M4 b9 := fun b9 h9 => by rw [← eM5]; exact up2_row h9
            refine J_vret hx hr dX7_look_264 ?_
            have e1 : tkN B z e = (s, 3, s + 1) := by
              have e0 : srtI (B s) = 3 := by unfold srtI at *; (repeat' split at *) <;> omega
              unfold tkN
              rw [hsp, spN_st (e := s) (by omega)]
              unfold enN tyN
              rw [if_pos (by omega), e0, if_neg (by decide), if_pos (by decide)]
            rw [e1] at hQ
            exact hQ M5 ⟨by first | (rw [hM5a]; done) | (rw [hM5a]; rfl), by first | (rw [hM5o _ _ (Or.inr (by decide)), hM4a]; done) | (rw [hM5o _ _ (Or.inr (by decide)), hM4a]; rfl), by first | (rw [hM5o _ _ (Or.inr (by decide)), hM4o _ _ (Or.inr (by decide)), hM3o _ _ (Or.inr (by decide)), hM2a]; done) | (rw [hM5o _ _ (Or.inr (by decide)), hM4o _ _ (Or.inr (by decide)), hM3o _ _ (Or.inr (by decide)), hM2a]; rfl), by first | (rw [hM5o _ _ (Or.inr (by decide)), hM4o _ _ (Or.inr (by decide)), hM3a]; done) | (rw [hM5o _ _ (Or.inr (by decide)), hM4o _ _ (Or.inr (by decide)), hM3a]; rfl)⟩ (fun a9 j9 h9 => by rw [hM5o _ _ (by omega), hM4o _ _ (by omega), hM3o _ _ (by omega), hM2o _ _ (by omega)]; exact hF1 a9 j9 h9)
        · refine J_aload_n hx dX7_look_144 (i := 0) rfl rfl ?_
          refine J_iconst (v := 2) hx dX7_look_145 (by decide) ?_
          refine J_putI hx fl_X7_175 cl_X7 dX7_look_146 hT.o (by decide) rfl (Or.inl rfl) (by decide) ?_
          generalize eM4 : up2 M3 r 28 2 = M4
          have hM4a : M4 r 28 = 2 := by rw [← eM4]; exact up2_at
          have hM4o : ∀ b9 j9, (b9 ≠ r ∨ j9 ≠ 28) → M4 b9 j9 = M3 b9 j9 := fun b9 j9 h9 => by rw [← eM4]; exact up2_ne h9
          have hM4r : ∀ b9, b9 ≠ r → M4 b9 = M3 b9 := fun b9 h9 => by rw [← eM4]; exact up2_row h9
          have e1 : tkN B z e = (s, 2, rnN B z 2 s) := by
            have e0 : srtI (B s) = 2 := by omega
            unfold tkN
            rw [hsp, spN_st (e := s) (by omega)]
            unfold enN tyN
            rw [if_pos (by omega), e0, if_pos (Or.inr rfl)]
          rw [e1] at hQ
          have ef : fgD B s s = 0 := by unfold fgD; rw [if_pos (by omega)]
          exact lp3_X7_look hT hE s hx hr hQ M4 (by omega) (by omega) (by omega) (fun h9 => absurd h9 (Nat.lt_irrefl _)) (by omega) (hE1.l (fun a9 j9 h9 => by rw [hM4o _ _ (by omega), hM3o _ _ (by omega), hM2o _ _ (by omega)])) (by rw [hM4o _ _ (Or.inr (by decide)), hM3o _ _ (Or.inr (by decide)), hM2o _ _ (Or.inr (by decide))]; exact h27) (by first | (rw [hM4a]; done) | (rw [hM4a]; rfl)) (by first | (rw [hM4o _ _ (Or.inr (by decide)), hM3o _ _ (Or.inr (by decide)), hM2a]; done) | (rw [hM4o _ _ (Or.inr (by decide)), hM3o _ _ (Or.inr (by decide)), hM2a]; rfl)) (by rw [ef]; first | (rw [hM4o _ _ (Or.inr (by decide)), hM3a]; done) | (rw [hM4o _ _ (Or.inr (by decide)), hM3a]; rfl)) (fun a9 j9 h9 => by rw [hM4o _ _ (by omega), hM3o _ _ (by omega), hM2o _ _ (by omega)]; exact hF1 a9 j9 h9)
      · refine J_aload_n hx dX7_look_85 (i := 0) rfl rfl ?_
        refine J_iconst (v := 1) hx dX7_look_86 (by decide) ?_
        refine J_putI hx fl_X7_175 cl_X7 dX7_look_87 hT.o (by decide) rfl (Or.inl rfl) (by decide) ?_
        generalize eM4 : up2 M3 r 28 1 = M4
        have hM4a : M4 r 28 = 1 := by rw [← eM4]; exact up2_at
        have hM4o : ∀ b9 j9, (b9 ≠ r ∨ j9 ≠ 28) → M4 b9 j9 = M3 b9 j9 := fun b9 j9 h9 => by rw [← eM4]; exact up2_ne h9
        have hM4r : ∀ b9, b9 ≠ r → M4 b9 = M3 b9 := fun b9 h9 => by rw [← eM4]; exact up2_row h9
        have e1 : tkN B z e = (s, 1, rnN B z 1 s) := by
          have e0 : srtI (B s) = 1 := by omega
          unfold tkN
          rw [hsp, spN_st (e := s) (by omega)]
          unfold enN tyN
          rw [if_pos (by omega), e0, if_pos (Or.inl rfl)]
        rw [e1] at hQ
        exact lp2_X7_look hT hE s hx hr hQ M4 (by omega) (hE1.l (fun a9 j9 h9 => by rw [hM4o _ _ (by omega), hM3o _ _ (by omega), hM2o _ _ (by omega)])) (by rw [hM4o _ _ (Or.inr (by decide)), hM3o _ _ (Or.inr (by decide)), hM2o _ _ (Or.inr (by decide))]; exact h27) (by first | (rw [hM4a]; done) | (rw [hM4a]; rfl)) (by first | (rw [hM4o _ _ (Or.inr (by decide)), hM3o _ _ (Or.inr (by decide)), hM2a]; done) | (rw [hM4o _ _ (Or.inr (by decide)), hM3o _ _ (Or.inr (by decide)), hM2a]; rfl)) (by first | (rw [hM4o _ _ (Or.inr (by decide)), hM3a]; done) | (rw [hM4o _ _ (Or.inr (by decide)), hM3a]; rfl)) (fun a9 j9 h9 => by rw [hM4o _ _ (by omega), hM3o _ _ (by omega), hM2o _ _ (by omega)]; exact hF1 a9 j9 h9)
    · refine J_aload_n hx dX7_look_62 (i := 0) rfl rfl ?_
      refine J_iconst (v := 0) hx dX7_look_63 (by decide) ?_
      refine J_putI hx fl_X7_175 cl_X7 dX7_look_64 hT.o (by decide) rfl (Or.inl rfl) (by decide) ?_
      generalize eM4 : up2 M3 r 28 0 = M4
      have hM4a : M4 r 28 = 0 := by rw [← eM4]; exact up2_at
      have hM4o : ∀ b9 j9, (b9 ≠ r ∨ j9 ≠ 28) → M4 b9 j9 = M3 b9 j9 := fun b9 j9 h9 => by rw [← eM4]; exact up2_ne h9
      have hM4r : ∀ b9, b9 ≠ r → M4 b9 = M3 b9 := fun b9 h9 => by rw [← eM4]; exact up2_row h9
      refine J_goto (tgt := 264) hx dX7_look_67 (by decide) ?_
      refine J_vret hx hr dX7_look_264 ?_
      have e1 : tkN B z e = (s, 0, s) := by
        unfold tkN
        rw [hsp, spN_st (e := s) (by omega)]
        unfold enN tyN
        rw [if_neg (by omega)]
        rfl
      rw [e1] at hQ
      exact hQ M4 ⟨by rw [hM4o _ _ (Or.inr (by decide)), hM3o _ _ (Or.inr (by decide)), hM2o _ _ (Or.inr (by decide))]; exact h27, by first | (rw [hM4a]; done) | (rw [hM4a]; rfl), by first | (rw [hM4o _ _ (Or.inr (by decide)), hM3o _ _ (Or.inr (by decide)), hM2a]; done) | (rw [hM4o _ _ (Or.inr (by decide)), hM3o _ _ (Or.inr (by decide)), hM2a]; rfl), by first | (rw [hM4o _ _ (Or.inr (by decide)), hM3a]; done) | (rw [hM4o _ _ (Or.inr (by decide)), hM3a]; rfl)⟩ (fun a9 j9 h9 => by rw [hM4o _ _ (by omega), hM3o _ _ (by omega), hM2o _ _ (by omega)]; exact hF1 a9 j9 h9)
  · refine J_aload_n hx dX7_look_11 (i := 0) rfl rfl ?_
    refine J_getR (b := r + 15) hx fl_X7_31 cl_X7 dX7_look_12 hT.o (by decide) rfl hT.r6 ?_
    refine J_aload_n hx dX7_look_15 (i := 0) rfl rfl ?_
    refine J_getI2 (v := ((s : Nat) : Int)) hx fl_X7_166 cl_X7 dX7_look_16 hT.o (by decide) rfl h27 ?_
    refine J_iald2 (v := B s) hx s dX7_look_19 hT.k15 (by omega) (hT.l15 (by omega)) (by exact hE1.b (by omega)) ?_
    have rgb11 := hE1.rg (j := s) (by omega)
    refine J_bipush (v := 32) hx dX7_look_20 (by decide) ?_
    refine J_icmp_ne (tgt := 38) hx dX7_look_22 (by decide) (fun c12 => ?_) (fun c12 => ?_)
    · refine J_aload_n hx dX7_look_38 (i := 0) rfl rfl ?_
      refine J_aload_n hx dX7_look_39 (i := 0) rfl rfl ?_
      refine J_getI2 (v := ((s : Nat) : Int)) hx fl_X7_166 cl_X7 dX7_look_40 hT.o (by decide) rfl h27 ?_
      refine J_putI hx fl_X7_169 cl_X7 dX7_look_43 hT.o (by decide) rfl (Or.inl rfl) (by decide) ?_
      generalize eM2 : up2 M1 r 29 ((s : Nat) : Int) = M2
      have hM2a : M2 r 29 = ((s : Nat) : Int) := by rw [← eM2]; exact up2_at
      have hM2o : ∀ b9 j9, (b9 ≠ r ∨ j9 ≠ 29) → M2 b9 j9 = M1 b9 j9 := fun b9 j9 h9 => by rw [← eM2]; exact up2_ne h9
      have hM2r : ∀ b9, b9 ≠ r → M2 b9 = M1 b9 := fun b9 h9 => by rw [← eM2]; exact up2_row h9
      refine J_aload_n hx dX7_look_46 (i := 0) rfl rfl ?_
      refine J_iconst (v := 0) hx dX7_look_47 (by decide) ?_
      refine J_putI hx fl_X7_172 cl_X7 dX7_look_48 hT.o (by decide) rfl (Or.inl rfl) (by decide) ?_
      generalize eM3 : up2 M2 r 30 0 = M3
      have hM3a : M3 r 30 = 0 := by rw [← eM3]; exact up2_at
      have hM3o : ∀ b9 j9, (b9 ≠ r ∨ j9 ≠ 30) → M3 b9 j9 = M2 b9 j9 := fun b9 j9 h9 => by rw [← eM3]; exact up2_ne h9
      have hM3r : ∀ b9, b9 ≠ r → M3 b9 = M2 b9 := fun b9 h9 => by rw [← eM3]; exact up2_row h9
      refine J_aload_n hx dX7_look_51 (i := 0) rfl rfl ?_
      refine J_getI2 (v := ((s : Nat) : Int)) hx fl_X7_166 cl_X7 dX7_look_52 hT.o (by decide) rfl (by rw [hM3o _ _ (Or.inr (by decide)), hM2o _ _ (Or.inr (by decide))]; exact h27) ?_
      refine J_aload_n hx dX7_look_55 (i := 0) rfl rfl ?_
      refine J_getI2 (v := ((z : Nat) : Int)) hx fl_X7_163 cl_X7 dX7_look_56 hT.o (by decide) rfl (by rw [hM3o _ _ (Or.inr (by decide)), hM2o _ _ (Or.inr (by decide))]; exact hE1.z) ?_
      refine J_icmp_ne (tgt := 70) hx dX7_look_59 (by decide) (fun c13 => ?_) (fun c13 => ?_)
      · refine J_aload_n hx dX7_look_70 (i := 0) rfl rfl ?_
        refine J_getR (b := r + 15) hx fl_X7_31 cl_X7 dX7_look_71 hT.o (by decide) rfl hT.r6 ?_
        refine J_aload_n hx dX7_look_74 (i := 0) rfl rfl ?_
        refine J_getI2 (v := ((s : Nat) : Int)) hx fl_X7_166 cl_X7 dX7_look_75 hT.o (by decide) rfl (by rw [hM3o _ _ (Or.inr (by decide)), hM2o _ _ (Or.inr (by decide))]; exact h27) ?_
        refine J_iald2 (v := B s) hx s dX7_look_78 hT.k15 (by omega) (hT.l15 (by omega)) (by rw [hM3r _ (by omega), hM2r _ (by omega)]; exact hE1.b (by omega)) ?_
        have rgb14 := hE1.rg (j := s) (by omega)
        refine J_invS (As := [vI (B s)]) (st := []) hx lk_X7_178 okX7_isLetter dX7_look_79 rfl rfl (Nat.le_of_ble_eq_true rfl) (Nat.zero_add _).symm (Nat.zero_add _).symm rfl (c_X7_isLetter (b := B s) ?_)
        intro v15 hv15
        have k1v15 := srt_1 (B s)
        have k2v15 := srt_2 (B s)
        refine J_if_eq (tgt := 129) hx dX7_look_82 (by decide) (fun c16 => ?_) (fun c16 => ?_)
        · refine J_aload_n hx dX7_look_129 (i := 0) rfl rfl ?_
          refine J_getR (b := r + 15) hx fl_X7_31 cl_X7 dX7_look_130 hT.o (by decide) rfl hT.r6 ?_
          refine J_aload_n hx dX7_look_133 (i := 0) rfl rfl ?_
          refine J_getI2 (v := ((s : Nat) : Int)) hx fl_X7_166 cl_X7 dX7_look_134 hT.o (by decide) rfl (by rw [hM3o _ _ (Or.inr (by decide)), hM2o _ _ (Or.inr (by decide))]; exact h27) ?_
          refine J_iald2 (v := B s) hx s dX7_look_137 hT.k15 (by omega) (hT.l15 (by omega)) (by rw [hM3r _ (by omega), hM2r _ (by omega)]; exact hE1.b (by omega)) ?_
          have rgb17 := hE1.rg (j := s) (by omega)
          refine J_invS (As := [vI (B s)]) (st := []) hx lk_X7_181 okX7_isDigit dX7_look_138 rfl rfl (Nat.le_of_ble_eq_true rfl) (Nat.zero_add _).symm (Nat.zero_add _).symm rfl (c_X7_isDigit (b := B s) ?_)
          intro v18 hv18
          have k1v18 := srt_1 (B s)
          have k2v18 := srt_2 (B s)
          refine J_if_eq (tgt := 231) hx dX7_look_141 (by decide) (fun c19 => ?_) (fun c19 => ?_)
          · refine J_aload_n hx dX7_look_231 (i := 0) rfl rfl ?_
            refine J_aload_n hx dX7_look_232 (i := 0) rfl rfl ?_
            refine J_getR (b := r + 15) hx fl_X7_31 cl_X7 dX7_look_233 hT.o (by decide) rfl hT.r6 ?_
            refine J_aload_n hx dX7_look_236 (i := 0) rfl rfl ?_
            refine J_getI2 (v := ((s : Nat) : Int)) hx fl_X7_166 cl_X7 dX7_look_237 hT.o (by decide) rfl (by rw [hM3o _ _ (Or.inr (by decide)), hM2o _ _ (Or.inr (by decide))]; exact h27) ?_
            refine J_iald2 (v := B s) hx s dX7_look_240 hT.k15 (by omega) (hT.l15 (by omega)) (by rw [hM3r _ (by omega), hM2r _ (by omega)]; exact hE1.b (by omega)) ?_
            have rgb20 := hE1.rg (j := s) (by omega)
            refine J_bipush (v := 59) hx dX7_look_241 (by decide) ?_
            refine J_icmp_ne (tgt := 250) hx dX7_look_243 (by decide) (fun c21 => ?_) (fun c21 => ?_)
            · refine J_iconst (v := 4) hx dX7_look_250 (by decide) ?_
              refine J_putI hx fl_X7_175 cl_X7 dX7_look_251 hT.o (by decide) rfl (Or.inl rfl) (by decide) ?_
              generalize eM4 : up2 M3 r 28 4 = M4
              have hM4a : M4 r 28 = 4 := by rw [← eM4]; exact up2_at
              have hM4o : ∀ b9 j9, (b9 ≠ r ∨ j9 ≠ 28) → M4 b9 j9 = M3 b9 j9 := fun b9 j9 h9 => by rw [← eM4]; exact up2_ne h9
              have hM4r : ∀ b9, b9 ≠ r → M4 b9 = M3 b9 := fun b9 h9 => by rw [← eM4]; exact up2_row h9
              refine J_aload_n hx dX7_look_254 (i := 0) rfl rfl ?_
              refine J_dup hx dX7_look_255 rfl ?_
              refine J_getI2 (v := ((s : Nat) : Int)) hx fl_X7_166 cl_X7 dX7_look_256 hT.o (by decide) rfl (by rw [hM4o _ _ (Or.inr (by decide)), hM3o _ _ (Or.inr (by decide)), hM2o _ _ (Or.inr (by decide))]; exact h27) ?_
              refine J_iconst (v := 1) hx dX7_look_259 (by decide) ?_
              refine J_iadd (v := ((s : Nat) : Int) + 1) hx dX7_look_260 (w32_id (by omega) (by omega)) ?_
              refine J_putI hx fl_X7_166 cl_X7 dX7_look_261 hT.o (by decide) rfl (Or.inl rfl) (by decide) ?_
              generalize eM5 : up2 M4 r 27 (((s : Nat) : Int) + 1) = M5
              have hM5a : M5 r 27 = ((s : Nat) : Int) + 1 := by rw [← eM5]; exact up2_at
              have hM5o : ∀ b9 j9, (b9 ≠ r ∨ j9 ≠ 27) → M5 b9 j9 = M4 b9 j9 := fun b9 j9 h9 => by rw [← eM5]; exact up2_ne h9
              have hM5r : ∀ b9, b9 ≠ r → M5 b9 = M4 b9 := fun b9 h9 => by rw [← eM5]; exact up2_row h9
              refine J_vret hx hr dX7_look_264 ?_
              have e1 : tkN B z e = (s, 4, s + 1) := by
                have e0 : srtI (B s) = 4 := by unfold srtI at *; (repeat' split at *) <;> omega
                unfold tkN
                rw [hsp, spN_st (e := s) (by omega)]
                unfold enN tyN
                rw [if_pos (by omega), e0, if_neg (by decide), if_pos (by decide)]
              rw [e1] at hQ
              exact hQ M5 ⟨by first | (rw [hM5a]; done) | (rw [hM5a]; rfl), by first | (rw [hM5o _ _ (Or.inr (by decide)), hM4a]; done) | (rw [hM5o _ _ (Or.inr (by decide)), hM4a]; rfl), by first | (rw [hM5o _ _ (Or.inr (by decide)), hM4o _ _ (Or.inr (by decide)), hM3o _ _ (Or.inr (by decide)), hM2a]; done) | (rw [hM5o _ _ (Or.inr (by decide)), hM4o _ _ (Or.inr (by decide)), hM3o _ _ (Or.inr (by decide)), hM2a]; rfl), by first | (rw [hM5o _ _ (Or.inr (by decide)), hM4o _ _ (Or.inr (by decide)), hM3a]; done) | (rw [hM5o _ _ (Or.inr (by decide)), hM4o _ _ (Or.inr (by decide)), hM3a]; rfl)⟩ (fun a9 j9 h9 => by rw [hM5o _ _ (by omega), hM4o _ _ (by omega), hM3o _ _ (by omega), hM2o _ _ (by omega)]; exact hF1 a9 j9 h9)
            · refine J_iconst (v := 3) hx dX7_look_246 (by decide) ?_
              refine J_goto (tgt := 251) hx dX7_look_247 (by decide) ?_
              refine J_putI hx fl_X7_175 cl_X7 dX7_look_251 hT.o (by decide) rfl (Or.inl rfl) (by decide) ?_
              generalize eM4 : up2 M3 r 28 3 = M4
              have hM4a : M4 r 28 = 3 := by rw [← eM4]; exact up2_at
              have hM4o : ∀ b9 j9, (b9 ≠ r ∨ j9 ≠ 28) → M4 b9 j9 = M3 b9 j9 := fun b9 j9 h9 => by rw [← eM4]; exact up2_ne h9
              have hM4r : ∀ b9, b9 ≠ r → M4 b9 = M3 b9 := fun b9 h9 => by rw [← eM4]; exact up2_row h9
              refine J_aload_n hx dX7_look_254 (i := 0) rfl rfl ?_
              refine J_dup hx dX7_look_255 rfl ?_
              refine J_getI2 (v := ((s : Nat) : Int)) hx fl_X7_166 cl_X7 dX7_look_256 hT.o (by decide) rfl (by rw [hM4o _ _ (Or.inr (by decide)), hM3o _ _ (Or.inr (by decide)), hM2o _ _ (Or.inr (by decide))]; exact h27) ?_
              refine J_iconst (v := 1) hx dX7_look_259 (by decide) ?_
              refine J_iadd (v := ((s : Nat) : Int) + 1) hx dX7_look_260 (w32_id (by omega) (by omega)) ?_
              refine J_putI hx fl_X7_166 cl_X7 dX7_look_261 hT.o (by decide) rfl (Or.inl rfl) (by decide) ?_
              generalize eM5 : up2 M4 r 27 (((s : Nat) : Int) + 1) = M5
              have hM5a : M5 r 27 = ((s : Nat) : Int) + 1 := by rw [← eM5]; exact up2_at
              have hM5o : ∀ b9 j9, (b9 ≠ r ∨ j9 ≠ 27) → M5 b9 j9 = M4 b9 j9 := fun b9 j9 h9 => by rw [← eM5]; exact up2_ne h9
              have hM5r : ∀ b9, b9 ≠ r → M5 b9 = M4 b9 := fun b9 h9 => by rw [← eM5]; exact up2_row h9
              refine J_vret hx hr dX7_look_264 ?_
              have e1 : tkN B z e = (s, 3, s + 1) := by
                have e0 : srtI (B s) = 3 := by unfold srtI at *; (repeat' split at *) <;> omega
                unfold tkN
                rw [hsp, spN_st (e := s) (by omega)]
                unfold enN tyN
                rw [if_pos (by omega), e0, if_neg (by decide), if_pos (by decide)]
              rw [e1] at hQ
              exact hQ M5 ⟨by first | (rw [hM5a]; done) | (rw [hM5a]; rfl), by first | (rw [hM5o _ _ (Or.inr (by decide)), hM4a]; done) | (rw [hM5o _ _ (Or.inr (by decide)), hM4a]; rfl), by first | (rw [hM5o _ _ (Or.inr (by decide)), hM4o _ _ (Or.inr (by decide)), hM3o _ _ (Or.inr (by decide)), hM2a]; done) | (rw [hM5o _ _ (Or.inr (by decide)), hM4o _ _ (Or.inr (by decide)), hM3o _ _ (Or.inr (by decide)), hM2a]; rfl), by first | (rw [hM5o _ _ (Or.inr (by decide)), hM4o _ _ (Or.inr (by decide)), hM3a]; done) | (rw [hM5o _ _ (Or.inr (by decide)), hM4o _ _ (Or.inr (by decide)), hM3a]; rfl)⟩ (fun a9 j9 h9 => by rw [hM5o _ _ (by omega), hM4o _ _ (by omega), hM3o _ _ (by omega), hM2o _ _ (by omega)]; exact hF1 a9 j9 h9)
          · refine J_aload_n hx dX7_look_144 (i := 0) rfl rfl ?_
            refine J_iconst (v := 2) hx dX7_look_145 (by decide) ?_
            refine J_putI hx fl_X7_175 cl_X7 dX7_look_146 hT.o (by decide) rfl (Or.inl rfl) (by decide) ?_
            generalize eM4 : up2 M3 r 28 2 = M4
            have hM4a : M4 r 28 = 2 := by rw [← eM4]; exact up2_at
            have hM4o : ∀ b9 j9, (b9 ≠ r ∨ j9 ≠ 28) → M4 b9 j9 = M3 b9 j9 := fun b9 j9 h9 => by rw [← eM4]; exact up2_ne h9
            have hM4r : ∀ b9, b9 ≠ r → M4 b9 = M3 b9 := fun b9 h9 => by rw [← eM4]; exact up2_row h9
            have e1 : tkN B z e = (s, 2, rnN B z 2 s) := by
              have e0 : srtI (B s) = 2 := by omega
              unfold tkN
              rw [hsp, spN_st (e := s) (by omega)]
              unfold enN tyN
              rw [if_pos (by omega), e0, if_pos (Or.inr rfl)]
            rw [e1] at hQ
            have ef : fgD B s s = 0 := by unfold fgD; rw [if_pos (by omega)]
            exact lp3_X7_look hT hE s hx hr hQ M4 (by omega) (by omega) (by omega) (fun h9 => absurd h9 (Nat.lt_irrefl _)) (by omega) (hE1.l (fun a9 j9 h9 => by rw [hM4o _ _ (by omega), hM3o _ _ (by omega), hM2o _ _ (by omega)])) (by rw [hM4o _ _ (Or.inr (by decide)), hM3o _ _ (Or.inr (by decide)), hM2o _ _ (Or.inr (by decide))]; exact h27) (by first | (rw [hM4a]; done) | (rw [hM4a]; rfl)) (by first | (rw [hM4o _ _ (Or.inr (by decide)), hM3o _ _ (Or.inr (by decide)), hM2a]; done) | (rw [hM4o _ _ (Or.inr (by decide)), hM3o _ _ (Or.inr (by decide)), hM2a]; rfl)) (by rw [ef]; first | (rw [hM4o _ _ (Or.inr (by decide)), hM3a]; done) | (rw [hM4o _ _ (Or.inr (by decide)), hM3a]; rfl)) (fun a9 j9 h9 => by rw [hM4o _ _ (by omega), hM3o _ _ (by omega), hM2o _ _ (by omega)]; exact hF1 a9 j9 h9)
        · refine J_aload_n hx dX7_look_85 (i := 0) rfl rfl ?_
          refine J_iconst (v := 1) hx dX7_look_86 (by decide) ?_
          refine J_putI hx fl_X7_175 cl_X7 dX7_look_87 hT.o (by decide) rfl (Or.inl rfl) (by decide) ?_
          generalize eM4 : up2 M3 r 28 1 = M4
          have hM4a : M4 r 28 = 1 := by rw [← eM4]; exact up2_at
          have hM4o : ∀ b9 j9, (b9 ≠ r ∨ j9 ≠ 28) → M4 b9 j9 = M3 b9 j9 := fun b9 j9 h9 => by rw [← eM4]; exact up2_ne h9
          have hM4r : ∀ b9, b9 ≠ r → M4 b9 = M3 b9 := fun b9 h9 => by rw [← eM4]; exact up2_row h9
          have e1 : tkN B z e = (s, 1, rnN B z 1 s) := by
            have e0 : srtI (B s) = 1 := by omega
            unfold tkN
            rw [hsp, spN_st (e := s) (by omega)]
            unfold enN tyN
            rw [if_pos (by omega), e0, if_pos (Or.inl rfl)]
          rw [e1] at hQ
          exact lp2_X7_look hT hE s hx hr hQ M4 (by omega) (hE1.l (fun a9 j9 h9 => by rw [hM4o _ _ (by omega), hM3o _ _ (by omega), hM2o _ _ (by omega)])) (by rw [hM4o _ _ (Or.inr (by decide)), hM3o _ _ (Or.inr (by decide)), hM2o _ _ (Or.inr (by decide))]; exact h27) (by first | (rw [hM4a]; done) | (rw [hM4a]; rfl)) (by first | (rw [hM4o _ _ (Or.inr (by decide)), hM3o _ _ (Or.inr (by decide)), hM2a]; done) | (rw [hM4o _ _ (Or.inr (by decide)), hM3o _ _ (Or.inr (by decide)), hM2a]; rfl)) (by first | (rw [hM4o _ _ (Or.inr (by decide)), hM3a]; done) | (rw [hM4o _ _ (Or.inr (by decide)), hM3a]; rfl)) (fun a9 j9 h9 => by rw [hM4o _ _ (by omega), hM3o _ _ (by omega), hM2o _ _ (by omega)]; exact hF1 a9 j9 h9)
      · refine J_aload_n hx dX7_look_62 (i := 0) rfl rfl ?_
        refine J_iconst (v := 0) hx dX7_look_63 (by decide) ?_
        refine J_putI hx fl_X7_175 cl_X7 dX7_look_64 hT.o (by decide) rfl (Or.inl rfl) (by decide) ?_
        generalize eM4 : up2 M3 r 28 0 = M4
        have hM4a : M4 r 28 = 0 := by rw [← eM4]; exact up2_at
        have hM4o : ∀ b9 j9, (b9 ≠ r ∨ j9 ≠ 28) → M4 b9 j9 = M3 b9 j9 := fun b9 j9 h9 => by rw [← eM4]; exact up2_ne h9
        have hM4r : ∀ b9, b9 ≠ r → M4 b9 = M3 b9 := fun b9 h9 => by rw [← eM4]; exact up2_row h9
        refine J_goto (tgt := 264) hx dX7_look_67 (by decide) ?_
        refine J_vret hx hr dX7_look_264 ?_
        have e1 : tkN B z e = (s, 0, s) := by
          unfold tkN
          rw [hsp, spN_st (e := s) (by omega)]
          unfold enN tyN
          rw [if_neg (by omega)]
          rfl
        rw [e1] at hQ
        exact hQ M4 ⟨by rw [hM4o _ _ (Or.inr (by decide)), hM3o _ _ (Or.inr (by decide)), hM2o _ _ (Or.inr (by decide))]; exact h27, by first | (rw [hM4a]; done) | (rw [hM4a]; rfl), by first | (rw [hM4o _ _ (Or.inr (by decide)), hM3o _ _ (Or.inr (by decide)), hM2a]; done) | (rw [hM4o _ _ (Or.inr (by decide)), hM3o _ _ (Or.inr (by decide)), hM2a]; rfl), by first | (rw [hM4o _ _ (Or.inr (by decide)), hM3a]; done) | (rw [hM4o _ _ (Or.inr (by decide)), hM3a]; rfl)⟩ (fun a9 j9 h9 => by rw [hM4o _ _ (by omega), hM3o _ _ (by omega), hM2o _ _ (by omega)]; exact hF1 a9 j9 h9)
    · refine J_aload_n hx dX7_look_25 (i := 0) rfl rfl ?_
      refine J_dup hx dX7_look_26 rfl ?_
      refine J_getI2 (v := ((s : Nat) : Int)) hx fl_X7_166 cl_X7 dX7_look_27 hT.o (by decide) rfl h27 ?_
      refine J_iconst (v := 1) hx dX7_look_30 (by decide) ?_
      refine J_iadd (v := ((s : Nat) : Int) + 1) hx dX7_look_31 (w32_id (by omega) (by omega)) ?_
      refine J_putI hx fl_X7_166 cl_X7 dX7_look_32 hT.o (by decide) rfl (Or.inl rfl) (by decide) ?_
      generalize eM2 : up2 M1 r 27 (((s : Nat) : Int) + 1) = M2
      have hM2a : M2 r 27 = ((s : Nat) : Int) + 1 := by rw [← eM2]; exact up2_at
      have hM2o : ∀ b9 j9, (b9 ≠ r ∨ j9 ≠ 27) → M2 b9 j9 = M1 b9 j9 := fun b9 j9 h9 => by rw [← eM2]; exact up2_ne h9
      have hM2r : ∀ b9, b9 ≠ r → M2 b9 = M1 b9 := fun b9 h9 => by rw [← eM2]; exact up2_row h9
      refine J_goto (tgt := 0) hx dX7_look_35 (by decide) ?_
      exact lp_X7_look hT hE hx hr hQ (s + 1) M2 (by rw [hsp]; exact spN_go (by omega)) (by omega) (hE1.l (fun a9 j9 h9 => hM2o _ _ (by omega))) (by first | (rw [hM2a]; done) | (rw [hM2a]; rfl)) (fun a9 j9 h9 => by rw [hM2o _ _ (by omega)]; exact hF1 a9 j9 h9)
termination_by z - s
decreasing_by all_goals omega

set_option maxHeartbeats 4000000 in
theorem c_X7_look {g : WG} {d : Nat} {T : TT} {M : MM} {r sz z : Nat} {B : Nat → Int} {Q : MVal → TT → MM → Nat → Prop} (hT : MT T r) (hE : RPE M r z B) {e : Nat} (he : e ≤ z) (h27 : M r 27 = ((e : Nat) : Int)) (hQ : ∀ M', TPr M' r B (tkN B z e) → FrL r M M' → Q vU T M' sz) : Ct g (d + 2) mX7_look [vR (r)] T M sz 0 0 Q := by
  refine Ct_of2 (ls := [vR (r)]) okX7_look rfl (Nat.le_of_ble_eq_true rfl) rfl ?_
  intro x hx hr hnm
  exact lp_X7_look hT hE hx hr hQ e M rfl he hE h27 FrL.rf

set_option maxHeartbeats 4000000 in
theorem c_X7_wrong {g : WG} {d : Nat} {T : TT} {M : MM} {r sz s : Nat} {Q : MVal → TT → MM → Nat → Prop} (hT : MT T r) (h29 : M r 29 = ((s : Nat) : Int)) (hQ : ∀ M', M' r 31 = ((s : Nat) : Int) → (∀ a j, ¬ (a = r ∧ j = 31) → M' a j = M a j) → Q (vI 0) T M' sz) : Ct g (d + 1) mX7_wrong [vR (r)] T M sz 0 0 Q := by
  refine Ct_of2 (ls := [vR (r)]) okX7_wrong rfl (Nat.le_of_ble_eq_true rfl) rfl ?_
  intro x hx hr hnm
  refine J_aload_n hx dX7_wrong_0 (i := 0) rfl rfl ?_
  refine J_aload_n hx dX7_wrong_1 (i := 0) rfl rfl ?_
  refine J_getI2 (v := ((s : Nat) : Int)) hx fl_X7_169 cl_X7 dX7_wrong_2 hT.o (by decide) rfl h29 ?_
  refine J_putI hx fl_X7_184 cl_X7 dX7_wrong_5 hT.o (by decide) rfl (Or.inl rfl) (by decide) ?_
  generalize eM1 : up2 M r 31 ((s : Nat) : Int) = M1
  have hM1a : M1 r 31 = ((s : Nat) : Int) := by rw [← eM1]; exact up2_at
  have hM1o : ∀ b9 j9, (b9 ≠ r ∨ j9 ≠ 31) → M1 b9 j9 = M b9 j9 := fun b9 j9 h9 => by rw [← eM1]; exact up2_ne h9
  have hM1r : ∀ b9, b9 ≠ r → M1 b9 = M b9 := fun b9 h9 => by rw [← eM1]; exact up2_row h9
  refine J_iconst (v := 0) hx dX7_wrong_8 (by decide) ?_
  refine J_zret hx hr dX7_wrong_9 (by omega) ?_
  exact hQ M1 hM1a (fun a9 j9 h9 => hM1o _ _ (by omega))

set_option maxHeartbeats 4000000 in
theorem lp_X7_isWord {g : WG} {d : Nat} {T : TT} {M : MM} {r sz z : Nat} {B : Nat → Int} {Q : MVal → TT → MM → Nat → Prop} (hT : MT T r) (hE : RPE M r z B) {tk : TK} {w : Nat} (hw : w < 7) (hwf : wfT B z tk) (hP : TPr M r B tk) {x : CX} (hx : OKx g x RX7 cX7_isWord (d + 5)) (hr : RTx g x (some .boolean) Q) (hQ : ∀ v : Int, ((v = 1 ∧ wdP B tk w) ∨ (v = 0 ∧ ¬ wdP B tk w)) → Q (vI v) T M sz) (hty : tk.2.1 = 1) (hln : tk.2.2 - tk.1 = strL.getD w 0) (i : Nat) (hi : i ≤ strL.getD w 0) (hall : ∀ i9, i9 < i → B (tk.1 + i9) = wch w i9) : Jd g x 28 [vR (r), vR (g.2.2.2.2.1 w), vI (((i : Nat) : Int))] [] T M sz 0 0 := by
  have hs6 := (str_len ⟨w, hw⟩).2.2
  have hz2 := hE.z2
  have hw1 := hwf.2.1
  have hw3 := hwf.2.2.1
  refine J_iload_n hx dX7_isWord_28 (i := 2) rfl rfl ?_
  refine J_aload_n hx dX7_isWord_29 (i := 1) rfl rfl ?_
  refine J_invVK (As := []) (st := [vI (((i : Nat) : Int))]) hx hw lkM_187 okmSlen dX7_isWord_30 rfl rfl rfl (Nat.le_of_ble_eq_true rfl) rfl (c_Slen hw ?_)
  refine J_icmp_ge (tgt := 63) hx dX7_isWord_33 (by decide) (fun c1 => ?_) (fun c1 => ?_)
  · refine J_iconst (v := 1) hx dX7_isWord_63 (by decide) ?_
    refine J_zret hx hr dX7_isWord_64 (by omega) ?_
    exact hQ 1 (Or.inl ⟨rfl, hty, hln, fun i9 h9 => hall i9 (by omega)⟩)
  · refine J_aload_n hx dX7_isWord_36 (i := 0) rfl rfl ?_
    refine J_getR (b := r + 15) hx fl_X7_31 cl_X7 dX7_isWord_37 hT.o (by decide) rfl hT.r6 ?_
    refine J_aload_n hx dX7_isWord_40 (i := 0) rfl rfl ?_
    refine J_getI2 (v := ((tk.1 : Nat) : Int)) hx fl_X7_169 cl_X7 dX7_isWord_41 hT.o (by decide) rfl hP.2.2.1 ?_
    refine J_iload_n hx dX7_isWord_44 (i := 2) rfl rfl ?_
    refine J_iadd (v := ((tk.1 + i : Nat) : Int)) hx dX7_isWord_45 (by rw [w32_id (by omega) (by omega)]; omega) ?_
    refine J_iald2 (v := B (tk.1 + i)) hx (tk.1 + i) dX7_isWord_46 hT.k15 (by omega) (hT.l15 (by omega)) (by exact hE.b (by omega)) ?_
    have rgb2 := hE.rg (j := tk.1 + i) (by omega)
    refine J_aload_n hx dX7_isWord_47 (i := 1) rfl rfl ?_
    refine J_iload_n hx dX7_isWord_48 (i := 2) rfl rfl ?_
    refine J_invVK (As := [vI ((i : Nat) : Int)]) (st := [vI (B (tk.1 + i))]) hx hw lkM_193 okmSchr dX7_isWord_49 rfl rfl rfl (Nat.le_of_ble_eq_true rfl) rfl (c_Schr hw (i := i) (by omega) ?_)
    refine J_icmp_eq (tgt := 57) hx dX7_isWord_52 (by decide) (fun c3 => ?_) (fun c3 => ?_)
    · refine J_iinc (v := ((i : Nat) : Int) + 1) (lsn := [vR (r), vR (g.2.2.2.2.1 w), vI (((i : Nat) : Int) + 1)]) hx dX7_isWord_57 rfl (jinc1 (by omega) (by omega)) rfl rfl ?_
      refine J_goto (tgt := 28) hx dX7_isWord_60 (by decide) ?_
      exact lp_X7_isWord hT hE hw hwf hP hx hr hQ hty hln (i + 1) (by omega) (fun i9 h9 => by
          by_cases e9 : i9 = i
          · rw [e9]; assumption
          · exact hall i9 (by omega))
    · refine J_iconst (v := 0) hx dX7_isWord_55 (by decide) ?_
      refine J_zret hx hr dX7_isWord_56 (by omega) ?_
      exact hQ 0 (Or.inr ⟨rfl, fun h9 => absurd (h9.2.2 i (by omega)) (by assumption)⟩)
termination_by strL.getD w 0 - i
decreasing_by all_goals omega

set_option maxHeartbeats 4000000 in
theorem c_X7_isWord {g : WG} {d : Nat} {T : TT} {M : MM} {r sz z : Nat} {B : Nat → Int} {Q : MVal → TT → MM → Nat → Prop} (hT : MT T r) (hE : RPE M r z B) {tk : TK} {w : Nat} (hw : w < 7) (hwf : wfT B z tk) (hP : TPr M r B tk) (hQ : ∀ v : Int, ((v = 1 ∧ wdP B tk w) ∨ (v = 0 ∧ ¬ wdP B tk w)) → Q (vI v) T M sz) : Ct g (d + 5) mX7_isWord [vR (r), vR (g.2.2.2.2.1 w)] T M sz 0 0 Q := by
  refine Ct_of2 (ls := [vR (r), vR (g.2.2.2.2.1 w), vU]) okX7_isWord rfl (Nat.le_of_ble_eq_true rfl) rfl ?_
  intro x hx hr hnm
  have hs6 := (str_len ⟨w, hw⟩).2.2
  have hz2 := hE.z2
  have hw1 := hwf.2.1
  have hw3 := hwf.2.2.1
  refine J_aload_n hx dX7_isWord_0 (i := 0) rfl rfl ?_
  refine J_getI2 (v := tk.2.1) hx fl_X7_175 cl_X7 dX7_isWord_1 hT.o (by decide) rfl hP.2.1 ?_
  refine J_iconst (v := 1) hx dX7_isWord_4 (by decide) ?_
  refine J_icmp_ne (tgt := 24) hx dX7_isWord_5 (by decide) (fun c1 => ?_) (fun c1 => ?_)
  · refine J_iconst (v := 0) hx dX7_isWord_24 (by decide) ?_
    refine J_zret hx hr dX7_isWord_25 (by omega) ?_
    exact hQ 0 (Or.inr ⟨rfl, fun h9 => by have h8 := h9.1; have h7 := h9.2.1; omega⟩)
  · refine J_aload_n hx dX7_isWord_8 (i := 0) rfl rfl ?_
    refine J_getI2 (v := ((tk.2.2 : Nat) : Int)) hx fl_X7_166 cl_X7 dX7_isWord_9 hT.o (by decide) rfl hP.1 ?_
    refine J_aload_n hx dX7_isWord_12 (i := 0) rfl rfl ?_
    refine J_getI2 (v := ((tk.1 : Nat) : Int)) hx fl_X7_169 cl_X7 dX7_isWord_13 hT.o (by decide) rfl hP.2.2.1 ?_
    refine J_isub (v := ((tk.2.2 : Nat) : Int) - ((tk.1 : Nat) : Int)) hx dX7_isWord_16 (w32_id (by omega) (by omega)) ?_
    refine J_aload_n hx dX7_isWord_17 (i := 1) rfl rfl ?_
    refine J_invVK (As := []) (st := [vI (((tk.2.2 : Nat) : Int) - ((tk.1 : Nat) : Int))]) hx hw lkM_187 okmSlen dX7_isWord_18 rfl rfl rfl (Nat.le_of_ble_eq_true rfl) rfl (c_Slen hw ?_)
    refine J_icmp_eq (tgt := 26) hx dX7_isWord_21 (by decide) (fun c2 => ?_) (fun c2 => ?_)
    · refine J_iconst (v := 0) hx dX7_isWord_26 (by decide) ?_
      refine J_istore_n (lsn := [vR (r), vR (g.2.2.2.2.1 w), vI (0)]) hx dX7_isWord_27 (i := 2) rfl (Nat.le_of_ble_eq_true rfl) rfl rfl ?_
      exact lp_X7_isWord hT hE hw hwf hP hx hr hQ (by omega) (by omega) 0 (by omega) (fun i9 h9 => absurd h9 (Nat.not_lt_zero i9))
    · refine J_iconst (v := 0) hx dX7_isWord_24 (by decide) ?_
      refine J_zret hx hr dX7_isWord_25 (by omega) ?_
      exact hQ 0 (Or.inr ⟨rfl, fun h9 => by have h8 := h9.1; have h7 := h9.2.1; omega⟩)

set_option maxHeartbeats 4000000 in
theorem c_X7_number {g : WG} {d : Nat} {T : TT} {M : MM} {r sz z : Nat} {B : Nat → Int} {Q : MVal → TT → MM → Nat → Prop} (hT : MT T r) (hE : RPE M r z B) {tk : TK} {lo hi : Int} {i : Nat} (hi5 : i < 5) (hlo : 0 ≤ lo) (hhi : hi < 1000) (hlr : lo ≤ 1000) (hhr : -1000 ≤ hi) (hwf : wfT B z tk) (hP : TPr M r B tk) (hQ1 : okT B tk lo hi = true → ∀ M', TPr M' r B (tkN B z tk.2.2) → M' (r + 26) i = vlT B tk → (∀ i', i' ≠ i → M' (r + 26) i' = M (r + 26) i') → FrM r M M' → Q (vI 1) T M' sz) (hQ0 : okT B tk lo hi = false → ∀ M', M' r 31 = ((tk.1 : Nat) : Int) → FrM r M M' → Q (vI 0) T M' sz) : Ct g (d + 3) mX7_number [vR (r), vI (((i : Nat) : Int)), vI (lo), vI (hi)] T M sz 0 0 Q := by
  refine Ct_of2 (ls := [vR (r), vI (((i : Nat) : Int)), vI (lo), vI (hi)]) okX7_number rfl (Nat.le_of_ble_eq_true rfl) rfl ?_
  intro x hx hr hnm
  have hfr := fgT_rg hwf
  refine J_aload_n hx dX7_number_0 (i := 0) rfl rfl ?_
  refine J_getI2 (v := tk.2.1) hx fl_X7_175 cl_X7 dX7_number_1 hT.o (by decide) rfl hP.2.1 ?_
  refine J_iconst (v := 2) hx dX7_number_4 (by decide) ?_
  refine J_icmp_ne (tgt := 23) hx dX7_number_5 (by decide) (fun c1 => ?_) (fun c1 => ?_)
  · refine J_aload_n hx dX7_number_23 (i := 0) rfl rfl ?_
    refine J_invV (As := []) (st := []) hx lk_X7_197 okX7_wrong dX7_number_24 hT.o (by decide) rfl rfl rfl (Nat.le_of_ble_eq_true rfl) (Nat.zero_add _).symm (Nat.zero_add _).symm rfl (c_X7_wrong hT hP.2.2.1 ?_)
    intro M2 h31 hF2
    refine J_zret hx hr dX7_number_27 (by omega) ?_
    exact hQ0 (Bool.eq_false_iff.mpr (fun h9 => by have h8 := (okT_f (B := B) (tk := tk) hlo hhi).mp h9; omega)) M2 h31 (fun a9 j9 h8 h9 => hF2 a9 j9 (by omega))
  · refine J_aload_n hx dX7_number_8 (i := 0) rfl rfl ?_
    refine J_getI2 (v := fgT B tk) hx fl_X7_172 cl_X7 dX7_number_9 hT.o (by decide) rfl hP.2.2.2 ?_
    refine J_i2l hx dX7_number_12 ?_
    refine J_iload_n hx dX7_number_13 (i := 2) rfl rfl ?_
    refine J_i2l hx dX7_number_14 ?_
    refine J_iload_n hx dX7_number_15 (i := 3) rfl rfl ?_
    refine J_i2l hx dX7_number_16 ?_
    refine J_invS (As := [vL (fgT B tk), vL (lo), vL (hi)]) (st := []) hx lk_X7_85 okX7_in dX7_number_17 rfl rfl (Nat.le_of_ble_eq_true rfl) (Nat.zero_add _).symm (Nat.zero_add _).symm rfl (c_X7_in (a := fgT B tk) (lo := lo) (hi := hi) ?_)
    intro v2 hv2
    refine J_if_ne (tgt := 28) hx dX7_number_20 (by decide) (fun c3 => ?_) (fun c3 => ?_)
    · refine J_aload_n hx dX7_number_28 (i := 0) rfl rfl ?_
      refine J_getR (b := r + 26) hx fl_X7_73 cl_X7 dX7_number_29 hT.o (by decide) rfl hT.r32 ?_
      refine J_iload_n hx dX7_number_32 (i := 1) rfl rfl ?_
      refine J_aload_n hx dX7_number_33 (i := 0) rfl rfl ?_
      refine J_getI2 (v := fgT B tk) hx fl_X7_172 cl_X7 dX7_number_34 hT.o (by decide) rfl hP.2.2.2 ?_
      refine J_iast hx i dX7_number_37 hT.k26 (by omega) (hT.l26 (by omega)) ?_
      generalize eM1 : up2 M (r + 26) i (fgT B tk) = M1
      have hM1a : M1 (r + 26) i = fgT B tk := by rw [← eM1]; exact up2_at
      have hM1o : ∀ b9 j9, (b9 ≠ r + 26 ∨ j9 ≠ i) → M1 b9 j9 = M b9 j9 := fun b9 j9 h9 => by rw [← eM1]; exact up2_ne h9
      have hM1r : ∀ b9, b9 ≠ r + 26 → M1 b9 = M b9 := fun b9 h9 => by rw [← eM1]; exact up2_row h9
      have hE2 : RPE M1 r z B := ⟨by rw [hM1r _ (by omega)]; exact hE.z, hE.z2, fun j9 h9 => by rw [hM1r _ (by omega)]; exact hE.2.2 j9 h9⟩
      refine J_aload_n hx dX7_number_38 (i := 0) rfl rfl ?_
      refine J_invVv (As := []) (st := []) hx lk_X7_201 okX7_look dX7_number_39 hT.o (by decide) rfl rfl rfl (Nat.le_of_ble_eq_true rfl) (Nat.zero_add _).symm (Nat.zero_add _).symm rfl (c_X7_look hT hE2 (e := tk.2.2) hwf.2.2.1 (by rw [hM1r _ (by omega)]; exact hP.1) ?_)
      intro M2 hP2 hF2
      refine J_iconst (v := 1) hx dX7_number_42 (by decide) ?_
      refine J_zret hx hr dX7_number_43 (by omega) ?_
      have hok : okT B tk lo hi = true := (okT_f hlo hhi).mpr (by omega)
      have ev := okT_v hlo hok
      exact hQ1 hok M2 hP2 (by rw [hF2 _ _ (by omega), hM1a]; exact ev) (fun i9 h9 => by rw [hF2 _ _ (by omega), hM1o _ _ (Or.inr h9)]) (fun a9 j9 h8 h9 => by rw [hF2 _ _ (by omega), hM1o _ _ (Or.inl h9)])
    · refine J_aload_n hx dX7_number_23 (i := 0) rfl rfl ?_
      refine J_invV (As := []) (st := []) hx lk_X7_197 okX7_wrong dX7_number_24 hT.o (by decide) rfl rfl rfl (Nat.le_of_ble_eq_true rfl) (Nat.zero_add _).symm (Nat.zero_add _).symm rfl (c_X7_wrong hT hP.2.2.1 ?_)
      intro M2 h31 hF2
      refine J_zret hx hr dX7_number_27 (by omega) ?_
      exact hQ0 (Bool.eq_false_iff.mpr (fun h9 => by have h8 := (okT_f (B := B) (tk := tk) hlo hhi).mp h9; omega)) M2 h31 (fun a9 j9 h8 h9 => hF2 a9 j9 (by omega))

