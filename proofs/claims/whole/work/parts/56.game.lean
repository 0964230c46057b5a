def difY (A : YA) : Int := (((A.ch A.tn).length : Nat) : Int) - (((A.ch (1 - A.tn)).length : Nat) : Int)
/-- what a run of p at j comes to: the least by side, seen by the one that calls -/
def jtV (f : YA → Int) (A : YA) (p j : Nat) : Int := if strl A (A.ch A.tn) j < force A p then (if - f (runT A p j (takenY A j 1)) < - f (runT A p j (takenY A j 0)) then - f (runT A p j (takenY A j 1)) else - f (runT A p j (takenY A j 0))) else - f (runH A p j)
def lbJ (h : Nat → Int) : Nat → Int
  | 0 => 9
  | j + 1 => if h j < lbJ h j then h j else lbJ h j
def lbP (f : YA → Int) (A : YA) (p : Nat) : Int := lbJ (jtV f A p) ((A.ch A.tn).length - 1)
def gmK (f : YA → Int) (A : YA) (p : Nat) : Int := - lbP f A p
def gmC (f : YA → Int) (A : YA) : Int := pkI (calY A) (gmK f A) A.n
def gmV : Nat → YA → Int
  | 0, A => difY A
  | d + 1, A => if ((A.ch 0).length < 2 ∨ (A.ch 1).length < 2 ∨ A.sc 4 ≤ A.sc 6) then difY A else - pkV 9 (calY A) (gmK (gmV d) A) A.n
theorem jtV_t {f : YA → Int} {A : YA} {p j : Nat} (h : strl A (A.ch A.tn) j < force A p) : jtV f A p j = (if - f (runT A p j (takenY A j 1)) < - f (runT A p j (takenY A j 0)) then - f (runT A p j (takenY A j 1)) else - f (runT A p j (takenY A j 0))) := if_pos h
theorem jtV_h {f : YA → Int} {A : YA} {p j : Nat} (h : ¬ strl A (A.ch A.tn) j < force A p) : jtV f A p j = - f (runH A p j) := if_neg h
theorem gmV_o {A : YA} (h : overY A) (d : Nat) : gmV d A = difY A := by
  cases d with
  | zero => rfl
  | succ d => exact if_pos h
theorem gmV_s {A : YA} (h : ¬ overY A) (d : Nat) : gmV (d + 1) A = - pkV 9 (calY A) (gmK (gmV d) A) A.n := if_neg h
theorem lbJ_s (h : Nat → Int) (j : Nat) : lbJ h (j + 1) = if h j < lbJ h j then h j else lbJ h j := rfl
theorem lbJ_rg {h : Nat → Int} : ∀ {k : Nat}, (∀ j, j < k → -8 ≤ h j ∧ h j ≤ 8) → -8 ≤ lbJ h k ∧ lbJ h k ≤ 9 ∧ (1 ≤ k → lbJ h k ≤ 8)
  | 0, _ => ⟨(show (-8 : Int) ≤ 9 by decide), (show (9 : Int) ≤ 9 by decide), fun q => absurd q (by decide)⟩
  | k + 1, hh => by
    have ih := lbJ_rg (h := h) (k := k) (fun j hj => hh j (by omega))
    have h1 := hh k (by omega)
    rw [lbJ_s]
    split <;> omega
theorem difY_rg {A : YA} (h : WFY A) : -8 ≤ difY A ∧ difY A ≤ 8 := by
  have ht := h.tn2
  have h1 := h.len8 ht; have h2 := h.len8 (c := 1 - A.tn) (by omega)
  unfold difY; omega
/-- f counts within 8 on every yard that is as it must be -/
def f8 (f : YA → Int) : Prop := ∀ A, WFY A → -8 ≤ f A ∧ f A ≤ 8
theorem jtV_rg {f : YA → Int} (hf : f8 f) {A : YA} (h : WFY A) (ho : ¬ overY A) {p j : Nat} (hp : p < A.n) (hc : A.co p ≠ A.tn) (hj : j + 1 < (A.ch A.tn).length) : -8 ≤ jtV f A p j ∧ jtV f A p j ≤ 8 := by
  have h0 := hf _ (runT_wf h hp hc hj ho (taken_mem h hj (sd := 0) (by decide)))
  have h1 := hf _ (runT_wf h hp hc hj ho (taken_mem h hj (sd := 1) (by decide)))
  have h2 := hf _ (runH_wf h hp hc hj ho)
  unfold jtV
  (repeat' split) <;> omega
theorem lbP_rg {f : YA → Int} (hf : f8 f) {A : YA} (h : WFY A) (ho : ¬ overY A) {p : Nat} (hp : p < A.n) (hc : A.co p ≠ A.tn) : -8 ≤ lbP f A p ∧ lbP f A p ≤ 8 := by
  have h2 := (not_over2 h ho).1
  have := lbJ_rg (h := jtV f A p) (k := (A.ch A.tn).length - 1) (fun j hj => jtV_rg hf h ho hp hc (by omega))
  unfold lbP
  omega
theorem gm_some {f : YA → Int} {A : YA} (h : WFY A) (ho : ¬ overY A) : ∃ b, pick (calY A) (gmK f A) A.n = some b ∧ b < A.n ∧ A.co b ≠ A.tn := by
  have hl := (not_over2 h ho).2.1
  have ht := h.tn2
  have hm := h.mem (c := 1 - A.tn) (k := 0) (by omega) (by omega)
  have hp := h.lt (show 1 - A.tn < 2 by omega) hm
  have hc := h.co (show 1 - A.tn < 2 by omega) hm
  obtain ⟨b, b1, b2, b3, -⟩ := pick_some (P := calY A) (k := gmK f A) hp (by unfold calY; rw [hc]; simp; omega)
  refine ⟨b, b1, b2, ?_⟩
  unfold calY at b3
  simpa using b3
theorem gmV_rg : ∀ d : Nat, f8 (gmV d)
  | 0 => fun A h => difY_rg h
  | d + 1 => fun A h => by
    by_cases ho : overY A
    · rw [gmV_o ho]; exact difY_rg h
    · rw [gmV_s ho]
      obtain ⟨b, b1, b2, b3⟩ := gm_some (f := gmV d) h ho
      rw [pkV_of b1]
      have := lbP_rg (gmV_rg d) h ho b2 b3
      unfold gmK; omega
theorem pkV9_rg {f : YA → Int} (hf : f8 f) {A : YA} (h : WFY A) (ho : ¬ overY A) {i : Nat} (hi : i ≤ A.n) : -8 ≤ pkV 9 (calY A) (gmK f A) i ∧ pkV 9 (calY A) (gmK f A) i ≤ 9 := by
  have hs := pick_spec (calY A) (gmK f A) i
  cases h9 : pick (calY A) (gmK f A) i with
  | none => unfold pkV; rw [h9]; exact (show (-8 : Int) ≤ 9 ∧ (9 : Int) ≤ 9 by decide)
  | some b =>
    rw [h9] at hs
    rw [pkV_of h9]
    have hb := hs.2.1
    unfold calY at hb
    have := lbP_rg hf h ho (p := b) (by omega) (by simpa using hb)
    unfold gmK; omega
def FrG1 (o : Nat) (M M' : MM) : Prop := ∀ a, ¬ (o + 23 ≤ a ∧ a < o + 34) → a ≠ o + 35 → M' a = M a
def FrG2 (o : Nat) (M M' : MM) : Prop := ∀ a, ¬ (o + 23 ≤ a ∧ a < o + 34) → ¬ (o + 37 ≤ a ∧ a < o + 48) → a ≠ o + 35 → M' a = M a
theorem FrG1.rf {o : Nat} {M : MM} : FrG1 o M M := fun _ _ _ => rfl
theorem FrG2.rf {o : Nat} {M : MM} : FrG2 o M M := fun _ _ _ _ => rfl
theorem FrG1.tr {o : Nat} {M M1 M2 : MM} (h : FrG1 o M M1) (h2 : FrG1 o M1 M2) : FrG1 o M M2 := fun a h3 h4 => (h2 a h3 h4).trans (h a h3 h4)
theorem FrG2.tr {o : Nat} {M M1 M2 : MM} (h : FrG2 o M M1) (h2 : FrG2 o M1 M2) : FrG2 o M M2 := fun a h3 h4 h5 => (h2 a h3 h4 h5).trans (h a h3 h4 h5)
theorem FrG1.y {o : Nat} {M M' : MM} (h : FrY (o + 23) M M') : FrG1 o M M' := fun a h3 h4 => h a (by omega)
theorem FrG2.y {o : Nat} {M M' : MM} (h : FrY (o + 37) M M') : FrG2 o M M' := fun a h3 h4 h5 => h a (by omega)
theorem FrG1.to2 {o : Nat} {M M' : MM} (h : FrG1 o M M') : FrG2 o M M' := fun a h3 h4 h5 => h a h3 h5
theorem FrG1.k {o : Nat} {M M' : MM} (h : FrG1 o M M') {A : YA} (hY : YN M (o + 37) A) : YN M' (o + 37) A := hY.same (fun a h1 h2 => h a (by omega) (by omega))
theorem FrG2.k {o : Nat} {M M' : MM} (h : FrG2 o M M') {A : YA} (hY : YN M (o + 48) A) : YN M' (o + 48) A := hY.same (fun a h1 h2 => h a (by omega) (by omega) (by omega))
theorem CN.g2 {M M' : MM} {o : Nat} {S : ST} (h : CN M o S) (hF : FrG2 o M M') : CN M' o S := h.same (fun a ha => hF a (by omega) (by omega) (by omega)) (by rw [hF o (by omega) (by omega) (by omega)]) (by rw [hF _ (by omega) (by omega) (by omega)])
def a_game (S : ST) (d : Int) : Int × ST := if ¬ (0 ≤ d ∧ d ≤ 2) then (-1002, rfS S 0) else if ((S.1.ch 0).length < 2 ∨ (S.1.ch 1).length < 2 ∨ S.1.sc 4 ≤ S.1.sc 6) then (-1005, rfS S 3) else (gmV d.toNat S.1, S)
def a_first (S : ST) (d : Int) : Int × ST := if ¬ (1 ≤ d ∧ d ≤ 2) then rA S 0 else if ((S.1.ch 0).length < 2 ∨ (S.1.ch 1).length < 2 ∨ S.1.sc 4 ≤ S.1.sc 6) then rA S 3 else (gmC (gmV (d.toNat - 1)) S.1, S)
set_option maxHeartbeats 4000000 in
theorem c_X0_mostByCall_0 {g : WG} {d : Nat} {T : TT} {M : MM} {o sz : Nat} {A : YA} {Q : MVal → TT → MM → Nat → Prop} (hC : CT T o) (hWA : WFY A) (hY : YN M (o + 23) A) (hQ : Q (vI (difY A)) T M sz) : Ct g (d + 2) mX0_mostByCall [vR (o + 35), vI (0)] T M sz 0 0 Q := by
  refine Ct_of2 (ls := [vR (o + 35), vI (0), vU, vU, vU, vU, vU]) okX0_mostByCall rfl (Nat.le_of_ble_eq_true rfl) rfl ?_
  intro x hx hr hnm
  have hn8 := hWA.n8
  have ht2 := hWA.tn2
  have hl8 := hWA.len8 ht2
  refine J_aload_n hx dX0_mostByCall_0 (i := 0) rfl rfl ?_
  refine J_getR (b := o + 36) hx fl_X0_11 cl_X0 dX0_mostByCall_1 hC.k35 (by decide) rfl hC.g0 ?_
  refine J_iload_n hx dX0_mostByCall_4 (i := 1) rfl rfl ?_
  refine J_aald (b := o + 23) hx 0 dX0_mostByCall_5 hC.k36 (by decide) (by omega) (by rw [hC.n36]; decide) hC.q0 ?_
  refine J_astore_n (lsn := [vR (o + 35), vI (0), vR (o + 23), vU, vU, vU, vU]) hx dX0_mostByCall_6 (i := 2) rfl (Nat.le_of_ble_eq_true rfl) rfl rfl ?_
  refine J_iload_n hx dX0_mostByCall_7 (i := 1) rfl rfl ?_
  refine J_if_le (tgt := 18) hx dX0_mostByCall_8 (by decide) (fun _ => ?_) (fun c9 => absurd c9 (by decide))
  refine J_aload_n hx dX0_mostByCall_18 (i := 2) rfl rfl ?_
  refine J_getR (b := o + 23 + 10) hx fl_X0_30 cl_X5 dX0_mostByCall_19 hC.y2.o (by decide) rfl hC.y2.r7 ?_
  refine J_aload_n hx dX0_mostByCall_22 (i := 2) rfl rfl ?_
  refine J_getI2 (v := ((A.tn : Nat) : Int)) hx fl_X0_34 cl_X5 dX0_mostByCall_23 hC.y2.o (by decide) rfl (hY.tn hWA) ?_
  have rg2 := hWA.tn2
  refine J_iald2 (v := (((A.ch A.tn).length : Nat) : Int)) hx A.tn dX0_mostByCall_26 hC.y2.k10 (by omega) (hC.y2.l10 (by omega)) (hY.sz (by omega)) ?_
  have rg3 := hWA.len8 (c := A.tn) (by omega)
  have rg4 := hWA.lenN (c := A.tn) (by omega)
  refine J_aload_n hx dX0_mostByCall_27 (i := 2) rfl rfl ?_
  refine J_getR (b := o + 23 + 10) hx fl_X0_30 cl_X5 dX0_mostByCall_28 hC.y2.o (by decide) rfl hC.y2.r7 ?_
  refine J_iconst (v := 1) hx dX0_mostByCall_31 (by decide) ?_
  refine J_aload_n hx dX0_mostByCall_32 (i := 2) rfl rfl ?_
  refine J_getI2 (v := ((A.tn : Nat) : Int)) hx fl_X0_34 cl_X5 dX0_mostByCall_33 hC.y2.o (by decide) rfl (hY.tn hWA) ?_
  have rg5 := hWA.tn2
  refine J_isub (v := ((1 - A.tn : Nat) : Int)) hx dX0_mostByCall_36 (by rw [w32_id (by omega) (by omega)]; omega) ?_
  refine J_iald2 (v := (((A.ch (1 - A.tn)).length : Nat) : Int)) hx (1 - A.tn) dX0_mostByCall_37 hC.y2.k10 (by omega) (hC.y2.l10 (by omega)) (hY.sz (by omega)) ?_
  have rg6 := hWA.len8 (c := 1 - A.tn) (by omega)
  have rg7 := hWA.lenN (c := 1 - A.tn) (by omega)
  refine J_isub (v := (((A.ch A.tn).length : Nat) : Int) - (((A.ch (1 - A.tn)).length : Nat) : Int)) hx dX0_mostByCall_38 (w32_id (by omega) (by omega)) ?_
  refine J_iret hx hr dX0_mostByCall_39 ?_
  exact hQ

set_option maxHeartbeats 4000000 in
theorem c_X0_valueBehind_1_0 {g : WG} {d : Nat} {T : TT} {M : MM} {o sz : Nat} {A : YA} {Q : MVal → TT → MM → Nat → Prop} (hC : CT T o) (hWA : WFY A) (hY : YN M (o + 37) A) {p j : Nat} (hp : p < A.n) (hc : A.co p ≠ A.tn) (hj : j + 1 < (A.ch A.tn).length) (ho : ¬ overY A) (hQ : ∀ M', FrG1 o M M' → Q (vI (-(gmV 0 (runH A p j)))) T M' sz) : Ct g (d + 3) mX0_valueBehind [vR (o + 35), vI (((p : Nat) : Int)), vI (((j : Nat) : Int)), vI (0), vI (1)] T M sz 0 0 Q := by
  refine Ct_of2 (ls := [vR (o + 35), vI (((p : Nat) : Int)), vI (((j : Nat) : Int)), vI (0), vI (1)]) okX0_valueBehind rfl (Nat.le_of_ble_eq_true rfl) rfl ?_
  intro x hx hr hnm
  have hn8 := hWA.n8
  have ht2 := hWA.tn2
  have hl8 := hWA.len8 ht2
  refine J_iload hx dX0_valueBehind_0 rfl ?_
  refine J_iconst (v := 1) hx dX0_valueBehind_2 (by decide) ?_
  refine J_icmp_ge (tgt := 8) hx dX0_valueBehind_3 (by decide) (fun _ => ?_) (fun c9 => absurd c9 (by decide))
  refine J_aload_n hx dX0_valueBehind_8 (i := 0) rfl rfl ?_
  refine J_getR (b := o + 36) hx fl_X0_11 cl_X0 dX0_valueBehind_9 hC.k35 (by decide) rfl hC.g0 ?_
  refine J_iload hx dX0_valueBehind_12 rfl ?_
  refine J_iconst (v := 1) hx dX0_valueBehind_14 (by decide) ?_
  refine J_isub (v := 0) hx dX0_valueBehind_15 (by decide) ?_
  refine J_aald (b := o + 23) hx 0 dX0_valueBehind_16 hC.k36 (by decide) (by omega) (by rw [hC.n36]; decide) hC.q0 ?_
  refine J_aload_n hx dX0_valueBehind_17 (i := 0) rfl rfl ?_
  refine J_getR (b := o + 36) hx fl_X0_11 cl_X0 dX0_valueBehind_18 hC.k35 (by decide) rfl hC.g0 ?_
  refine J_iload hx dX0_valueBehind_21 rfl ?_
  refine J_aald (b := o + 37) hx 1 dX0_valueBehind_23 hC.k36 (by decide) (by omega) (by rw [hC.n36]; decide) hC.q1 ?_
  refine J_invVv (As := [vR (o + 37)]) (st := []) hx lk_X0_18 okX5_becomeAs dX0_valueBehind_24 hC.y2.o (by decide) rfl rfl rfl (Nat.le_of_ble_eq_true rfl) (Nat.zero_add _).symm (Nat.zero_add _).symm rfl (c_X5_becomeAs hC.y2 hC.y3 hY hWA (by omega) ?_)
  intro M1 hY1 hF1
  refine J_aload_n hx dX0_valueBehind_27 (i := 0) rfl rfl ?_
  refine J_getR (b := o + 36) hx fl_X0_11 cl_X0 dX0_valueBehind_28 hC.k35 (by decide) rfl hC.g0 ?_
  refine J_iload hx dX0_valueBehind_31 rfl ?_
  refine J_iconst (v := 1) hx dX0_valueBehind_33 (by decide) ?_
  refine J_isub (v := 0) hx dX0_valueBehind_34 (by decide) ?_
  refine J_aald (b := o + 23) hx 0 dX0_valueBehind_35 hC.k36 (by decide) (by omega) (by rw [hC.n36]; decide) hC.q0 ?_
  refine J_iload_n hx dX0_valueBehind_36 (i := 1) rfl rfl ?_
  refine J_iload_n hx dX0_valueBehind_37 (i := 2) rfl rfl ?_
  refine J_iload_n hx dX0_valueBehind_38 (i := 3) rfl rfl ?_
  refine J_invVv (As := [vI (((p : Nat) : Int)), vI (((j : Nat) : Int)), vI (0)]) (st := []) hx lk_X0_67 okX5_comeToPass dX0_valueBehind_39 hC.y2.o (by decide) rfl rfl rfl (Nat.le_of_ble_eq_true rfl) (Nat.zero_add _).symm (Nat.zero_add _).symm rfl (c_X5_comeToPass_held hC.y2 hY1 hWA (p := p) (j := j) hp hc hj ho ?_)
  intro M2 hY2 hF2
  have hWB : WFY (runH A p j) := runH_wf hWA hp hc hj ho
  have rgg := gmV_rg 0 _ hWB
  refine J_aload_n hx dX0_valueBehind_42 (i := 0) rfl rfl ?_
  refine J_iload hx dX0_valueBehind_43 rfl ?_
  refine J_iconst (v := 1) hx dX0_valueBehind_45 (by decide) ?_
  refine J_isub (v := 0) hx dX0_valueBehind_46 (by decide) ?_
  refine J_invV (As := [vI (0)]) (st := []) hx lk_X0_22 okX0_mostByCall dX0_valueBehind_47 hC.k35 (by decide) rfl rfl rfl (Nat.le_of_ble_eq_true rfl) (Nat.zero_add _).symm (Nat.zero_add _).symm rfl (c_X0_mostByCall_0 hC hWB hY2 ?_)
  show Jd _ _ _ _ (vI (gmV 0 (runH A p j)) :: _) _ _ _ _ _
  refine J_ineg (v := -(gmV 0 (runH A p j))) hx dX0_valueBehind_50 (w32_id (by omega) (by omega)) ?_
  refine J_iret hx hr dX0_valueBehind_51 ?_
  exact hQ M2 (FrG1.y (hF1.tr hF2))

set_option maxHeartbeats 4000000 in
theorem c_X0_valueBehind_1_1 {g : WG} {d : Nat} {T : TT} {M : MM} {o sz : Nat} {A : YA} {Q : MVal → TT → MM → Nat → Prop} (hC : CT T o) (hWA : WFY A) (hY : YN M (o + 37) A) {p j : Nat} (hp : p < A.n) (hc : A.co p ≠ A.tn) (hj : j + 1 < (A.ch A.tn).length) (ho : ¬ overY A) (hQ : ∀ M', FrG1 o M M' → Q (vI (-(gmV 0 (runT A p j (takenY A j 0))))) T M' sz) : Ct g (d + 3) mX0_valueBehind [vR (o + 35), vI (((p : Nat) : Int)), vI (((j : Nat) : Int)), vI (1), vI (1)] T M sz 0 0 Q := by
  refine Ct_of2 (ls := [vR (o + 35), vI (((p : Nat) : Int)), vI (((j : Nat) : Int)), vI (1), vI (1)]) okX0_valueBehind rfl (Nat.le_of_ble_eq_true rfl) rfl ?_
  intro x hx hr hnm
  have hn8 := hWA.n8
  have ht2 := hWA.tn2
  have hl8 := hWA.len8 ht2
  refine J_iload hx dX0_valueBehind_0 rfl ?_
  refine J_iconst (v := 1) hx dX0_valueBehind_2 (by decide) ?_
  refine J_icmp_ge (tgt := 8) hx dX0_valueBehind_3 (by decide) (fun _ => ?_) (fun c9 => absurd c9 (by decide))
  refine J_aload_n hx dX0_valueBehind_8 (i := 0) rfl rfl ?_
  refine J_getR (b := o + 36) hx fl_X0_11 cl_X0 dX0_valueBehind_9 hC.k35 (by decide) rfl hC.g0 ?_
  refine J_iload hx dX0_valueBehind_12 rfl ?_
  refine J_iconst (v := 1) hx dX0_valueBehind_14 (by decide) ?_
  refine J_isub (v := 0) hx dX0_valueBehind_15 (by decide) ?_
  refine J_aald (b := o + 23) hx 0 dX0_valueBehind_16 hC.k36 (by decide) (by omega) (by rw [hC.n36]; decide) hC.q0 ?_
  refine J_aload_n hx dX0_valueBehind_17 (i := 0) rfl rfl ?_
  refine J_getR (b := o + 36) hx fl_X0_11 cl_X0 dX0_valueBehind_18 hC.k35 (by decide) rfl hC.g0 ?_
  refine J_iload hx dX0_valueBehind_21 rfl ?_
  refine J_aald (b := o + 37) hx 1 dX0_valueBehind_23 hC.k36 (by decide) (by omega) (by rw [hC.n36]; decide) hC.q1 ?_
  refine J_invVv (As := [vR (o + 37)]) (st := []) hx lk_X0_18 okX5_becomeAs dX0_valueBehind_24 hC.y2.o (by decide) rfl rfl rfl (Nat.le_of_ble_eq_true rfl) (Nat.zero_add _).symm (Nat.zero_add _).symm rfl (c_X5_becomeAs hC.y2 hC.y3 hY hWA (by omega) ?_)
  intro M1 hY1 hF1
  refine J_aload_n hx dX0_valueBehind_27 (i := 0) rfl rfl ?_
  refine J_getR (b := o + 36) hx fl_X0_11 cl_X0 dX0_valueBehind_28 hC.k35 (by decide) rfl hC.g0 ?_
  refine J_iload hx dX0_valueBehind_31 rfl ?_
  refine J_iconst (v := 1) hx dX0_valueBehind_33 (by decide) ?_
  refine J_isub (v := 0) hx dX0_valueBehind_34 (by decide) ?_
  refine J_aald (b := o + 23) hx 0 dX0_valueBehind_35 hC.k36 (by decide) (by omega) (by rw [hC.n36]; decide) hC.q0 ?_
  refine J_iload_n hx dX0_valueBehind_36 (i := 1) rfl rfl ?_
  refine J_iload_n hx dX0_valueBehind_37 (i := 2) rfl rfl ?_
  refine J_iload_n hx dX0_valueBehind_38 (i := 3) rfl rfl ?_
  refine J_invVv (As := [vI (((p : Nat) : Int)), vI (((j : Nat) : Int)), vI (1)]) (st := []) hx lk_X0_67 okX5_comeToPass dX0_valueBehind_39 hC.y2.o (by decide) rfl rfl rfl (Nat.le_of_ble_eq_true rfl) (Nat.zero_add _).symm (Nat.zero_add _).symm rfl (c_X5_comeToPass_torn1 hC.y2 hY1 hWA (p := p) (j := j) hp hc hj ho ?_)
  intro M2 hY2 hF2
  have hWB : WFY (runT A p j (takenY A j 0)) := runT_wf hWA hp hc hj ho (taken_mem hWA hj (by decide))
  have rgg := gmV_rg 0 _ hWB
  refine J_aload_n hx dX0_valueBehind_42 (i := 0) rfl rfl ?_
  refine J_iload hx dX0_valueBehind_43 rfl ?_
  refine J_iconst (v := 1) hx dX0_valueBehind_45 (by decide) ?_
  refine J_isub (v := 0) hx dX0_valueBehind_46 (by decide) ?_
  refine J_invV (As := [vI (0)]) (st := []) hx lk_X0_22 okX0_mostByCall dX0_valueBehind_47 hC.k35 (by decide) rfl rfl rfl (Nat.le_of_ble_eq_true rfl) (Nat.zero_add _).symm (Nat.zero_add _).symm rfl (c_X0_mostByCall_0 hC hWB hY2 ?_)
  show Jd _ _ _ _ (vI (gmV 0 (runT A p j (takenY A j 0))) :: _) _ _ _ _ _
  refine J_ineg (v := -(gmV 0 (runT A p j (takenY A j 0)))) hx dX0_valueBehind_50 (w32_id (by omega) (by omega)) ?_
  refine J_iret hx hr dX0_valueBehind_51 ?_
  exact hQ M2 (FrG1.y (hF1.tr hF2))

set_option maxHeartbeats 4000000 in
theorem c_X0_valueBehind_1_2 {g : WG} {d : Nat} {T : TT} {M : MM} {o sz : Nat} {A : YA} {Q : MVal → TT → MM → Nat → Prop} (hC : CT T o) (hWA : WFY A) (hY : YN M (o + 37) A) {p j : Nat} (hp : p < A.n) (hc : A.co p ≠ A.tn) (hj : j + 1 < (A.ch A.tn).length) (ho : ¬ overY A) (hQ : ∀ M', FrG1 o M M' → Q (vI (-(gmV 0 (runT A p j (takenY A j 1))))) T M' sz) : Ct g (d + 3) mX0_valueBehind [vR (o + 35), vI (((p : Nat) : Int)), vI (((j : Nat) : Int)), vI (2), vI (1)] T M sz 0 0 Q := by
  refine Ct_of2 (ls := [vR (o + 35), vI (((p : Nat) : Int)), vI (((j : Nat) : Int)), vI (2), vI (1)]) okX0_valueBehind rfl (Nat.le_of_ble_eq_true rfl) rfl ?_
  intro x hx hr hnm
  have hn8 := hWA.n8
  have ht2 := hWA.tn2
  have hl8 := hWA.len8 ht2
  refine J_iload hx dX0_valueBehind_0 rfl ?_
  refine J_iconst (v := 1) hx dX0_valueBehind_2 (by decide) ?_
  refine J_icmp_ge (tgt := 8) hx dX0_valueBehind_3 (by decide) (fun _ => ?_) (fun c9 => absurd c9 (by decide))
  refine J_aload_n hx dX0_valueBehind_8 (i := 0) rfl rfl ?_
  refine J_getR (b := o + 36) hx fl_X0_11 cl_X0 dX0_valueBehind_9 hC.k35 (by decide) rfl hC.g0 ?_
  refine J_iload hx dX0_valueBehind_12 rfl ?_
  refine J_iconst (v := 1) hx dX0_valueBehind_14 (by decide) ?_
  refine J_isub (v := 0) hx dX0_valueBehind_15 (by decide) ?_
  refine J_aald (b := o + 23) hx 0 dX0_valueBehind_16 hC.k36 (by decide) (by omega) (by rw [hC.n36]; decide) hC.q0 ?_
  refine J_aload_n hx dX0_valueBehind_17 (i := 0) rfl rfl ?_
  refine J_getR (b := o + 36) hx fl_X0_11 cl_X0 dX0_valueBehind_18 hC.k35 (by decide) rfl hC.g0 ?_
  refine J_iload hx dX0_valueBehind_21 rfl ?_
  refine J_aald (b := o + 37) hx 1 dX0_valueBehind_23 hC.k36 (by decide) (by omega) (by rw [hC.n36]; decide) hC.q1 ?_
  refine J_invVv (As := [vR (o + 37)]) (st := []) hx lk_X0_18 okX5_becomeAs dX0_valueBehind_24 hC.y2.o (by decide) rfl rfl rfl (Nat.le_of_ble_eq_true rfl) (Nat.zero_add _).symm (Nat.zero_add _).symm rfl (c_X5_becomeAs hC.y2 hC.y3 hY hWA (by omega) ?_)
  intro M1 hY1 hF1
  refine J_aload_n hx dX0_valueBehind_27 (i := 0) rfl rfl ?_
  refine J_getR (b := o + 36) hx fl_X0_11 cl_X0 dX0_valueBehind_28 hC.k35 (by decide) rfl hC.g0 ?_
  refine J_iload hx dX0_valueBehind_31 rfl ?_
  refine J_iconst (v := 1) hx dX0_valueBehind_33 (by decide) ?_
  refine J_isub (v := 0) hx dX0_valueBehind_34 (by decide) ?_
  refine J_aald (b := o + 23) hx 0 dX0_valueBehind_35 hC.k36 (by decide) (by omega) (by rw [hC.n36]; decide) hC.q0 ?_
  refine J_iload_n hx dX0_valueBehind_36 (i := 1) rfl rfl ?_
  refine J_iload_n hx dX0_valueBehind_37 (i := 2) rfl rfl ?_
  refine J_iload_n hx dX0_valueBehind_38 (i := 3) rfl rfl ?_
  refine J_invVv (As := [vI (((p : Nat) : Int)), vI (((j : Nat) : Int)), vI (2)]) (st := []) hx lk_X0_67 okX5_comeToPass dX0_valueBehind_39 hC.y2.o (by decide) rfl rfl rfl (Nat.le_of_ble_eq_true rfl) (Nat.zero_add _).symm (Nat.zero_add _).symm rfl (c_X5_comeToPass_torn2 hC.y2 hY1 hWA (p := p) (j := j) hp hc hj ho ?_)
  intro M2 hY2 hF2
  have hWB : WFY (runT A p j (takenY A j 1)) := runT_wf hWA hp hc hj ho (taken_mem hWA hj (by decide))
  have rgg := gmV_rg 0 _ hWB
  refine J_aload_n hx dX0_valueBehind_42 (i := 0) rfl rfl ?_
  refine J_iload hx dX0_valueBehind_43 rfl ?_
  refine J_iconst (v := 1) hx dX0_valueBehind_45 (by decide) ?_
  refine J_isub (v := 0) hx dX0_valueBehind_46 (by decide) ?_
  refine J_invV (As := [vI (0)]) (st := []) hx lk_X0_22 okX0_mostByCall dX0_valueBehind_47 hC.k35 (by decide) rfl rfl rfl (Nat.le_of_ble_eq_true rfl) (Nat.zero_add _).symm (Nat.zero_add _).symm rfl (c_X0_mostByCall_0 hC hWB hY2 ?_)
  show Jd _ _ _ _ (vI (gmV 0 (runT A p j (takenY A j 1))) :: _) _ _ _ _ _
  refine J_ineg (v := -(gmV 0 (runT A p j (takenY A j 1)))) hx dX0_valueBehind_50 (w32_id (by omega) (by omega)) ?_
  refine J_iret hx hr dX0_valueBehind_51 ?_
  exact hQ M2 (FrG1.y (hF1.tr hF2))

set_option maxHeartbeats 4000000 in
theorem lp_X0_leastByRun_1 {g : WG} {d : Nat} {T : TT} {M : MM} {o sz : Nat} {A : YA} {Q : MVal → TT → MM → Nat → Prop} (hC : CT T o) (hWA : WFY A) {x : CX} (hx : OKx g x RX0 cX0_leastByRun (d + 4)) (hr : RTx g x (some .int) Q) {p : Nat} (hp : p < A.n) (hc : A.co p ≠ A.tn) (ho : ¬ overY A) (hQ : ∀ M', FrG1 o M M' → Q (vI (lbP (gmV 0) A p)) T M' sz) (j : Nat) (M1 : MM) (hY1 : YN M1 (o + 37) A) (hF1 : FrG1 o M M1) (hj : j + 1 ≤ (A.ch A.tn).length) : Jd g x 21 [vR (o + 35), vI (((p : Nat) : Int)), vI (1), vR (o + 37), vI (force A p), vI (lbJ (jtV (gmV 0) A p) j), vI (((j : Nat) : Int))] [] T M1 sz 0 0 := by
  have hn8 := hWA.n8
  have ht2 := hWA.tn2
  have hl8 := hWA.len8 ht2
  have hnv := not_over2 hWA ho
  have rgf := force_rg hWA hp
  refine J_iload hx dX0_leastByRun_21 rfl ?_
  refine J_aload_n hx dX0_leastByRun_23 (i := 3) rfl rfl ?_
  refine J_getR (b := o + 37 + 10) hx fl_X0_30 cl_X5 dX0_leastByRun_24 hC.y3.o (by decide) rfl hC.y3.r7 ?_
  refine J_aload_n hx dX0_leastByRun_27 (i := 3) rfl rfl ?_
  refine J_getI2 (v := ((A.tn : Nat) : Int)) hx fl_X0_34 cl_X5 dX0_leastByRun_28 hC.y3.o (by decide) rfl (hY1.tn hWA) ?_
  have rg1 := hWA.tn2
  refine J_iald2 (v := (((A.ch A.tn).length : Nat) : Int)) hx A.tn dX0_leastByRun_31 hC.y3.k10 (by omega) (hC.y3.l10 (by omega)) (hY1.sz (by omega)) ?_
  have rg2 := hWA.len8 (c := A.tn) (by omega)
  have rg3 := hWA.lenN (c := A.tn) (by omega)
  refine J_iconst (v := 1) hx dX0_leastByRun_32 (by decide) ?_
  refine J_isub (v := (((A.ch A.tn).length : Nat) : Int) - 1) hx dX0_leastByRun_33 (w32_id (by omega) (by omega)) ?_
  refine J_icmp_ge (tgt := 109) hx dX0_leastByRun_34 (by decide) (fun c4 => ?_) (fun c4 => ?_)
  · refine J_iload hx dX0_leastByRun_109 rfl ?_
    refine J_iret hx hr dX0_leastByRun_111 ?_
    have ej : j = (A.ch A.tn).length - 1 := by omega
    subst ej
    exact hQ M1 hF1
  · refine J_iload hx dX0_leastByRun_37 rfl ?_
    refine J_aload_n hx dX0_leastByRun_39 (i := 3) rfl rfl ?_
    refine J_aload_n hx dX0_leastByRun_40 (i := 3) rfl rfl ?_
    refine J_getI2 (v := ((A.tn : Nat) : Int)) hx fl_X0_34 cl_X5 dX0_leastByRun_41 hC.y3.o (by decide) rfl (hY1.tn hWA) ?_
    have rg5 := hWA.tn2
    refine J_iload hx dX0_leastByRun_44 rfl ?_
    refine J_invV (As := [vI (((A.tn : Nat) : Int)), vI (((j : Nat) : Int))]) (st := [vI (force A p)]) hx lk_X0_55 okX5_strengthAt dX0_leastByRun_46 hC.y3.o (by decide) rfl rfl rfl (Nat.le_of_ble_eq_true rfl) (Nat.zero_add _).symm (Nat.zero_add _).symm rfl (c_X5_strengthAt hC.y3 hY1 hWA (c := A.tn) (by omega) (j := j) (by omega) ?_)
    have rg6 := strl_rg hWA (l := A.ch A.tn) (fun p hp => hWA.lt (by omega) hp) (j := j) (by omega)
    refine J_icmp_le (tgt := 87) hx dX0_leastByRun_49 (by decide) (fun c7 => ?_) (fun c7 => ?_)
    · refine J_iload hx dX0_leastByRun_87 rfl ?_
      refine J_aload_n hx dX0_leastByRun_89 (i := 0) rfl rfl ?_
      refine J_iload_n hx dX0_leastByRun_90 (i := 1) rfl rfl ?_
      refine J_iload hx dX0_leastByRun_91 rfl ?_
      refine J_iconst (v := 0) hx dX0_leastByRun_93 (by decide) ?_
      refine J_iload_n hx dX0_leastByRun_94 (i := 2) rfl rfl ?_
      refine J_invV (As := [vI (((p : Nat) : Int)), vI (((j : Nat) : Int)), vI (0), vI (1)]) (st := [vI (lbJ (jtV (gmV 0) A p) j)]) hx lk_X0_58 okX0_valueBehind dX0_leastByRun_95 hC.k35 (by decide) rfl rfl rfl (Nat.le_of_ble_eq_true rfl) (Nat.zero_add _).symm (Nat.zero_add _).symm rfl (c_X0_valueBehind_1_0 hC hWA hY1 (p := p) (j := j) hp hc (by omega) ho ?_)
      intro M2 hF2
      have hY2 := hF2.k hY1
      refine J_mmin (v := if -(gmV 0 (runH A p j)) < lbJ (jtV (gmV 0) A p) j then -(gmV 0 (runH A p j)) else lbJ (jtV (gmV 0) A p) j) hx lk_X0_62 dX0_leastByRun_98 (Nat.le_of_ble_eq_true rfl) rfl ?_
      generalize emn8 : (if -(gmV 0 (runH A p j)) < lbJ (jtV (gmV 0) A p) j then -(gmV 0 (runH A p j)) else lbJ (jtV (gmV 0) A p) j) = mn8
      have rmn8 : mn8 = (if -(gmV 0 (runH A p j)) < lbJ (jtV (gmV 0) A p) j then -(gmV 0 (runH A p j)) else lbJ (jtV (gmV 0) A p) j) := emn8.symm
      refine J_istore (lsn := [vR (o + 35), vI (((p : Nat) : Int)), vI (1), vR (o + 37), vI (force A p), vI (mn8), vI (((j : Nat) : Int))]) hx dX0_leastByRun_101 (Nat.le_of_ble_eq_true rfl) rfl rfl ?_
      refine J_iinc (v := ((j : Nat) : Int) + 1) (lsn := [vR (o + 35), vI (((p : Nat) : Int)), vI (1), vR (o + 37), vI (force A p), vI (mn8), vI (((j : Nat) : Int) + 1)]) hx dX0_leastByRun_103 rfl (jinc1 (by omega) (by omega)) rfl rfl ?_
      refine J_goto (tgt := 21) hx dX0_leastByRun_106 (by decide) ?_
      have rgj := lbJ_rg (h := (jtV (gmV 0) A p)) (k := j) (fun j9 h9 => jtV_rg (gmV_rg 0) hWA ho hp hc (by omega))
      have e9 : mn8 = lbJ (jtV (gmV 0) A p) (j + 1) := by
        have ej := jtV_h (f := gmV 0) (A := A) (p := p) (j := j) (by omega)
        rw [lbJ_s]
        (repeat' split at *) <;> omega
      rw [e9]
      exact lp_X0_leastByRun_1 hC hWA hx hr hp hc ho hQ (j + 1) M2 hY2 (hF1.tr hF2) (by omega)
    · refine J_iload hx dX0_leastByRun_52 rfl ?_
      refine J_aload_n hx dX0_leastByRun_54 (i := 0) rfl rfl ?_
      refine J_iload_n hx dX0_leastByRun_55 (i := 1) rfl rfl ?_
      refine J_iload hx dX0_leastByRun_56 rfl ?_
      refine J_iconst (v := 1) hx dX0_leastByRun_58 (by decide) ?_
      refine J_iload_n hx dX0_leastByRun_59 (i := 2) rfl rfl ?_
      refine J_invV (As := [vI (((p : Nat) : Int)), vI (((j : Nat) : Int)), vI (1), vI (1)]) (st := [vI (lbJ (jtV (gmV 0) A p) j)]) hx lk_X0_58 okX0_valueBehind dX0_leastByRun_60 hC.k35 (by decide) rfl rfl rfl (Nat.le_of_ble_eq_true rfl) (Nat.zero_add _).symm (Nat.zero_add _).symm rfl (c_X0_valueBehind_1_1 hC hWA hY1 (p := p) (j := j) hp hc (by omega) ho ?_)
      intro M2 hF2
      have hY2 := hF2.k hY1
      refine J_mmin (v := if -(gmV 0 (runT A p j (takenY A j 0))) < lbJ (jtV (gmV 0) A p) j then -(gmV 0 (runT A p j (takenY A j 0))) else lbJ (jtV (gmV 0) A p) j) hx lk_X0_62 dX0_leastByRun_63 (Nat.le_of_ble_eq_true rfl) rfl ?_
      generalize emn9 : (if -(gmV 0 (runT A p j (takenY A j 0))) < lbJ (jtV (gmV 0) A p) j then -(gmV 0 (runT A p j (takenY A j 0))) else lbJ (jtV (gmV 0) A p) j) = mn9
      have rmn9 : mn9 = (if -(gmV 0 (runT A p j (takenY A j 0))) < lbJ (jtV (gmV 0) A p) j then -(gmV 0 (runT A p j (takenY A j 0))) else lbJ (jtV (gmV 0) A p) j) := emn9.symm
      refine J_istore (lsn := [vR (o + 35), vI (((p : Nat) : Int)), vI (1), vR (o + 37), vI (force A p), vI (mn9), vI (((j : Nat) : Int))]) hx dX0_leastByRun_66 (Nat.le_of_ble_eq_true rfl) rfl rfl ?_
      refine J_iload hx dX0_leastByRun_68 rfl ?_
      refine J_aload_n hx dX0_leastByRun_70 (i := 0) rfl rfl ?_
      refine J_iload_n hx dX0_leastByRun_71 (i := 1) rfl rfl ?_
      refine J_iload hx dX0_leastByRun_72 rfl ?_
      refine J_iconst (v := 2) hx dX0_leastByRun_74 (by decide) ?_
      refine J_iload_n hx dX0_leastByRun_75 (i := 2) rfl rfl ?_
      refine J_invV (As := [vI (((p : Nat) : Int)), vI (((j : Nat) : Int)), vI (2), vI (1)]) (st := [vI (mn9)]) hx lk_X0_58 okX0_valueBehind dX0_leastByRun_76 hC.k35 (by decide) rfl rfl rfl (Nat.le_of_ble_eq_true rfl) (Nat.zero_add _).symm (Nat.zero_add _).symm rfl (c_X0_valueBehind_1_2 hC hWA hY2 (p := p) (j := j) hp hc (by omega) ho ?_)
      intro M3 hF3
      have hY3 := hF3.k hY2
      refine J_mmin (v := if -(gmV 0 (runT A p j (takenY A j 1))) < mn9 then -(gmV 0 (runT A p j (takenY A j 1))) else mn9) hx lk_X0_62 dX0_leastByRun_79 (Nat.le_of_ble_eq_true rfl) rfl ?_
      generalize emn10 : (if -(gmV 0 (runT A p j (takenY A j 1))) < mn9 then -(gmV 0 (runT A p j (takenY A j 1))) else mn9) = mn10
      have rmn10 : mn10 = (if -(gmV 0 (runT A p j (takenY A j 1))) < mn9 then -(gmV 0 (runT A p j (takenY A j 1))) else mn9) := emn10.symm
      refine J_istore (lsn := [vR (o + 35), vI (((p : Nat) : Int)), vI (1), vR (o + 37), vI (force A p), vI (mn10), vI (((j : Nat) : Int))]) hx dX0_leastByRun_82 (Nat.le_of_ble_eq_true rfl) rfl rfl ?_
      refine J_goto (tgt := 103) hx dX0_leastByRun_84 (by decide) ?_
      refine J_iinc (v := ((j : Nat) : Int) + 1) (lsn := [vR (o + 35), vI (((p : Nat) : Int)), vI (1), vR (o + 37), vI (force A p), vI (mn10), vI (((j : Nat) : Int) + 1)]) hx dX0_leastByRun_103 rfl (jinc1 (by omega) (by omega)) rfl rfl ?_
      refine J_goto (tgt := 21) hx dX0_leastByRun_106 (by decide) ?_
      have rgj := lbJ_rg (h := (jtV (gmV 0) A p)) (k := j) (fun j9 h9 => jtV_rg (gmV_rg 0) hWA ho hp hc (by omega))
      have e9 : mn10 = lbJ (jtV (gmV 0) A p) (j + 1) := by
        have ej := jtV_t (f := gmV 0) (A := A) (p := p) (j := j) (by omega)
        rw [lbJ_s]
        (repeat' split at *) <;> omega
      rw [e9]
      exact lp_X0_leastByRun_1 hC hWA hx hr hp hc ho hQ (j + 1) M3 hY3 ((hF1.tr hF2).tr hF3) (by omega)
termination_by (A.ch A.tn).length - j
decreasing_by all_goals omega

set_option maxHeartbeats 4000000 in
theorem c_X0_leastByRun_1 {g : WG} {d : Nat} {T : TT} {M : MM} {o sz : Nat} {A : YA} {Q : MVal → TT → MM → Nat → Prop} (hC : CT T o) (hWA : WFY A) (hY : YN M (o + 37) A) {p : Nat} (hp : p < A.n) (hc : A.co p ≠ A.tn) (ho : ¬ overY A) (hQ : ∀ M', FrG1 o M M' → Q (vI (lbP (gmV 0) A p)) T M' sz) : Ct g (d + 4) mX0_leastByRun [vR (o + 35), vI (((p : Nat) : Int)), vI (1)] T M sz 0 0 Q := by
  refine Ct_of2 (ls := [vR (o + 35), vI (((p : Nat) : Int)), vI (1), vU, vU, vU, vU]) okX0_leastByRun rfl (Nat.le_of_ble_eq_true rfl) rfl ?_
  intro x hx hr hnm
  have hn8 := hWA.n8
  have ht2 := hWA.tn2
  have hl8 := hWA.len8 ht2
  refine J_aload_n hx dX0_leastByRun_0 (i := 0) rfl rfl ?_
  refine J_getR (b := o + 36) hx fl_X0_11 cl_X0 dX0_leastByRun_1 hC.k35 (by decide) rfl hC.g0 ?_
  refine J_iload_n hx dX0_leastByRun_4 (i := 2) rfl rfl ?_
  refine J_aald (b := o + 37) hx 1 dX0_leastByRun_5 hC.k36 (by decide) (by omega) (by rw [hC.n36]; decide) hC.q1 ?_
  refine J_astore_n (lsn := [vR (o + 35), vI (((p : Nat) : Int)), vI (1), vR (o + 37), vU, vU, vU]) hx dX0_leastByRun_6 (i := 3) rfl (Nat.le_of_ble_eq_true rfl) rfl rfl ?_
  refine J_aload_n hx dX0_leastByRun_7 (i := 3) rfl rfl ?_
  refine J_iload_n hx dX0_leastByRun_8 (i := 1) rfl rfl ?_
  refine J_invV (As := [vI (((p : Nat) : Int))]) (st := []) hx lk_X0_52 okX5_forceOf dX0_leastByRun_9 hC.y3.o (by decide) rfl rfl rfl (Nat.le_of_ble_eq_true rfl) (Nat.zero_add _).symm (Nat.zero_add _).symm rfl (c_X5_forceOf hC.y3 hY hWA (p := p) (by omega) ?_)
  have rg1 := force_rg hWA (p := p) (by omega)
  refine J_istore (lsn := [vR (o + 35), vI (((p : Nat) : Int)), vI (1), vR (o + 37), vI (force A p), vU, vU]) hx dX0_leastByRun_12 (Nat.le_of_ble_eq_true rfl) rfl rfl ?_
  refine J_bipush (v := 9) hx dX0_leastByRun_14 (by decide) ?_
  refine J_istore (lsn := [vR (o + 35), vI (((p : Nat) : Int)), vI (1), vR (o + 37), vI (force A p), vI (9), vU]) hx dX0_leastByRun_16 (Nat.le_of_ble_eq_true rfl) rfl rfl ?_
  refine J_iconst (v := 0) hx dX0_leastByRun_18 (by decide) ?_
  refine J_istore (lsn := [vR (o + 35), vI (((p : Nat) : Int)), vI (1), vR (o + 37), vI (force A p), vI (9), vI (0)]) hx dX0_leastByRun_19 (Nat.le_of_ble_eq_true rfl) rfl rfl ?_
  exact lp_X0_leastByRun_1 hC hWA hx hr hp hc ho hQ 0 M hY FrG1.rf (by have := not_over2 hWA ho; omega)

set_option maxHeartbeats 4000000 in
theorem lp_X0_mostByCall_1 {g : WG} {d : Nat} {T : TT} {M : MM} {o sz : Nat} {A : YA} {Q : MVal → TT → MM → Nat → Prop} (hC : CT T o) (hWA : WFY A) {x : CX} (hx : OKx g x RX0 cX0_mostByCall (d + 5)) (hr : RTx g x (some .int) Q) (ho : ¬ overY A) (hQ : ∀ M', FrG1 o M M' → (¬ overY A → M' (o + 35) 1 = gmC (gmV 0) A) → Q (vI (gmV 1 A)) T M' sz) (i : Nat) (b wh : Int) (u : MVal) (M1 : MM) (hY1 : YN M1 (o + 37) A) (hF1 : FrG1 o M M1) (hi : i ≤ A.n) (hb : b = - pkV 9 (calY A) (gmK (gmV 0) A) i) (hw : wh = pkI (calY A) (gmK (gmV 0) A) i) : Jd g x 49 [vR (o + 35), vI (1), vR (o + 37), vI (b), vI (wh), vI (((i : Nat) : Int)), u] [] T M1 sz 0 0 := by
  have hn8 := hWA.n8
  have ht2 := hWA.tn2
  have hl8 := hWA.len8 ht2
  have rgb := pkV9_rg (gmV_rg 0) hWA ho hi
  refine J_iload hx dX0_mostByCall_49 rfl ?_
  refine J_aload_n hx dX0_mostByCall_51 (i := 2) rfl rfl ?_
  refine J_getI2 (v := ((A.n : Nat) : Int)) hx fl_X0_38 cl_X5 dX0_mostByCall_52 hC.y3.o (by decide) rfl hY1.pp ?_
  have rg1 := hWA.n8
  refine J_icmp_ge (tgt := 99) hx dX0_mostByCall_55 (by decide) (fun c2 => ?_) (fun c2 => ?_)
  · refine J_aload_n hx dX0_mostByCall_99 (i := 0) rfl rfl ?_
    refine J_iload hx dX0_mostByCall_100 rfl ?_
    refine J_putI hx fl_X0_49 cl_X0 dX0_mostByCall_102 hC.k35 (by decide) rfl (Or.inl rfl) (by decide) ?_
    generalize eM2 : up2 M1 (o + 35) 1 wh = M2
    have hM2a : M2 (o + 35) 1 = wh := by rw [← eM2]; exact up2_at
    have hM2o : ∀ b9 j9, (b9 ≠ o + 35 ∨ j9 ≠ 1) → M2 b9 j9 = M1 b9 j9 := fun b9 j9 h9 => by rw [← eM2]; exact up2_ne h9
    have hM2r : ∀ b9, b9 ≠ o + 35 → M2 b9 = M1 b9 := fun b9 h9 => by rw [← eM2]; exact up2_row h9
    refine J_iload_n hx dX0_mostByCall_105 (i := 3) rfl rfl ?_
    refine J_iret hx hr dX0_mostByCall_106 ?_
    have ei : i = A.n := by omega
    subst ei
    have e8 : gmV 1 A = b := by rw [gmV_s ho]; omega
    rw [e8] at hQ
    exact hQ M2 (fun a9 h3 h4 => by rw [hM2r a9 h4]; exact hF1 a9 h3 h4) (fun _ => by rw [hM2a, hw]; rfl)
  · refine J_aload_n hx dX0_mostByCall_58 (i := 2) rfl rfl ?_
    refine J_iload hx dX0_mostByCall_59 rfl ?_
    refine J_invV (As := [vI (((i : Nat) : Int))]) (st := []) hx lk_X0_41 okX5_isCalled dX0_mostByCall_61 hC.y3.o (by decide) rfl rfl rfl (Nat.le_of_ble_eq_true rfl) (Nat.zero_add _).symm (Nat.zero_add _).symm rfl (c_X5_isCalled hC.y3 hY1 hWA (p := i) (by omega) ?_)
    intro vc hvc
    refine J_if_eq (tgt := 77) hx dX0_mostByCall_64 (by decide) (fun c3 => ?_) (fun c3 => ?_)
    · refine J_iload_n hx dX0_mostByCall_77 (i := 3) rfl rfl ?_
      refine J_istore (lsn := [vR (o + 35), vI (1), vR (o + 37), vI (b), vI (wh), vI (((i : Nat) : Int)), vI (b)]) hx dX0_mostByCall_78 (Nat.le_of_ble_eq_true rfl) rfl rfl ?_
      refine J_iload hx dX0_mostByCall_80 rfl ?_
      refine J_iload_n hx dX0_mostByCall_82 (i := 3) rfl rfl ?_
      refine J_icmp_le (tgt := 93) hx dX0_mostByCall_83 (by decide) (fun c4 => ?_) (fun c4 => ?_)
      · refine J_iinc (v := ((i : Nat) : Int) + 1) (lsn := [vR (o + 35), vI (1), vR (o + 37), vI (b), vI (wh), vI (((i : Nat) : Int) + 1), vI (b)]) hx dX0_mostByCall_93 rfl (jinc1 (by omega) (by omega)) rfl rfl ?_
        refine J_goto (tgt := 49) hx dX0_mostByCall_96 (by decide) ?_
        have e9 : pick (calY A) (gmK (gmV 0) A) (i + 1) = pick (calY A) (gmK (gmV 0) A) i := qk_no (H := 9) (decide_eq_false (by omega))
        exact lp_X0_mostByCall_1 hC hWA hx hr ho hQ (i + 1) _ _ _ M1 hY1 hF1 (by omega) (by rw [pkV_eq e9]; exact hb) (by rw [pkI_eq e9]; exact hw)
      · refine J_iload hx dX0_mostByCall_86 rfl ?_
        refine J_istore_n (lsn := [vR (o + 35), vI (1), vR (o + 37), vI (b), vI (wh), vI (((i : Nat) : Int)), vI (b)]) hx dX0_mostByCall_88 (i := 3) rfl (Nat.le_of_ble_eq_true rfl) rfl rfl ?_
        refine J_iload hx dX0_mostByCall_89 rfl ?_
        refine J_istore (lsn := [vR (o + 35), vI (1), vR (o + 37), vI (b), vI (((i : Nat) : Int)), vI (((i : Nat) : Int)), vI (b)]) hx dX0_mostByCall_91 (Nat.le_of_ble_eq_true rfl) rfl rfl ?_
        refine J_iinc (v := ((i : Nat) : Int) + 1) (lsn := [vR (o + 35), vI (1), vR (o + 37), vI (b), vI (((i : Nat) : Int)), vI (((i : Nat) : Int) + 1), vI (b)]) hx dX0_mostByCall_93 rfl (jinc1 (by omega) (by omega)) rfl rfl ?_
        refine J_goto (tgt := 49) hx dX0_mostByCall_96 (by decide) ?_
        exfalso; omega
    · refine J_aload_n hx dX0_mostByCall_67 (i := 0) rfl rfl ?_
      refine J_iload hx dX0_mostByCall_68 rfl ?_
      refine J_iload_n hx dX0_mostByCall_70 (i := 1) rfl rfl ?_
      refine J_invV (As := [vI (((i : Nat) : Int)), vI (1)]) (st := []) hx lk_X0_45 okX0_leastByRun dX0_mostByCall_71 hC.k35 (by decide) rfl rfl rfl (Nat.le_of_ble_eq_true rfl) (Nat.zero_add _).symm (Nat.zero_add _).symm rfl (c_X0_leastByRun_1 hC hWA hY1 (p := i) (by omega) (by omega) ho ?_)
      intro M2 hF2
      have hY2 := hF2.k hY1
      have rgl := lbP_rg (gmV_rg 0) hWA ho (p := i) (by omega) (by omega)
      refine J_goto (tgt := 78) hx dX0_mostByCall_74 (by decide) ?_
      refine J_istore (lsn := [vR (o + 35), vI (1), vR (o + 37), vI (b), vI (wh), vI (((i : Nat) : Int)), vI (lbP (gmV 0) A i)]) hx dX0_mostByCall_78 (Nat.le_of_ble_eq_true rfl) rfl rfl ?_
      refine J_iload hx dX0_mostByCall_80 rfl ?_
      refine J_iload_n hx dX0_mostByCall_82 (i := 3) rfl rfl ?_
      refine J_icmp_le (tgt := 93) hx dX0_mostByCall_83 (by decide) (fun c5 => ?_) (fun c5 => ?_)
      · refine J_iinc (v := ((i : Nat) : Int) + 1) (lsn := [vR (o + 35), vI (1), vR (o + 37), vI (b), vI (wh), vI (((i : Nat) : Int) + 1), vI (lbP (gmV 0) A i)]) hx dX0_mostByCall_93 rfl (jinc1 (by omega) (by omega)) rfl rfl ?_
        refine J_goto (tgt := 49) hx dX0_mostByCall_96 (by decide) ?_
        have e9 : pick (calY A) (gmK (gmV 0) A) (i + 1) = pick (calY A) (gmK (gmV 0) A) i := qk_ge (H := 9) (by unfold gmK; omega) (by unfold gmK at *; omega)
        exact lp_X0_mostByCall_1 hC hWA hx hr ho hQ (i + 1) _ _ _ M2 hY2 (hF1.tr hF2) (by omega) (by rw [pkV_eq e9]; exact hb) (by rw [pkI_eq e9]; exact hw)
      · refine J_iload hx dX0_mostByCall_86 rfl ?_
        refine J_istore_n (lsn := [vR (o + 35), vI (1), vR (o + 37), vI (lbP (gmV 0) A i), vI (wh), vI (((i : Nat) : Int)), vI (lbP (gmV 0) A i)]) hx dX0_mostByCall_88 (i := 3) rfl (Nat.le_of_ble_eq_true rfl) rfl rfl ?_
        refine J_iload hx dX0_mostByCall_89 rfl ?_
        refine J_istore (lsn := [vR (o + 35), vI (1), vR (o + 37), vI (lbP (gmV 0) A i), vI (((i : Nat) : Int)), vI (((i : Nat) : Int)), vI (lbP (gmV 0) A i)]) hx dX0_mostByCall_91 (Nat.le_of_ble_eq_true rfl) rfl rfl ?_
        refine J_iinc (v := ((i : Nat) : Int) + 1) (lsn := [vR (o + 35), vI (1), vR (o + 37), vI (lbP (gmV 0) A i), vI (((i : Nat) : Int)), vI (((i : Nat) : Int) + 1), vI (lbP (gmV 0) A i)]) hx dX0_mostByCall_93 rfl (jinc1 (by omega) (by omega)) rfl rfl ?_
        refine J_goto (tgt := 49) hx dX0_mostByCall_96 (by decide) ?_
        have e9 : pick (calY A) (gmK (gmV 0) A) (i + 1) = some i := qk_lt (H := 9) (decide_eq_true (by omega)) (by unfold gmK at *; omega)
        exact lp_X0_mostByCall_1 hC hWA hx hr ho hQ (i + 1) _ _ _ M2 hY2 (hF1.tr hF2) (by omega) (by rw [pkV_of e9]; unfold gmK; omega) (by rw [pkI_of e9])
termination_by A.n - i
decreasing_by all_goals omega

set_option maxHeartbeats 4000000 in
theorem c_X0_mostByCall_1 {g : WG} {d : Nat} {T : TT} {M : MM} {o sz : Nat} {A : YA} {Q : MVal → TT → MM → Nat → Prop} (hC : CT T o) (hWA : WFY A) (hY : YN M (o + 37) A) (hQ : ∀ M', FrG1 o M M' → (¬ overY A → M' (o + 35) 1 = gmC (gmV 0) A) → Q (vI (gmV 1 A)) T M' sz) : Ct g (d + 5) mX0_mostByCall [vR (o + 35), vI (1)] T M sz 0 0 Q := by
  refine Ct_of2 (ls := [vR (o + 35), vI (1), vU, vU, vU, vU, vU]) okX0_mostByCall rfl (Nat.le_of_ble_eq_true rfl) rfl ?_
  intro x hx hr hnm
  have hn8 := hWA.n8
  have ht2 := hWA.tn2
  have hl8 := hWA.len8 ht2
  refine J_aload_n hx dX0_mostByCall_0 (i := 0) rfl rfl ?_
  refine J_getR (b := o + 36) hx fl_X0_11 cl_X0 dX0_mostByCall_1 hC.k35 (by decide) rfl hC.g0 ?_
  refine J_iload_n hx dX0_mostByCall_4 (i := 1) rfl rfl ?_
  refine J_aald (b := o + 37) hx 1 dX0_mostByCall_5 hC.k36 (by decide) (by omega) (by rw [hC.n36]; decide) hC.q1 ?_
  refine J_astore_n (lsn := [vR (o + 35), vI (1), vR (o + 37), vU, vU, vU, vU]) hx dX0_mostByCall_6 (i := 2) rfl (Nat.le_of_ble_eq_true rfl) rfl rfl ?_
  refine J_iload_n hx dX0_mostByCall_7 (i := 1) rfl rfl ?_
  refine J_if_le (tgt := 18) hx dX0_mostByCall_8 (by decide) (fun c9 => absurd c9 (by decide)) (fun _ => ?_)
  refine J_aload_n hx dX0_mostByCall_11 (i := 2) rfl rfl ?_
  refine J_invV (As := []) (st := []) hx lk_X0_26 okX5_isOver dX0_mostByCall_12 hC.y3.o (by decide) rfl rfl rfl (Nat.le_of_ble_eq_true rfl) (Nat.zero_add _).symm (Nat.zero_add _).symm rfl (c_X5_isOver hC.y3 hY hWA  ?_)
  intro v2 hv2
  refine J_if_eq (tgt := 40) hx dX0_mostByCall_15 (by decide) (fun c3 => ?_) (fun c3 => ?_)
  · refine J_bipush (v := -9) hx dX0_mostByCall_40 (by decide) ?_
    refine J_istore_n (lsn := [vR (o + 35), vI (1), vR (o + 37), vI ((-9)), vU, vU, vU]) hx dX0_mostByCall_42 (i := 3) rfl (Nat.le_of_ble_eq_true rfl) rfl rfl ?_
    refine J_iconst (v := -1) hx dX0_mostByCall_43 (by decide) ?_
    refine J_istore (lsn := [vR (o + 35), vI (1), vR (o + 37), vI ((-9)), vI ((-1)), vU, vU]) hx dX0_mostByCall_44 (Nat.le_of_ble_eq_true rfl) rfl rfl ?_
    refine J_iconst (v := 0) hx dX0_mostByCall_46 (by decide) ?_
    refine J_istore (lsn := [vR (o + 35), vI (1), vR (o + 37), vI ((-9)), vI ((-1)), vI (0), vU]) hx dX0_mostByCall_47 (Nat.le_of_ble_eq_true rfl) rfl rfl ?_
    exact lp_X0_mostByCall_1 hC hWA hx hr (fun q9 => by unfold overY at *; omega) hQ 0 _ _ _ M hY FrG1.rf (by omega) rfl rfl
  · refine J_aload_n hx dX0_mostByCall_18 (i := 2) rfl rfl ?_
    refine J_getR (b := o + 37 + 10) hx fl_X0_30 cl_X5 dX0_mostByCall_19 hC.y3.o (by decide) rfl hC.y3.r7 ?_
    refine J_aload_n hx dX0_mostByCall_22 (i := 2) rfl rfl ?_
    refine J_getI2 (v := ((A.tn : Nat) : Int)) hx fl_X0_34 cl_X5 dX0_mostByCall_23 hC.y3.o (by decide) rfl (hY.tn hWA) ?_
    have rg4 := hWA.tn2
    refine J_iald2 (v := (((A.ch A.tn).length : Nat) : Int)) hx A.tn dX0_mostByCall_26 hC.y3.k10 (by omega) (hC.y3.l10 (by omega)) (hY.sz (by omega)) ?_
    have rg5 := hWA.len8 (c := A.tn) (by omega)
    have rg6 := hWA.lenN (c := A.tn) (by omega)
    refine J_aload_n hx dX0_mostByCall_27 (i := 2) rfl rfl ?_
    refine J_getR (b := o + 37 + 10) hx fl_X0_30 cl_X5 dX0_mostByCall_28 hC.y3.o (by decide) rfl hC.y3.r7 ?_
    refine J_iconst (v := 1) hx dX0_mostByCall_31 (by decide) ?_
    refine J_aload_n hx dX0_mostByCall_32 (i := 2) rfl rfl ?_
    refine J_getI2 (v := ((A.tn : Nat) : Int)) hx fl_X0_34 cl_X5 dX0_mostByCall_33 hC.y3.o (by decide) rfl (hY.tn hWA) ?_
    have rg7 := hWA.tn2
    refine J_isub (v := ((1 - A.tn : Nat) : Int)) hx dX0_mostByCall_36 (by rw [w32_id (by omega) (by omega)]; omega) ?_
    refine J_iald2 (v := (((A.ch (1 - A.tn)).length : Nat) : Int)) hx (1 - A.tn) dX0_mostByCall_37 hC.y3.k10 (by omega) (hC.y3.l10 (by omega)) (hY.sz (by omega)) ?_
    have rg8 := hWA.len8 (c := 1 - A.tn) (by omega)
    have rg9 := hWA.lenN (c := 1 - A.tn) (by omega)
    refine J_isub (v := (((A.ch A.tn).length : Nat) : Int) - (((A.ch (1 - A.tn)).length : Nat) : Int)) hx dX0_mostByCall_38 (w32_id (by omega) (by omega)) ?_
    refine J_iret hx hr dX0_mostByCall_39 ?_
    have ho : overY A := by unfold overY at *; omega
    rw [gmV_o ho] at hQ
    exact hQ M FrG1.rf (fun q9 => absurd ho q9)

set_option maxHeartbeats 4000000 in
theorem c_X0_valueBehind_2_0 {g : WG} {d : Nat} {T : TT} {M : MM} {o sz : Nat} {A : YA} {Q : MVal → TT → MM → Nat → Prop} (hC : CT T o) (hWA : WFY A) (hY : YN M (o + 48) A) {p j : Nat} (hp : p < A.n) (hc : A.co p ≠ A.tn) (hj : j + 1 < (A.ch A.tn).length) (ho : ¬ overY A) (hQ : ∀ M', FrG2 o M M' → Q (vI (-(gmV 1 (runH A p j)))) T M' sz) : Ct g (d + 6) mX0_valueBehind [vR (o + 35), vI (((p : Nat) : Int)), vI (((j : Nat) : Int)), vI (0), vI (2)] T M sz 0 0 Q := by
  refine Ct_of2 (ls := [vR (o + 35), vI (((p : Nat) : Int)), vI (((j : Nat) : Int)), vI (0), vI (2)]) okX0_valueBehind rfl (Nat.le_of_ble_eq_true rfl) rfl ?_
  intro x hx hr hnm
  have hn8 := hWA.n8
  have ht2 := hWA.tn2
  have hl8 := hWA.len8 ht2
  refine J_iload hx dX0_valueBehind_0 rfl ?_
  refine J_iconst (v := 1) hx dX0_valueBehind_2 (by decide) ?_
  refine J_icmp_ge (tgt := 8) hx dX0_valueBehind_3 (by decide) (fun _ => ?_) (fun c9 => absurd c9 (by decide))
  refine J_aload_n hx dX0_valueBehind_8 (i := 0) rfl rfl ?_
  refine J_getR (b := o + 36) hx fl_X0_11 cl_X0 dX0_valueBehind_9 hC.k35 (by decide) rfl hC.g0 ?_
  refine J_iload hx dX0_valueBehind_12 rfl ?_
  refine J_iconst (v := 1) hx dX0_valueBehind_14 (by decide) ?_
  refine J_isub (v := 1) hx dX0_valueBehind_15 (by decide) ?_
  refine J_aald (b := o + 37) hx 1 dX0_valueBehind_16 hC.k36 (by decide) (by omega) (by rw [hC.n36]; decide) hC.q1 ?_
  refine J_aload_n hx dX0_valueBehind_17 (i := 0) rfl rfl ?_
  refine J_getR (b := o + 36) hx fl_X0_11 cl_X0 dX0_valueBehind_18 hC.k35 (by decide) rfl hC.g0 ?_
  refine J_iload hx dX0_valueBehind_21 rfl ?_
  refine J_aald (b := o + 48) hx 2 dX0_valueBehind_23 hC.k36 (by decide) (by omega) (by rw [hC.n36]; decide) hC.q2 ?_
  refine J_invVv (As := [vR (o + 48)]) (st := []) hx lk_X0_18 okX5_becomeAs dX0_valueBehind_24 hC.y3.o (by decide) rfl rfl rfl (Nat.le_of_ble_eq_true rfl) (Nat.zero_add _).symm (Nat.zero_add _).symm rfl (c_X5_becomeAs hC.y3 hC.y4 hY hWA (by omega) ?_)
  intro M1 hY1 hF1
  refine J_aload_n hx dX0_valueBehind_27 (i := 0) rfl rfl ?_
  refine J_getR (b := o + 36) hx fl_X0_11 cl_X0 dX0_valueBehind_28 hC.k35 (by decide) rfl hC.g0 ?_
  refine J_iload hx dX0_valueBehind_31 rfl ?_
  refine J_iconst (v := 1) hx dX0_valueBehind_33 (by decide) ?_
  refine J_isub (v := 1) hx dX0_valueBehind_34 (by decide) ?_
  refine J_aald (b := o + 37) hx 1 dX0_valueBehind_35 hC.k36 (by decide) (by omega) (by rw [hC.n36]; decide) hC.q1 ?_
  refine J_iload_n hx dX0_valueBehind_36 (i := 1) rfl rfl ?_
  refine J_iload_n hx dX0_valueBehind_37 (i := 2) rfl rfl ?_
  refine J_iload_n hx dX0_valueBehind_38 (i := 3) rfl rfl ?_
  refine J_invVv (As := [vI (((p : Nat) : Int)), vI (((j : Nat) : Int)), vI (0)]) (st := []) hx lk_X0_67 okX5_comeToPass dX0_valueBehind_39 hC.y3.o (by decide) rfl rfl rfl (Nat.le_of_ble_eq_true rfl) (Nat.zero_add _).symm (Nat.zero_add _).symm rfl (c_X5_comeToPass_held hC.y3 hY1 hWA (p := p) (j := j) hp hc hj ho ?_)
  intro M2 hY2 hF2
  have hWB : WFY (runH A p j) := runH_wf hWA hp hc hj ho
  have rgg := gmV_rg 1 _ hWB
  refine J_aload_n hx dX0_valueBehind_42 (i := 0) rfl rfl ?_
  refine J_iload hx dX0_valueBehind_43 rfl ?_
  refine J_iconst (v := 1) hx dX0_valueBehind_45 (by decide) ?_
  refine J_isub (v := 1) hx dX0_valueBehind_46 (by decide) ?_
  refine J_invV (As := [vI (1)]) (st := []) hx lk_X0_22 okX0_mostByCall dX0_valueBehind_47 hC.k35 (by decide) rfl rfl rfl (Nat.le_of_ble_eq_true rfl) (Nat.zero_add _).symm (Nat.zero_add _).symm rfl (c_X0_mostByCall_1 hC hWB hY2 ?_)
  intro M3 hF3 hch3
  refine J_ineg (v := -(gmV 1 (runH A p j))) hx dX0_valueBehind_50 (w32_id (by omega) (by omega)) ?_
  refine J_iret hx hr dX0_valueBehind_51 ?_
  exact hQ M3 ((FrG2.y (hF1.tr hF2)).tr hF3.to2)

set_option maxHeartbeats 4000000 in
theorem c_X0_valueBehind_2_1 {g : WG} {d : Nat} {T : TT} {M : MM} {o sz : Nat} {A : YA} {Q : MVal → TT → MM → Nat → Prop} (hC : CT T o) (hWA : WFY A) (hY : YN M (o + 48) A) {p j : Nat} (hp : p < A.n) (hc : A.co p ≠ A.tn) (hj : j + 1 < (A.ch A.tn).length) (ho : ¬ overY A) (hQ : ∀ M', FrG2 o M M' → Q (vI (-(gmV 1 (runT A p j (takenY A j 0))))) T M' sz) : Ct g (d + 6) mX0_valueBehind [vR (o + 35), vI (((p : Nat) : Int)), vI (((j : Nat) : Int)), vI (1), vI (2)] T M sz 0 0 Q := by
  refine Ct_of2 (ls := [vR (o + 35), vI (((p : Nat) : Int)), vI (((j : Nat) : Int)), vI (1), vI (2)]) okX0_valueBehind rfl (Nat.le_of_ble_eq_true rfl) rfl ?_
  intro x hx hr hnm
  have hn8 := hWA.n8
  have ht2 := hWA.tn2
  have hl8 := hWA.len8 ht2
  refine J_iload hx dX0_valueBehind_0 rfl ?_
  refine J_iconst (v := 1) hx dX0_valueBehind_2 (by decide) ?_
  refine J_icmp_ge (tgt := 8) hx dX0_valueBehind_3 (by decide) (fun _ => ?_) (fun c9 => absurd c9 (by decide))
  refine J_aload_n hx dX0_valueBehind_8 (i := 0) rfl rfl ?_
  refine J_getR (b := o + 36) hx fl_X0_11 cl_X0 dX0_valueBehind_9 hC.k35 (by decide) rfl hC.g0 ?_
  refine J_iload hx dX0_valueBehind_12 rfl ?_
  refine J_iconst (v := 1) hx dX0_valueBehind_14 (by decide) ?_
  refine J_isub (v := 1) hx dX0_valueBehind_15 (by decide) ?_
  refine J_aald (b := o + 37) hx 1 dX0_valueBehind_16 hC.k36 (by decide) (by omega) (by rw [hC.n36]; decide) hC.q1 ?_
  refine J_aload_n hx dX0_valueBehind_17 (i := 0) rfl rfl ?_
  refine J_getR (b := o + 36) hx fl_X0_11 cl_X0 dX0_valueBehind_18 hC.k35 (by decide) rfl hC.g0 ?_
  refine J_iload hx dX0_valueBehind_21 rfl ?_
  refine J_aald (b := o + 48) hx 2 dX0_valueBehind_23 hC.k36 (by decide) (by omega) (by rw [hC.n36]; decide) hC.q2 ?_
  refine J_invVv (As := [vR (o + 48)]) (st := []) hx lk_X0_18 okX5_becomeAs dX0_valueBehind_24 hC.y3.o (by decide) rfl rfl rfl (Nat.le_of_ble_eq_true rfl) (Nat.zero_add _).symm (Nat.zero_add _).symm rfl (c_X5_becomeAs hC.y3 hC.y4 hY hWA (by omega) ?_)
  intro M1 hY1 hF1
  refine J_aload_n hx dX0_valueBehind_27 (i := 0) rfl rfl ?_
  refine J_getR (b := o + 36) hx fl_X0_11 cl_X0 dX0_valueBehind_28 hC.k35 (by decide) rfl hC.g0 ?_
  refine J_iload hx dX0_valueBehind_31 rfl ?_
  refine J_iconst (v := 1) hx dX0_valueBehind_33 (by decide) ?_
  refine J_isub (v := 1) hx dX0_valueBehind_34 (by decide) ?_
  refine J_aald (b := o + 37) hx 1 dX0_valueBehind_35 hC.k36 (by decide) (by omega) (by rw [hC.n36]; decide) hC.q1 ?_
  refine J_iload_n hx dX0_valueBehind_36 (i := 1) rfl rfl ?_
  refine J_iload_n hx dX0_valueBehind_37 (i := 2) rfl rfl ?_
  refine J_iload_n hx dX0_valueBehind_38 (i := 3) rfl rfl ?_
  refine J_invVv (As := [vI (((p : Nat) : Int)), vI (((j : Nat) : Int)), vI (1)]) (st := []) hx lk_X0_67 okX5_comeToPass dX0_valueBehind_39 hC.y3.o (by decide) rfl rfl rfl (Nat.le_of_ble_eq_true rfl) (Nat.zero_add _).symm (Nat.zero_add _).symm rfl (c_X5_comeToPass_torn1 hC.y3 hY1 hWA (p := p) (j := j) hp hc hj ho ?_)
  intro M2 hY2 hF2
  have hWB : WFY (runT A p j (takenY A j 0)) := runT_wf hWA hp hc hj ho (taken_mem hWA hj (by decide))
  have rgg := gmV_rg 1 _ hWB
  refine J_aload_n hx dX0_valueBehind_42 (i := 0) rfl rfl ?_
  refine J_iload hx dX0_valueBehind_43 rfl ?_
  refine J_iconst (v := 1) hx dX0_valueBehind_45 (by decide) ?_
  refine J_isub (v := 1) hx dX0_valueBehind_46 (by decide) ?_
  refine J_invV (As := [vI (1)]) (st := []) hx lk_X0_22 okX0_mostByCall dX0_valueBehind_47 hC.k35 (by decide) rfl rfl rfl (Nat.le_of_ble_eq_true rfl) (Nat.zero_add _).symm (Nat.zero_add _).symm rfl (c_X0_mostByCall_1 hC hWB hY2 ?_)
  intro M3 hF3 hch3
  refine J_ineg (v := -(gmV 1 (runT A p j (takenY A j 0)))) hx dX0_valueBehind_50 (w32_id (by omega) (by omega)) ?_
  refine J_iret hx hr dX0_valueBehind_51 ?_
  exact hQ M3 ((FrG2.y (hF1.tr hF2)).tr hF3.to2)

set_option maxHeartbeats 4000000 in
theorem c_X0_valueBehind_2_2 {g : WG} {d : Nat} {T : TT} {M : MM} {o sz : Nat} {A : YA} {Q : MVal → TT → MM → Nat → Prop} (hC : CT T o) (hWA : WFY A) (hY : YN M (o + 48) A) {p j : Nat} (hp : p < A.n) (hc : A.co p ≠ A.tn) (hj : j + 1 < (A.ch A.tn).length) (ho : ¬ overY A) (hQ : ∀ M', FrG2 o M M' → Q (vI (-(gmV 1 (runT A p j (takenY A j 1))))) T M' sz) : Ct g (d + 6) mX0_valueBehind [vR (o + 35), vI (((p : Nat) : Int)), vI (((j : Nat) : Int)), vI (2), vI (2)] T M sz 0 0 Q := by
  refine Ct_of2 (ls := [vR (o + 35), vI (((p : Nat) : Int)), vI (((j : Nat) : Int)), vI (2), vI (2)]) okX0_valueBehind rfl (Nat.le_of_ble_eq_true rfl) rfl ?_
  intro x hx hr hnm
  have hn8 := hWA.n8
  have ht2 := hWA.tn2
  have hl8 := hWA.len8 ht2
  refine J_iload hx dX0_valueBehind_0 rfl ?_
  refine J_iconst (v := 1) hx dX0_valueBehind_2 (by decide) ?_
  refine J_icmp_ge (tgt := 8) hx dX0_valueBehind_3 (by decide) (fun _ => ?_) (fun c9 => absurd c9 (by decide))
  refine J_aload_n hx dX0_valueBehind_8 (i := 0) rfl rfl ?_
  refine J_getR (b := o + 36) hx fl_X0_11 cl_X0 dX0_valueBehind_9 hC.k35 (by decide) rfl hC.g0 ?_
  refine J_iload hx dX0_valueBehind_12 rfl ?_
  refine J_iconst (v := 1) hx dX0_valueBehind_14 (by decide) ?_
  refine J_isub (v := 1) hx dX0_valueBehind_15 (by decide) ?_
  refine J_aald (b := o + 37) hx 1 dX0_valueBehind_16 hC.k36 (by decide) (by omega) (by rw [hC.n36]; decide) hC.q1 ?_
  refine J_aload_n hx dX0_valueBehind_17 (i := 0) rfl rfl ?_
  refine J_getR (b := o + 36) hx fl_X0_11 cl_X0 dX0_valueBehind_18 hC.k35 (by decide) rfl hC.g0 ?_
  refine J_iload hx dX0_valueBehind_21 rfl ?_
  refine J_aald (b := o + 48) hx 2 dX0_valueBehind_23 hC.k36 (by decide) (by omega) (by rw [hC.n36]; decide) hC.q2 ?_
  refine J_invVv (As := [vR (o + 48)]) (st := []) hx lk_X0_18 okX5_becomeAs dX0_valueBehind_24 hC.y3.o (by decide) rfl rfl rfl (Nat.le_of_ble_eq_true rfl) (Nat.zero_add _).symm (Nat.zero_add _).symm rfl (c_X5_becomeAs hC.y3 hC.y4 hY hWA (by omega) ?_)
  intro M1 hY1 hF1
  refine J_aload_n hx dX0_valueBehind_27 (i := 0) rfl rfl ?_
  refine J_getR (b := o + 36) hx fl_X0_11 cl_X0 dX0_valueBehind_28 hC.k35 (by decide) rfl hC.g0 ?_
  refine J_iload hx dX0_valueBehind_31 rfl ?_
  refine J_iconst (v := 1) hx dX0_valueBehind_33 (by decide) ?_
  refine J_isub (v := 1) hx dX0_valueBehind_34 (by decide) ?_
  refine J_aald (b := o + 37) hx 1 dX0_valueBehind_35 hC.k36 (by decide) (by omega) (by rw [hC.n36]; decide) hC.q1 ?_
  refine J_iload_n hx dX0_valueBehind_36 (i := 1) rfl rfl ?_
  refine J_iload_n hx dX0_valueBehind_37 (i := 2) rfl rfl ?_
  refine J_iload_n hx dX0_valueBehind_38 (i := 3) rfl rfl ?_
  refine J_invVv (As := [vI (((p : Nat) : Int)), vI (((j : Nat) : Int)), vI (2)]) (st := []) hx lk_X0_67 okX5_comeToPass dX0_valueBehind_39 hC.y3.o (by decide) rfl rfl rfl (Nat.le_of_ble_eq_true rfl) (Nat.zero_add _).symm (Nat.zero_add _).symm rfl (c_X5_comeToPass_torn2 hC.y3 hY1 hWA (p := p) (j := j) hp hc hj ho ?_)
  intro M2 hY2 hF2
  have hWB : WFY (runT A p j (takenY A j 1)) := runT_wf hWA hp hc hj ho (taken_mem hWA hj (by decide))
  have rgg := gmV_rg 1 _ hWB
  refine J_aload_n hx dX0_valueBehind_42 (i := 0) rfl rfl ?_
  refine J_iload hx dX0_valueBehind_43 rfl ?_
  refine J_iconst (v := 1) hx dX0_valueBehind_45 (by decide) ?_
  refine J_isub (v := 1) hx dX0_valueBehind_46 (by decide) ?_
  refine J_invV (As := [vI (1)]) (st := []) hx lk_X0_22 okX0_mostByCall dX0_valueBehind_47 hC.k35 (by decide) rfl rfl rfl (Nat.le_of_ble_eq_true rfl) (Nat.zero_add _).symm (Nat.zero_add _).symm rfl (c_X0_mostByCall_1 hC hWB hY2 ?_)
  intro M3 hF3 hch3
  refine J_ineg (v := -(gmV 1 (runT A p j (takenY A j 1)))) hx dX0_valueBehind_50 (w32_id (by omega) (by omega)) ?_
  refine J_iret hx hr dX0_valueBehind_51 ?_
  exact hQ M3 ((FrG2.y (hF1.tr hF2)).tr hF3.to2)

set_option maxHeartbeats 4000000 in
theorem lp_X0_leastByRun_2 {g : WG} {d : Nat} {T : TT} {M : MM} {o sz : Nat} {A : YA} {Q : MVal → TT → MM → Nat → Prop} (hC : CT T o) (hWA : WFY A) {x : CX} (hx : OKx g x RX0 cX0_leastByRun (d + 7)) (hr : RTx g x (some .int) Q) {p : Nat} (hp : p < A.n) (hc : A.co p ≠ A.tn) (ho : ¬ overY A) (hQ : ∀ M', FrG2 o M M' → Q (vI (lbP (gmV 1) A p)) T M' sz) (j : Nat) (M1 : MM) (hY1 : YN M1 (o + 48) A) (hF1 : FrG2 o M M1) (hj : j + 1 ≤ (A.ch A.tn).length) : Jd g x 21 [vR (o + 35), vI (((p : Nat) : Int)), vI (2), vR (o + 48), vI (force A p), vI (lbJ (jtV (gmV 1) A p) j), vI (((j : Nat) : Int))] [] T M1 sz 0 0 := by
  have hn8 := hWA.n8
  have ht2 := hWA.tn2
  have hl8 := hWA.len8 ht2
  have hnv := not_over2 hWA ho
  have rgf := force_rg hWA hp
  refine J_iload hx dX0_leastByRun_21 rfl ?_
  refine J_aload_n hx dX0_leastByRun_23 (i := 3) rfl rfl ?_
  refine J_getR (b := o + 48 + 10) hx fl_X0_30 cl_X5 dX0_leastByRun_24 hC.y4.o (by decide) rfl hC.y4.r7 ?_
  refine J_aload_n hx dX0_leastByRun_27 (i := 3) rfl rfl ?_
  refine J_getI2 (v := ((A.tn : Nat) : Int)) hx fl_X0_34 cl_X5 dX0_leastByRun_28 hC.y4.o (by decide) rfl (hY1.tn hWA) ?_
  have rg1 := hWA.tn2
  refine J_iald2 (v := (((A.ch A.tn).length : Nat) : Int)) hx A.tn dX0_leastByRun_31 hC.y4.k10 (by omega) (hC.y4.l10 (by omega)) (hY1.sz (by omega)) ?_
  have rg2 := hWA.len8 (c := A.tn) (by omega)
  have rg3 := hWA.lenN (c := A.tn) (by omega)
  refine J_iconst (v := 1) hx dX0_leastByRun_32 (by decide) ?_
  refine J_isub (v := (((A.ch A.tn).length : Nat) : Int) - 1) hx dX0_leastByRun_33 (w32_id (by omega) (by omega)) ?_
  refine J_icmp_ge (tgt := 109) hx dX0_leastByRun_34 (by decide) (fun c4 => ?_) (fun c4 => ?_)
  · refine J_iload hx dX0_leastByRun_109 rfl ?_
    refine J_iret hx hr dX0_leastByRun_111 ?_
    have ej : j = (A.ch A.tn).length - 1 := by omega
    subst ej
    exact hQ M1 hF1
  · refine J_iload hx dX0_leastByRun_37 rfl ?_
    refine J_aload_n hx dX0_leastByRun_39 (i := 3) rfl rfl ?_
    refine J_aload_n hx dX0_leastByRun_40 (i := 3) rfl rfl ?_
    refine J_getI2 (v := ((A.tn : Nat) : Int)) hx fl_X0_34 cl_X5 dX0_leastByRun_41 hC.y4.o (by decide) rfl (hY1.tn hWA) ?_
    have rg5 := hWA.tn2
    refine J_iload hx dX0_leastByRun_44 rfl ?_
    refine J_invV (As := [vI (((A.tn : Nat) : Int)), vI (((j : Nat) : Int))]) (st := [vI (force A p)]) hx lk_X0_55 okX5_strengthAt dX0_leastByRun_46 hC.y4.o (by decide) rfl rfl rfl (Nat.le_of_ble_eq_true rfl) (Nat.zero_add _).symm (Nat.zero_add _).symm rfl (c_X5_strengthAt hC.y4 hY1 hWA (c := A.tn) (by omega) (j := j) (by omega) ?_)
    have rg6 := strl_rg hWA (l := A.ch A.tn) (fun p hp => hWA.lt (by omega) hp) (j := j) (by omega)
    refine J_icmp_le (tgt := 87) hx dX0_leastByRun_49 (by decide) (fun c7 => ?_) (fun c7 => ?_)
    · refine J_iload hx dX0_leastByRun_87 rfl ?_
      refine J_aload_n hx dX0_leastByRun_89 (i := 0) rfl rfl ?_
      refine J_iload_n hx dX0_leastByRun_90 (i := 1) rfl rfl ?_
      refine J_iload hx dX0_leastByRun_91 rfl ?_
      refine J_iconst (v := 0) hx dX0_leastByRun_93 (by decide) ?_
      refine J_iload_n hx dX0_leastByRun_94 (i := 2) rfl rfl ?_
      refine J_invV (As := [vI (((p : Nat) : Int)), vI (((j : Nat) : Int)), vI (0), vI (2)]) (st := [vI (lbJ (jtV (gmV 1) A p) j)]) hx lk_X0_58 okX0_valueBehind dX0_leastByRun_95 hC.k35 (by decide) rfl rfl rfl (Nat.le_of_ble_eq_true rfl) (Nat.zero_add _).symm (Nat.zero_add _).symm rfl (c_X0_valueBehind_2_0 hC hWA hY1 (p := p) (j := j) hp hc (by omega) ho ?_)
      intro M2 hF2
      have hY2 := hF2.k hY1
      refine J_mmin (v := if -(gmV 1 (runH A p j)) < lbJ (jtV (gmV 1) A p) j then -(gmV 1 (runH A p j)) else lbJ (jtV (gmV 1) A p) j) hx lk_X0_62 dX0_leastByRun_98 (Nat.le_of_ble_eq_true rfl) rfl ?_
      generalize emn8 : (if -(gmV 1 (runH A p j)) < lbJ (jtV (gmV 1) A p) j then -(gmV 1 (runH A p j)) else lbJ (jtV (gmV 1) A p) j) = mn8
      have rmn8 : mn8 = (if -(gmV 1 (runH A p j)) < lbJ (jtV (gmV 1) A p) j then -(gmV 1 (runH A p j)) else lbJ (jtV (gmV 1) A p) j) := emn8.symm
      refine J_istore (lsn := [vR (o + 35), vI (((p : Nat) : Int)), vI (2), vR (o + 48), vI (force A p), vI (mn8), vI (((j : Nat) : Int))]) hx dX0_leastByRun_101 (Nat.le_of_ble_eq_true rfl) rfl rfl ?_
      refine J_iinc (v := ((j : Nat) : Int) + 1) (lsn := [vR (o + 35), vI (((p : Nat) : Int)), vI (2), vR (o + 48), vI (force A p), vI (mn8), vI (((j : Nat) : Int) + 1)]) hx dX0_leastByRun_103 rfl (jinc1 (by omega) (by omega)) rfl rfl ?_
      refine J_goto (tgt := 21) hx dX0_leastByRun_106 (by decide) ?_
      have rgj := lbJ_rg (h := (jtV (gmV 1) A p)) (k := j) (fun j9 h9 => jtV_rg (gmV_rg 1) hWA ho hp hc (by omega))
      have e9 : mn8 = lbJ (jtV (gmV 1) A p) (j + 1) := by
        have ej := jtV_h (f := gmV 1) (A := A) (p := p) (j := j) (by omega)
        rw [lbJ_s]
        (repeat' split at *) <;> omega
      rw [e9]
      exact lp_X0_leastByRun_2 hC hWA hx hr hp hc ho hQ (j + 1) M2 hY2 (hF1.tr hF2) (by omega)
    · refine J_iload hx dX0_leastByRun_52 rfl ?_
      refine J_aload_n hx dX0_leastByRun_54 (i := 0) rfl rfl ?_
      refine J_iload_n hx dX0_leastByRun_55 (i := 1) rfl rfl ?_
      refine J_iload hx dX0_leastByRun_56 rfl ?_
      refine J_iconst (v := 1) hx dX0_leastByRun_58 (by decide) ?_
      refine J_iload_n hx dX0_leastByRun_59 (i := 2) rfl rfl ?_
      refine J_invV (As := [vI (((p : Nat) : Int)), vI (((j : Nat) : Int)), vI (1), vI (2)]) (st := [vI (lbJ (jtV (gmV 1) A p) j)]) hx lk_X0_58 okX0_valueBehind dX0_leastByRun_60 hC.k35 (by decide) rfl rfl rfl (Nat.le_of_ble_eq_true rfl) (Nat.zero_add _).symm (Nat.zero_add _).symm rfl (c_X0_valueBehind_2_1 hC hWA hY1 (p := p) (j := j) hp hc (by omega) ho ?_)
      intro M2 hF2
      have hY2 := hF2.k hY1
      refine J_mmin (v := if -(gmV 1 (runT A p j (takenY A j 0))) < lbJ (jtV (gmV 1) A p) j then -(gmV 1 (runT A p j (takenY A j 0))) else lbJ (jtV (gmV 1) A p) j) hx lk_X0_62 dX0_leastByRun_63 (Nat.le_of_ble_eq_true rfl) rfl ?_
      generalize emn9 : (if -(gmV 1 (runT A p j (takenY A j 0))) < lbJ (jtV (gmV 1) A p) j then -(gmV 1 (runT A p j (takenY A j 0))) else lbJ (jtV (gmV 1) A p) j) = mn9
      have rmn9 : mn9 = (if -(gmV 1 (runT A p j (takenY A j 0))) < lbJ (jtV (gmV 1) A p) j then -(gmV 1 (runT A p j (takenY A j 0))) else lbJ (jtV (gmV 1) A p) j) := emn9.symm
      refine J_istore (lsn := [vR (o + 35), vI (((p : Nat) : Int)), vI (2), vR (o + 48), vI (force A p), vI (mn9), vI (((j : Nat) : Int))]) hx dX0_leastByRun_66 (Nat.le_of_ble_eq_true rfl) rfl rfl ?_
      refine J_iload hx dX0_leastByRun_68 rfl ?_
      refine J_aload_n hx dX0_leastByRun_70 (i := 0) rfl rfl ?_
      refine J_iload_n hx dX0_leastByRun_71 (i := 1) rfl rfl ?_
      refine J_iload hx dX0_leastByRun_72 rfl ?_
      refine J_iconst (v := 2) hx dX0_leastByRun_74 (by decide) ?_
      refine J_iload_n hx dX0_leastByRun_75 (i := 2) rfl rfl ?_
      refine J_invV (As := [vI (((p : Nat) : Int)), vI (((j : Nat) : Int)), vI (2), vI (2)]) (st := [vI (mn9)]) hx lk_X0_58 okX0_valueBehind dX0_leastByRun_76 hC.k35 (by decide) rfl rfl rfl (Nat.le_of_ble_eq_true rfl) (Nat.zero_add _).symm (Nat.zero_add _).symm rfl (c_X0_valueBehind_2_2 hC hWA hY2 (p := p) (j := j) hp hc (by omega) ho ?_)
      intro M3 hF3
      have hY3 := hF3.k hY2
      refine J_mmin (v := if -(gmV 1 (runT A p j (takenY A j 1))) < mn9 then -(gmV 1 (runT A p j (takenY A j 1))) else mn9) hx lk_X0_62 dX0_leastByRun_79 (Nat.le_of_ble_eq_true rfl) rfl ?_
      generalize emn10 : (if -(gmV 1 (runT A p j (takenY A j 1))) < mn9 then -(gmV 1 (runT A p j (takenY A j 1))) else mn9) = mn10
      have rmn10 : mn10 = (if -(gmV 1 (runT A p j (takenY A j 1))) < mn9 then -(gmV 1 (runT A p j (takenY A j 1))) else mn9) := emn10.symm
      refine J_istore (lsn := [vR (o + 35), vI (((p : Nat) : Int)), vI (2), vR (o + 48), vI (force A p), vI (mn10), vI (((j : Nat) : Int))]) hx dX0_leastByRun_82 (Nat.le_of_ble_eq_true rfl) rfl rfl ?_
      refine J_goto (tgt := 103) hx dX0_leastByRun_84 (by decide) ?_
      refine J_iinc (v := ((j : Nat) : Int) + 1) (lsn := [vR (o + 35), vI (((p : Nat) : Int)), vI (2), vR (o + 48), vI (force A p), vI (mn10), vI (((j : Nat) : Int) + 1)]) hx dX0_leastByRun_103 rfl (jinc1 (by omega) (by omega)) rfl rfl ?_
      refine J_goto (tgt := 21) hx dX0_leastByRun_106 (by decide) ?_
      have rgj := lbJ_rg (h := (jtV (gmV 1) A p)) (k := j) (fun j9 h9 => jtV_rg (gmV_rg 1) hWA ho hp hc (by omega))
      have e9 : mn10 = lbJ (jtV (gmV 1) A p) (j + 1) := by
        have ej := jtV_t (f := gmV 1) (A := A) (p := p) (j := j) (by omega)
        rw [lbJ_s]
        (repeat' split at *) <;> omega
      rw [e9]
      exact lp_X0_leastByRun_2 hC hWA hx hr hp hc ho hQ (j + 1) M3 hY3 ((hF1.tr hF2).tr hF3) (by omega)
termination_by (A.ch A.tn).length - j
decreasing_by all_goals omega

set_option maxHeartbeats 4000000 in
theorem c_X0_leastByRun_2 {g : WG} {d : Nat} {T : TT} {M : MM} {o sz : Nat} {A : YA} {Q : MVal → TT → MM → Nat → Prop} (hC : CT T o) (hWA : WFY A) (hY : YN M (o + 48) A) {p : Nat} (hp : p < A.n) (hc : A.co p ≠ A.tn) (ho : ¬ overY A) (hQ : ∀ M', FrG2 o M M' → Q (vI (lbP (gmV 1) A p)) T M' sz) : Ct g (d + 7) mX0_leastByRun [vR (o + 35), vI (((p : Nat) : Int)), vI (2)] T M sz 0 0 Q := by
  refine Ct_of2 (ls := [vR (o + 35), vI (((p : Nat) : Int)), vI (2), vU, vU, vU, vU]) okX0_leastByRun rfl (Nat.le_of_ble_eq_true rfl) rfl ?_
  intro x hx hr hnm
  have hn8 := hWA.n8
  have ht2 := hWA.tn2
  have hl8 := hWA.len8 ht2
  refine J_aload_n hx dX0_leastByRun_0 (i := 0) rfl rfl ?_
  refine J_getR (b := o + 36) hx fl_X0_11 cl_X0 dX0_leastByRun_1 hC.k35 (by decide) rfl hC.g0 ?_
  refine J_iload_n hx dX0_leastByRun_4 (i := 2) rfl rfl ?_
  refine J_aald (b := o + 48) hx 2 dX0_leastByRun_5 hC.k36 (by decide) (by omega) (by rw [hC.n36]; decide) hC.q2 ?_
  refine J_astore_n (lsn := [vR (o + 35), vI (((p : Nat) : Int)), vI (2), vR (o + 48), vU, vU, vU]) hx dX0_leastByRun_6 (i := 3) rfl (Nat.le_of_ble_eq_true rfl) rfl rfl ?_
  refine J_aload_n hx dX0_leastByRun_7 (i := 3) rfl rfl ?_
  refine J_iload_n hx dX0_leastByRun_8 (i := 1) rfl rfl ?_
  refine J_invV (As := [vI (((p : Nat) : Int))]) (st := []) hx lk_X0_52 okX5_forceOf dX0_leastByRun_9 hC.y4.o (by decide) rfl rfl rfl (Nat.le_of_ble_eq_true rfl) (Nat.zero_add _).symm (Nat.zero_add _).symm rfl (c_X5_forceOf hC.y4 hY hWA (p := p) (by omega) ?_)
  have rg1 := force_rg hWA (p := p) (by omega)
  refine J_istore (lsn := [vR (o + 35), vI (((p : Nat) : Int)), vI (2), vR (o + 48), vI (force A p), vU, vU]) hx dX0_leastByRun_12 (Nat.le_of_ble_eq_true rfl) rfl rfl ?_
  refine J_bipush (v := 9) hx dX0_leastByRun_14 (by decide) ?_
  refine J_istore (lsn := [vR (o + 35), vI (((p : Nat) : Int)), vI (2), vR (o + 48), vI (force A p), vI (9), vU]) hx dX0_leastByRun_16 (Nat.le_of_ble_eq_true rfl) rfl rfl ?_
  refine J_iconst (v := 0) hx dX0_leastByRun_18 (by decide) ?_
  refine J_istore (lsn := [vR (o + 35), vI (((p : Nat) : Int)), vI (2), vR (o + 48), vI (force A p), vI (9), vI (0)]) hx dX0_leastByRun_19 (Nat.le_of_ble_eq_true rfl) rfl rfl ?_
  exact lp_X0_leastByRun_2 hC hWA hx hr hp hc ho hQ 0 M hY FrG2.rf (by have := not_over2 hWA ho; omega)

set_option maxHeartbeats 4000000 in
theorem lp_X0_mostByCall_2 {g : WG} {d : Nat} {T : TT} {M : MM} {o sz : Nat} {A : YA} {Q : MVal → TT → MM → Nat → Prop} (hC : CT T o) (hWA : WFY A) {x : CX} (hx : OKx g x RX0 cX0_mostByCall (d + 8)) (hr : RTx g x (some .int) Q) (ho : ¬ overY A) (hQ : ∀ M', FrG2 o M M' → (¬ overY A → M' (o + 35) 1 = gmC (gmV 1) A) → Q (vI (gmV 2 A)) T M' sz) (i : Nat) (b wh : Int) (u : MVal) (M1 : MM) (hY1 : YN M1 (o + 48) A) (hF1 : FrG2 o M M1) (hi : i ≤ A.n) (hb : b = - pkV 9 (calY A) (gmK (gmV 1) A) i) (hw : wh = pkI (calY A) (gmK (gmV 1) A) i) : Jd g x 49 [vR (o + 35), vI (2), vR (o + 48), vI (b), vI (wh), vI (((i : Nat) : Int)), u] [] T M1 sz 0 0 := by
  have hn8 := hWA.n8
  have ht2 := hWA.tn2
  have hl8 := hWA.len8 ht2
  have rgb := pkV9_rg (gmV_rg 1) hWA ho hi
  refine J_iload hx dX0_mostByCall_49 rfl ?_
  refine J_aload_n hx dX0_mostByCall_51 (i := 2) rfl rfl ?_
  refine J_getI2 (v := ((A.n : Nat) : Int)) hx fl_X0_38 cl_X5 dX0_mostByCall_52 hC.y4.o (by decide) rfl hY1.pp ?_
  have rg1 := hWA.n8
  refine J_icmp_ge (tgt := 99) hx dX0_mostByCall_55 (by decide) (fun c2 => ?_) (fun c2 => ?_)
  · refine J_aload_n hx dX0_mostByCall_99 (i := 0) rfl rfl ?_
    refine J_iload hx dX0_mostByCall_100 rfl ?_
    refine J_putI hx fl_X0_49 cl_X0 dX0_mostByCall_102 hC.k35 (by decide) rfl (Or.inl rfl) (by decide) ?_
    generalize eM2 : up2 M1 (o + 35) 1 wh = M2
    have hM2a : M2 (o + 35) 1 = wh := by rw [← eM2]; exact up2_at
    have hM2o : ∀ b9 j9, (b9 ≠ o + 35 ∨ j9 ≠ 1) → M2 b9 j9 = M1 b9 j9 := fun b9 j9 h9 => by rw [← eM2]; exact up2_ne h9
    have hM2r : ∀ b9, b9 ≠ o + 35 → M2 b9 = M1 b9 := fun b9 h9 => by rw [← eM2]; exact up2_row h9
    refine J_iload_n hx dX0_mostByCall_105 (i := 3) rfl rfl ?_
    refine J_iret hx hr dX0_mostByCall_106 ?_
    have ei : i = A.n := by omega
    subst ei
    have e8 : gmV 2 A = b := by rw [gmV_s ho]; omega
    rw [e8] at hQ
    exact hQ M2 (fun a9 h3 h5 h4 => by rw [hM2r a9 h4]; exact hF1 a9 h3 h5 h4) (fun _ => by rw [hM2a, hw]; rfl)
  · refine J_aload_n hx dX0_mostByCall_58 (i := 2) rfl rfl ?_
    refine J_iload hx dX0_mostByCall_59 rfl ?_
    refine J_invV (As := [vI (((i : Nat) : Int))]) (st := []) hx lk_X0_41 okX5_isCalled dX0_mostByCall_61 hC.y4.o (by decide) rfl rfl rfl (Nat.le_of_ble_eq_true rfl) (Nat.zero_add _).symm (Nat.zero_add _).symm rfl (c_X5_isCalled hC.y4 hY1 hWA (p := i) (by omega) ?_)
    intro vc hvc
    refine J_if_eq (tgt := 77) hx dX0_mostByCall_64 (by decide) (fun c3 => ?_) (fun c3 => ?_)
    · refine J_iload_n hx dX0_mostByCall_77 (i := 3) rfl rfl ?_
      refine J_istore (lsn := [vR (o + 35), vI (2), vR (o + 48), vI (b), vI (wh), vI (((i : Nat) : Int)), vI (b)]) hx dX0_mostByCall_78 (Nat.le_of_ble_eq_true rfl) rfl rfl ?_
      refine J_iload hx dX0_mostByCall_80 rfl ?_
      refine J_iload_n hx dX0_mostByCall_82 (i := 3) rfl rfl ?_
      refine J_icmp_le (tgt := 93) hx dX0_mostByCall_83 (by decide) (fun c4 => ?_) (fun c4 => ?_)
      · refine J_iinc (v := ((i : Nat) : Int) + 1) (lsn := [vR (o + 35), vI (2), vR (o + 48), vI (b), vI (wh), vI (((i : Nat) : Int) + 1), vI (b)]) hx dX0_mostByCall_93 rfl (jinc1 (by omega) (by omega)) rfl rfl ?_
        refine J_goto (tgt := 49) hx dX0_mostByCall_96 (by decide) ?_
        have e9 : pick (calY A) (gmK (gmV 1) A) (i + 1) = pick (calY A) (gmK (gmV 1) A) i := qk_no (H := 9) (decide_eq_false (by omega))
        exact lp_X0_mostByCall_2 hC hWA hx hr ho hQ (i + 1) _ _ _ M1 hY1 hF1 (by omega) (by rw [pkV_eq e9]; exact hb) (by rw [pkI_eq e9]; exact hw)
      · refine J_iload hx dX0_mostByCall_86 rfl ?_
        refine J_istore_n (lsn := [vR (o + 35), vI (2), vR (o + 48), vI (b), vI (wh), vI (((i : Nat) : Int)), vI (b)]) hx dX0_mostByCall_88 (i := 3) rfl (Nat.le_of_ble_eq_true rfl) rfl rfl ?_
        refine J_iload hx dX0_mostByCall_89 rfl ?_
        refine J_istore (lsn := [vR (o + 35), vI (2), vR (o + 48), vI (b), vI (((i : Nat) : Int)), vI (((i : Nat) : Int)), vI (b)]) hx dX0_mostByCall_91 (Nat.le_of_ble_eq_true rfl) rfl rfl ?_
        refine J_iinc (v := ((i : Nat) : Int) + 1) (lsn := [vR (o + 35), vI (2), vR (o + 48), vI (b), vI (((i : Nat) : Int)), vI (((i : Nat) : Int) + 1), vI (b)]) hx dX0_mostByCall_93 rfl (jinc1 (by omega) (by omega)) rfl rfl ?_
        refine J_goto (tgt := 49) hx dX0_mostByCall_96 (by decide) ?_
        exfalso; omega
    · refine J_aload_n hx dX0_mostByCall_67 (i := 0) rfl rfl ?_
      refine J_iload hx dX0_mostByCall_68 rfl ?_
      refine J_iload_n hx dX0_mostByCall_70 (i := 1) rfl rfl ?_
      refine J_invV (As := [vI (((i : Nat) : Int)), vI (2)]) (st := []) hx lk_X0_45 okX0_leastByRun dX0_mostByCall_71 hC.k35 (by decide) rfl rfl rfl (Nat.le_of_ble_eq_true rfl) (Nat.zero_add _).symm (Nat.zero_add _).symm rfl (c_X0_leastByRun_2 hC hWA hY1 (p := i) (by omega) (by omega) ho ?_)
      intro M2 hF2
      have hY2 := hF2.k hY1
      have rgl := lbP_rg (gmV_rg 1) hWA ho (p := i) (by omega) (by omega)
      refine J_goto (tgt := 78) hx dX0_mostByCall_74 (by decide) ?_
      refine J_istore (lsn := [vR (o + 35), vI (2), vR (o + 48), vI (b), vI (wh), vI (((i : Nat) : Int)), vI (lbP (gmV 1) A i)]) hx dX0_mostByCall_78 (Nat.le_of_ble_eq_true rfl) rfl rfl ?_
      refine J_iload hx dX0_mostByCall_80 rfl ?_
      refine J_iload_n hx dX0_mostByCall_82 (i := 3) rfl rfl ?_
      refine J_icmp_le (tgt := 93) hx dX0_mostByCall_83 (by decide) (fun c5 => ?_) (fun c5 => ?_)
      · refine J_iinc (v := ((i : Nat) : Int) + 1) (lsn := [vR (o + 35), vI (2), vR (o + 48), vI (b), vI (wh), vI (((i : Nat) : Int) + 1), vI (lbP (gmV 1) A i)]) hx dX0_mostByCall_93 rfl (jinc1 (by omega) (by omega)) rfl rfl ?_
        refine J_goto (tgt := 49) hx dX0_mostByCall_96 (by decide) ?_
        have e9 : pick (calY A) (gmK (gmV 1) A) (i + 1) = pick (calY A) (gmK (gmV 1) A) i := qk_ge (H := 9) (by unfold gmK; omega) (by unfold gmK at *; omega)
        exact lp_X0_mostByCall_2 hC hWA hx hr ho hQ (i + 1) _ _ _ M2 hY2 (hF1.tr hF2) (by omega) (by rw [pkV_eq e9]; exact hb) (by rw [pkI_eq e9]; exact hw)
      · refine J_iload hx dX0_mostByCall_86 rfl ?_
        refine J_istore_n (lsn := [vR (o + 35), vI (2), vR (o + 48), vI (lbP (gmV 1) A i), vI (wh), vI (((i : Nat) : Int)), vI (lbP (gmV 1) A i)]) hx dX0_mostByCall_88 (i := 3) rfl (Nat.le_of_ble_eq_true rfl) rfl rfl ?_
        refine J_iload hx dX0_mostByCall_89 rfl ?_
        refine J_istore (lsn := [vR (o + 35), vI (2), vR (o + 48), vI (lbP (gmV 1) A i), vI (((i : Nat) : Int)), vI (((i : Nat) : Int)), vI (lbP (gmV 1) A i)]) hx dX0_mostByCall_91 (Nat.le_of_ble_eq_true rfl) rfl rfl ?_
        refine J_iinc (v := ((i : Nat) : Int) + 1) (lsn := [vR (o + 35), vI (2), vR (o + 48), vI (lbP (gmV 1) A i), vI (((i : Nat) : Int)), vI (((i : Nat) : Int) + 1), vI (lbP (gmV 1) A i)]) hx dX0_mostByCall_93 rfl (jinc1 (by omega) (by omega)) rfl rfl ?_
        refine J_goto (tgt := 49) hx dX0_mostByCall_96 (by decide) ?_
        have e9 : pick (calY A) (gmK (gmV 1) A) (i + 1) = some i := qk_lt (H := 9) (decide_eq_true (by omega)) (by unfold gmK at *; omega)
        exact lp_X0_mostByCall_2 hC hWA hx hr ho hQ (i + 1) _ _ _ M2 hY2 (hF1.tr hF2) (by omega) (by rw [pkV_of e9]; unfold gmK; omega) (by rw [pkI_of e9])
termination_by A.n - i
decreasing_by all_goals omega

set_option maxHeartbeats 4000000 in
theorem c_X0_mostByCall_2 {g : WG} {d : Nat} {T : TT} {M : MM} {o sz : Nat} {A : YA} {Q : MVal → TT → MM → Nat → Prop} (hC : CT T o) (hWA : WFY A) (hY : YN M (o + 48) A) (hQ : ∀ M', FrG2 o M M' → (¬ overY A → M' (o + 35) 1 = gmC (gmV 1) A) → Q (vI (gmV 2 A)) T M' sz) : Ct g (d + 8) mX0_mostByCall [vR (o + 35), vI (2)] T M sz 0 0 Q := by
  refine Ct_of2 (ls := [vR (o + 35), vI (2), vU, vU, vU, vU, vU]) okX0_mostByCall rfl (Nat.le_of_ble_eq_true rfl) rfl ?_
  intro x hx hr hnm
  have hn8 := hWA.n8
  have ht2 := hWA.tn2
  have hl8 := hWA.len8 ht2
  refine J_aload_n hx dX0_mostByCall_0 (i := 0) rfl rfl ?_
  refine J_getR (b := o + 36) hx fl_X0_11 cl_X0 dX0_mostByCall_1 hC.k35 (by decide) rfl hC.g0 ?_
  refine J_iload_n hx dX0_mostByCall_4 (i := 1) rfl rfl ?_
  refine J_aald (b := o + 48) hx 2 dX0_mostByCall_5 hC.k36 (by decide) (by omega) (by rw [hC.n36]; decide) hC.q2 ?_
  refine J_astore_n (lsn := [vR (o + 35), vI (2), vR (o + 48), vU, vU, vU, vU]) hx dX0_mostByCall_6 (i := 2) rfl (Nat.le_of_ble_eq_true rfl) rfl rfl ?_
  refine J_iload_n hx dX0_mostByCall_7 (i := 1) rfl rfl ?_
  refine J_if_le (tgt := 18) hx dX0_mostByCall_8 (by decide) (fun c9 => absurd c9 (by decide)) (fun _ => ?_)
  refine J_aload_n hx dX0_mostByCall_11 (i := 2) rfl rfl ?_
  refine J_invV (As := []) (st := []) hx lk_X0_26 okX5_isOver dX0_mostByCall_12 hC.y4.o (by decide) rfl rfl rfl (Nat.le_of_ble_eq_true rfl) (Nat.zero_add _).symm (Nat.zero_add _).symm rfl (c_X5_isOver hC.y4 hY hWA  ?_)
  intro v2 hv2
  refine J_if_eq (tgt := 40) hx dX0_mostByCall_15 (by decide) (fun c3 => ?_) (fun c3 => ?_)
  · refine J_bipush (v := -9) hx dX0_mostByCall_40 (by decide) ?_
    refine J_istore_n (lsn := [vR (o + 35), vI (2), vR (o + 48), vI ((-9)), vU, vU, vU]) hx dX0_mostByCall_42 (i := 3) rfl (Nat.le_of_ble_eq_true rfl) rfl rfl ?_
    refine J_iconst (v := -1) hx dX0_mostByCall_43 (by decide) ?_
    refine J_istore (lsn := [vR (o + 35), vI (2), vR (o + 48), vI ((-9)), vI ((-1)), vU, vU]) hx dX0_mostByCall_44 (Nat.le_of_ble_eq_true rfl) rfl rfl ?_
    refine J_iconst (v := 0) hx dX0_mostByCall_46 (by decide) ?_
    refine J_istore (lsn := [vR (o + 35), vI (2), vR (o + 48), vI ((-9)), vI ((-1)), vI (0), vU]) hx dX0_mostByCall_47 (Nat.le_of_ble_eq_true rfl) rfl rfl ?_
    exact lp_X0_mostByCall_2 hC hWA hx hr (fun q9 => by unfold overY at *; omega) hQ 0 _ _ _ M hY FrG2.rf (by omega) rfl rfl
  · refine J_aload_n hx dX0_mostByCall_18 (i := 2) rfl rfl ?_
    refine J_getR (b := o + 48 + 10) hx fl_X0_30 cl_X5 dX0_mostByCall_19 hC.y4.o (by decide) rfl hC.y4.r7 ?_
    refine J_aload_n hx dX0_mostByCall_22 (i := 2) rfl rfl ?_
    refine J_getI2 (v := ((A.tn : Nat) : Int)) hx fl_X0_34 cl_X5 dX0_mostByCall_23 hC.y4.o (by decide) rfl (hY.tn hWA) ?_
    have rg4 := hWA.tn2
    refine J_iald2 (v := (((A.ch A.tn).length : Nat) : Int)) hx A.tn dX0_mostByCall_26 hC.y4.k10 (by omega) (hC.y4.l10 (by omega)) (hY.sz (by omega)) ?_
    have rg5 := hWA.len8 (c := A.tn) (by omega)
    have rg6 := hWA.lenN (c := A.tn) (by omega)
    refine J_aload_n hx dX0_mostByCall_27 (i := 2) rfl rfl ?_
    refine J_getR (b := o + 48 + 10) hx fl_X0_30 cl_X5 dX0_mostByCall_28 hC.y4.o (by decide) rfl hC.y4.r7 ?_
    refine J_iconst (v := 1) hx dX0_mostByCall_31 (by decide) ?_
    refine J_aload_n hx dX0_mostByCall_32 (i := 2) rfl rfl ?_
    refine J_getI2 (v := ((A.tn : Nat) : Int)) hx fl_X0_34 cl_X5 dX0_mostByCall_33 hC.y4.o (by decide) rfl (hY.tn hWA) ?_
    have rg7 := hWA.tn2
    refine J_isub (v := ((1 - A.tn : Nat) : Int)) hx dX0_mostByCall_36 (by rw [w32_id (by omega) (by omega)]; omega) ?_
    refine J_iald2 (v := (((A.ch (1 - A.tn)).length : Nat) : Int)) hx (1 - A.tn) dX0_mostByCall_37 hC.y4.k10 (by omega) (hC.y4.l10 (by omega)) (hY.sz (by omega)) ?_
    have rg8 := hWA.len8 (c := 1 - A.tn) (by omega)
    have rg9 := hWA.lenN (c := 1 - A.tn) (by omega)
    refine J_isub (v := (((A.ch A.tn).length : Nat) : Int) - (((A.ch (1 - A.tn)).length : Nat) : Int)) hx dX0_mostByCall_38 (w32_id (by omega) (by omega)) ?_
    refine J_iret hx hr dX0_mostByCall_39 ?_
    have ho : overY A := by unfold overY at *; omega
    rw [gmV_o ho] at hQ
    exact hQ M FrG2.rf (fun q9 => absurd ho q9)

-- chosen is field 1, depths {0: 2, 1: 5, 2: 8}
