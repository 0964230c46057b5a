theorem FrL.m {r : Nat} {M M1 M2 : MM} (h : FrL r M M1) (h2 : FrM r M1 M2) : FrM r M M2 := fun a j h3 h4 => (h2 a j h3 h4).trans (h a j (by omega))
theorem RPE.m {M M' : MM} {r z : Nat} {B : Nat → Int} (h : RPE M r z B) (hF : FrM r M M') : RPE M' r z B := h.w hF.w
theorem RPE.n {M M' : MM} {r z : Nat} {B : Nat → Int} (h : RPE M r z B) (hF : FrN r M M') : RPE M' r z B := h.w (FrW.n hF)
def FrV (r : Nat) (M M' : MM) : Prop := ∀ a j, ¬ (a = r ∧ ((27 ≤ j ∧ j ≤ 33) ∨ j = 9 ∨ (17 ≤ j ∧ j ≤ 23))) → ¬ (r + 17 ≤ a ∧ a ≤ r + 26) → M' a j = M a j
theorem FrV.tr {r : Nat} {M M1 M2 : MM} (h : FrV r M M1) (h2 : FrV r M1 M2) : FrV r M M2 := fun a j h3 h4 => (h2 a j h3 h4).trans (h a j h3 h4)
theorem FrV.w {r : Nat} {M M' : MM} (h : FrW r M M') : FrV r M M' := fun a j h3 h4 => h a j (by omega) h4
theorem RPE.v {M M' : MM} {r z : Nat} {B : Nat → Int} (h : RPE M r z B) (hF : FrV r M M') : RPE M' r z B := ⟨by rw [hF _ _ (by omega) (by omega)]; exact h.1, h.2.1, fun j hj => by rw [hF _ _ (by omega) (by omega)]; exact h.2.2 j hj⟩
theorem RN.told {M M' : MM} {r : Nat} {S : ST} {A : YA} (h : RN M r S) (hY : MN M' r A) (h7 : M' r 7 = 0) (hF : ∀ a j, ¬ (a = r ∧ (j = 7 ∨ j = 9 ∨ (17 ≤ j ∧ j ≤ 23) ∨ (27 ≤ j ∧ j ≤ 33))) → ¬ (r + 17 ≤ a ∧ a ≤ r + 26) → M' a j = M a j) : RN M' r (yS (tpS S (0, S.tp.2)) A) := by
  obtain ⟨h1, h2, ⟨h3, h4⟩, h5⟩ := h
  refine ⟨hY, fun s hs => ?_, ⟨h7, fun j hj => absurd hj (Nat.not_lt_zero j)⟩, fun j hj => by rw [hF _ _ (by omega) (by omega)]; exact h5 j hj⟩
  obtain ⟨a1, a2, a3⟩ := h2 s hs
  exact ⟨by rw [hF _ _ (by omega) (by omega)]; exact a1, fun hr => ⟨by rw [hF _ _ (by omega) (by omega)]; exact (a2 hr).1, by rw [hF _ _ (by omega) (by omega)]; exact (a2 hr).2.1, fun j hj => by rw [hF _ _ (by omega) (by omega)]; exact (a2 hr).2.2 j hj⟩, fun hr => by rw [hF _ _ (by omega) (by omega)]; exact a3 hr⟩
theorem FrW.f {r : Nat} {M M' : MM} (h : ∀ a j, ¬ (a = r ∧ j = 31) → M' a j = M a j) : FrW r M M' := fun a j h3 h4 => h a j (by omega)
set_option maxHeartbeats 4000000 in
theorem c_X7_tells {g : WG} {d : Nat} {T : TT} {M : MM} {r sz z : Nat} {B : Nat → Int} {Q : MVal → TT → MM → Nat → Prop} (hT : MT T r) (hE : RPE M r z B) {tk : TK} {lo hi : Int} (hlo : 0 ≤ lo) (hhi : hi < 1000) (hlr : lo ≤ 1000) (hhr : -1000 ≤ hi) (hwt : wfT B z tk) (hP : TPr M r B tk) (hQ1 : okT B (nk B z 1 tk) lo hi = true → ∀ M', TPr M' r B (nk B z 2 tk) → M' (r + 26) 0 = vk B z 1 tk → (∀ i', i' ≠ 0 → M' (r + 26) i' = M (r + 26) i') → FrM r M M' → Q (vI 1) T M' sz) (hQ0 : okT B (nk B z 1 tk) lo hi = false → ∀ M', M' r 31 = (((nk B z 1 tk).1 : Nat) : Int) → FrM r M M' → Q (vI 0) T M' sz) : Ct g (d + 4) mX7_tells [vR (r), vI (lo), vI (hi)] T M sz 0 0 Q := by
  refine Ct_of2 (ls := [vR (r), vI (lo), vI (hi)]) okX7_tells rfl (Nat.le_of_ble_eq_true rfl) rfl ?_
  intro x hx hr hnm
  refine J_aload_n hx dX7_tells_0 (i := 0) rfl rfl ?_
  refine J_invVv (As := []) (st := []) hx lk_X7_201 okX7_look dX7_tells_1 hT.o (by decide) rfl rfl rfl (Nat.le_of_ble_eq_true rfl) (Nat.zero_add _).symm (Nat.zero_add _).symm rfl (c_X7_look hT hE (e := tk.2.2) hwt.2.2.1 hP.1 ?_)
  intro M2 hP2 hL
  replace hP2 : TPr M2 r B (nk B z 1 tk) := hP2
  refine J_aload_n hx dX7_tells_4 (i := 0) rfl rfl ?_
  refine J_iconst (v := 0) hx dX7_tells_5 (by decide) ?_
  refine J_iload_n hx dX7_tells_6 (i := 1) rfl rfl ?_
  refine J_iload_n hx dX7_tells_7 (i := 2) rfl rfl ?_
  refine J_invV (As := [vI 0, vI lo, vI hi]) (st := []) hx lk_X7_204 okX7_number dX7_tells_8 hT.o (by decide) rfl rfl rfl (Nat.le_of_ble_eq_true rfl) (Nat.zero_add _).symm (Nat.zero_add _).symm rfl (c_X7_number hT (hE.l hL) (i := 0) (by decide) hlo hhi hlr hhr (nk_wf hwt 1).1 hP2 (fun hk M3 hP3 hD hd hm => ?_) (fun hk M3 h31 hm => ?_))
  · exact J_zret hx hr dX7_tells_11 (by omega) (hQ1 hk M3 hP3 hD (fun i9 h9 => by rw [hd i9 h9, hL _ _ (by omega)]) (hL.m hm))
  · exact J_zret hx hr dX7_tells_11 (by omega) (hQ0 hk M3 h31 (hL.m hm))

set_option maxHeartbeats 4000000 in
theorem c_X7_asks {g : WG} {d : Nat} {T : TT} {M : MM} {r sz z : Nat} {B : Nat → Int} {A : YA} {tk : TK} {Q : MVal → TT → MM → Nat → Prop} (hT : MT T r) (hE1 : RPE M r z B) (hwt : wfT B z tk) (hP1 : TPr M r B tk) (hY1 : MN M r A) (hWA : WFY A) {what lo hi : Int} (hw : 0 ≤ what ∧ what ≤ 4) (hlo : 0 ≤ lo) (hhi : hi < 1000) (hm : ∀ v, mayQ what v ↔ (lo ≤ v ∧ v ≤ hi)) (hQ1 : (sAsk B z A tk (what.toNat + 1) lo hi).1 = -1 → ∀ M', MN M' r (sAsk B z A tk (what.toNat + 1) lo hi).2.1 → TPr M' r B (sAsk B z A tk (what.toNat + 1) lo hi).2.2 → FrW r M M' → Q (vI 1) T M' sz) (hQ0 : (sAsk B z A tk (what.toNat + 1) lo hi).1 ≠ -1 → ∀ M', M' r 31 = (sAsk B z A tk (what.toNat + 1) lo hi).1 → FrW r M M' → Q (vI 0) T M' sz) : Ct g (d + 3) mX7_asks [vR (r), vI (what)] T M sz 0 0 Q := by
  refine Ct_of2 (ls := [vR (r), vI (what)]) okX7_asks rfl (Nat.le_of_ble_eq_true rfl) rfl ?_
  intro x hx hr hnm
  have hF1 : FrW r M M := FrW.rf
  have hz2 := hE1.z2
  have hn8 := hWA.n8
  have ht2 := hWA.tn2
  have hl8 := hWA.len8 ht2
  have hfr := fgT_rg (nk_wf hwt 1).1
  refine J_aload_n hx dX7_asks_0 (i := 0) rfl rfl ?_
  refine J_invVv (As := []) (st := []) hx lk_X7_201 okX7_look dX7_asks_1 hT.o (by decide) rfl rfl rfl (Nat.le_of_ble_eq_true rfl) (Nat.zero_add _).symm (Nat.zero_add _).symm rfl (c_X7_look hT hE1 (e := tk.2.2) (nk_wf hwt 0).1.2.2.1 hP1.1 ?_)
  intro M2 hP2 hL2
  replace hP2 : TPr M2 r B (nk B z 1 tk) := hP2
  have hE2 := hE1.l hL2
  have hY2 := hY1.l hL2
  have hF2 := hF1.tr (FrW.l hL2)
  refine J_aload_n hx dX7_asks_4 (i := 0) rfl rfl ?_
  refine J_getI2 (v := (nk B z 1 tk).2.1) hx fl_X7_175 cl_X7 dX7_asks_5 hT.o (by decide) rfl hP2.2.1 ?_
  refine J_iconst (v := 2) hx dX7_asks_8 (by decide) ?_
  refine J_icmp_ne (tgt := 23) hx dX7_asks_9 (by decide) (fun c1 => ?_) (fun c1 => ?_)
  · refine J_aload_n hx dX7_asks_23 (i := 0) rfl rfl ?_
    refine J_invV (As := []) (st := []) hx lk_X7_197 okX7_wrong dX7_asks_24 hT.o (by decide) rfl rfl rfl (Nat.le_of_ble_eq_true rfl) (Nat.zero_add _).symm (Nat.zero_add _).symm rfl (c_X7_wrong hT hP2.2.2.1 ?_)
    intro M3 h31 hL3
    have hF3 := hF2.tr (FrW.f hL3)
    refine J_zret hx hr dX7_asks_27 (by omega) ?_
    have eR : sAsk B z A tk (what.toNat + 1) lo hi = ((((nk B z 1 tk).1 : Nat) : Int), A, tk) := by
      unfold sAsk
      rw [if_pos (Bool.eq_false_iff.mpr (fun h9 => by have h8 := (okT_f (B := B) hlo hhi).mp h9; omega))]
    rw [eR] at hQ0
    exact hQ0 (show ((_ : Nat) : Int) ≠ -1 by omega) M3 h31 hF3
  · refine J_iload_n hx dX7_asks_12 (i := 1) rfl rfl ?_
    refine J_aload_n hx dX7_asks_13 (i := 0) rfl rfl ?_
    refine J_getI2 (v := fgT B (nk B z 1 tk)) hx fl_X7_172 cl_X7 dX7_asks_14 hT.o (by decide) rfl hP2.2.2.2 ?_
    refine J_invS (As := [vI (what), vI (fgT B (nk B z 1 tk))]) (st := []) hx lk_X7_151 okX7_mayAsk dX7_asks_17 rfl rfl (Nat.le_of_ble_eq_true rfl) (Nat.zero_add _).symm (Nat.zero_add _).symm rfl (c_X7_mayAsk (what := what) (v := fgT B (nk B z 1 tk)) ?_)
    intro vm hvm
    have hmm := hm (fgT B (nk B z 1 tk))
    rw [hmm] at hvm
    refine J_if_ne (tgt := 28) hx dX7_asks_20 (by decide) (fun c2 => ?_) (fun c2 => ?_)
    · refine J_aload_n hx dX7_asks_28 (i := 0) rfl rfl ?_
      refine J_iload_n hx dX7_asks_29 (i := 1) rfl rfl ?_
      refine J_aload_n hx dX7_asks_30 (i := 0) rfl rfl ?_
      refine J_getI2 (v := fgT B (nk B z 1 tk)) hx fl_X7_172 cl_X7 dX7_asks_31 hT.o (by decide) rfl hP2.2.2.2 ?_
      refine J_invVv (As := [vI (what), vI (fgT B (nk B z 1 tk))]) (st := []) hx lk_X7_157 okX7_becomes dX7_asks_34 hT.o (by decide) rfl rfl rfl (Nat.le_of_ble_eq_true rfl) (Nat.zero_add _).symm (Nat.zero_add _).symm rfl (c_X7_becomes hT hY2 (what := what) (v := fgT B (nk B z 1 tk)) (by omega) ?_)
      intro M3 hYx hYf
      have hP3 := hP2.n hYf
      have hE3 := hE2.n hYf
      have hF3 := hF2.tr (FrW.n hYf)
      have hY3 := hYx
      refine J_aload_n hx dX7_asks_37 (i := 0) rfl rfl ?_
      refine J_invVv (As := []) (st := []) hx lk_X7_201 okX7_look dX7_asks_38 hT.o (by decide) rfl rfl rfl (Nat.le_of_ble_eq_true rfl) (Nat.zero_add _).symm (Nat.zero_add _).symm rfl (c_X7_look hT hE3 (e := (nk B z 1 tk).2.2) (nk_wf hwt 1).1.2.2.1 hP3.1 ?_)
      intro M4 hP4 hL4
      replace hP4 : TPr M4 r B (nk B z 2 tk) := hP4
      have hE4 := hE3.l hL4
      have hY4 := hY3.l hL4
      have hF4 := hF3.tr (FrW.l hL4)
      refine J_iconst (v := 1) hx dX7_asks_41 (by decide) ?_
      refine J_zret hx hr dX7_asks_42 (by omega) ?_
      have hok : okT B (nk B z 1 tk) lo hi = true := (okT_f hlo hhi).mpr (by omega)
      have ev := okT_v hlo hok
      have eR : sAsk B z A tk (what.toNat + 1) lo hi = (-1, A.setS (what.toNat + 1) (vk B z 1 tk), nk B z 2 tk) := by
        unfold sAsk
        rw [if_neg (by rw [hok]; decide)]
      rw [eR] at hQ1
      exact hQ1 rfl M4 (show MN _ r (A.setS (what.toNat + 1) (vlT B (nk B z 1 tk))) from ev ▸ hY4) hP4 hF4
    · refine J_aload_n hx dX7_asks_23 (i := 0) rfl rfl ?_
      refine J_invV (As := []) (st := []) hx lk_X7_197 okX7_wrong dX7_asks_24 hT.o (by decide) rfl rfl rfl (Nat.le_of_ble_eq_true rfl) (Nat.zero_add _).symm (Nat.zero_add _).symm rfl (c_X7_wrong hT hP2.2.2.1 ?_)
      intro M3 h31 hL3
      have hF3 := hF2.tr (FrW.f hL3)
      refine J_zret hx hr dX7_asks_27 (by omega) ?_
      have eR : sAsk B z A tk (what.toNat + 1) lo hi = ((((nk B z 1 tk).1 : Nat) : Int), A, tk) := by
        unfold sAsk
        rw [if_pos (Bool.eq_false_iff.mpr (fun h9 => by have h8 := (okT_f (B := B) hlo hhi).mp h9; omega))]
      rw [eR] at hQ0
      exact hQ0 (show ((_ : Nat) : Int) ≠ -1 by omega) M3 h31 hF3

set_option maxHeartbeats 4000000 in
theorem c_X7_runTold {g : WG} {d : Nat} {T : TT} {M : MM} {r sz z : Nat} {B : Nat → Int} {A : YA} {tk : TK} {Q : MVal → TT → MM → Nat → Prop} (hT : MT T r) (hE1 : RPE M r z B) (hwt : wfT B z tk) (hP1 : TPr M r B tk) (hY1 : MN M r A) (hWA : WFY A) (hQ1 : (sRun B z A tk).1 = -1 → ∀ M', MN M' r (sRun B z A tk).2.1 → TPr M' r B (sRun B z A tk).2.2 → FrW r M M' → Q (vI 1) T M' sz) (hQ0 : (sRun B z A tk).1 ≠ -1 → ∀ M', M' r 31 = (sRun B z A tk).1 → FrW r M M' → Q (vI 0) T M' sz) : Ct g (d + 4) mX7_runTold [vR (r)] T M sz 0 0 Q := by
  refine Ct_of2 (ls := [vR (r), vU]) okX7_runTold rfl (Nat.le_of_ble_eq_true rfl) rfl ?_
  intro x hx hr hnm
  have hF1 : FrW r M M := FrW.rf
  have hz2 := hE1.z2
  have hn8 := hWA.n8
  have ht2 := hWA.tn2
  have hl8 := hWA.len8 ht2
  have hfr1 := fgT_rg (nk_wf hwt 1).1
  have hfr3 := fgT_rg (nk_wf hwt 3).1
  refine J_aload_n hx dX7_runTold_0 (i := 0) rfl rfl ?_
  refine J_invVv (As := []) (st := []) hx lk_X7_201 okX7_look dX7_runTold_1 hT.o (by decide) rfl rfl rfl (Nat.le_of_ble_eq_true rfl) (Nat.zero_add _).symm (Nat.zero_add _).symm rfl (c_X7_look hT hE1 (e := tk.2.2) (nk_wf hwt 0).1.2.2.1 hP1.1 ?_)
  intro M2 hP2 hL2
  replace hP2 : TPr M2 r B (nk B z 1 tk) := hP2
  have hE2 := hE1.l hL2
  have hY2 := hY1.l hL2
  have hF2 := hF1.tr (FrW.l hL2)
  refine J_aload_n hx dX7_runTold_4 (i := 0) rfl rfl ?_
  refine J_getI2 (v := (nk B z 1 tk).2.1) hx fl_X7_175 cl_X7 dX7_runTold_5 hT.o (by decide) rfl hP2.2.1 ?_
  refine J_iconst (v := 2) hx dX7_runTold_8 (by decide) ?_
  refine J_icmp_ne (tgt := 45) hx dX7_runTold_9 (by decide) (fun c1 => ?_) (fun c1 => ?_)
  · refine J_aload_n hx dX7_runTold_45 (i := 0) rfl rfl ?_
    refine J_invV (As := []) (st := []) hx lk_X7_197 okX7_wrong dX7_runTold_46 hT.o (by decide) rfl rfl rfl (Nat.le_of_ble_eq_true rfl) (Nat.zero_add _).symm (Nat.zero_add _).symm rfl (c_X7_wrong hT hP2.2.2.1 ?_)
    intro M3 h31 hL3
    have hF3 := hF2.tr (FrW.f hL3)
    refine J_zret hx hr dX7_runTold_49 (by omega) ?_
    have eR : sRun B z A tk = ((((nk B z 1 tk).1 : Nat) : Int), A, tk) := by
      unfold sRun
      rw [if_pos (by
        by_cases q8 : okT B (nk B z 1 tk) 0 (((A.n : Nat) : Int) - 1) = false
        · exact Or.inl q8
        · refine Or.inr ?_
          have q7 : okT B (nk B z 1 tk) 0 (((A.n : Nat) : Int) - 1) = true := by cases q6 : okT B (nk B z 1 tk) 0 (((A.n : Nat) : Int) - 1); exact absurd q6 q8; rfl
          have q6 := (okT_f (B := B) (by decide) (by omega)).mp q7
          unfold overY at *; omega)]
    rw [eR] at hQ0
    exact hQ0 (show ((_ : Nat) : Int) ≠ -1 by omega) M3 h31 hF3
  · refine J_aload_n hx dX7_runTold_12 (i := 0) rfl rfl ?_
    refine J_aload_n hx dX7_runTold_13 (i := 0) rfl rfl ?_
    refine J_getI2 (v := fgT B (nk B z 1 tk)) hx fl_X7_172 cl_X7 dX7_runTold_14 hT.o (by decide) rfl hP2.2.2.2 ?_
    refine J_invV (As := [vI (fgT B (nk B z 1 tk))]) (st := []) hx lk_X7_109 okX7_isOne dX7_runTold_17 hT.o (by decide) rfl rfl rfl (Nat.le_of_ble_eq_true rfl) (Nat.zero_add _).symm (Nat.zero_add _).symm rfl (c_X7_isOne hT hY2 hWA (one := fgT B (nk B z 1 tk)) (by omega) ?_)
    intro vo hvo
    refine J_if_eq (tgt := 45) hx dX7_runTold_20 (by decide) (fun c2 => ?_) (fun c2 => ?_)
    · refine J_aload_n hx dX7_runTold_45 (i := 0) rfl rfl ?_
      refine J_invV (As := []) (st := []) hx lk_X7_197 okX7_wrong dX7_runTold_46 hT.o (by decide) rfl rfl rfl (Nat.le_of_ble_eq_true rfl) (Nat.zero_add _).symm (Nat.zero_add _).symm rfl (c_X7_wrong hT hP2.2.2.1 ?_)
      intro M3 h31 hL3
      have hF3 := hF2.tr (FrW.f hL3)
      refine J_zret hx hr dX7_runTold_49 (by omega) ?_
      have eR : sRun B z A tk = ((((nk B z 1 tk).1 : Nat) : Int), A, tk) := by
        unfold sRun
        rw [if_pos (by
          by_cases q8 : okT B (nk B z 1 tk) 0 (((A.n : Nat) : Int) - 1) = false
          · exact Or.inl q8
          · refine Or.inr ?_
            have q7 : okT B (nk B z 1 tk) 0 (((A.n : Nat) : Int) - 1) = true := by cases q6 : okT B (nk B z 1 tk) 0 (((A.n : Nat) : Int) - 1); exact absurd q6 q8; rfl
            have q6 := (okT_f (B := B) (by decide) (by omega)).mp q7
            unfold overY at *; omega)]
      rw [eR] at hQ0
      exact hQ0 (show ((_ : Nat) : Int) ≠ -1 by omega) M3 h31 hF3
    · have hok1 : okT B (nk B z 1 tk) 0 (((A.n : Nat) : Int) - 1) = true := (okT_f (by decide) (by omega)).mpr (by omega)
      have ev1 : fgT B (nk B z 1 tk) = vk B z 1 tk := okT_v (by decide) hok1
      have rv1 := (okT_t hok1).2
      replace rv1 : 0 ≤ vk B z 1 tk ∧ vk B z 1 tk ≤ ((A.n : Nat) : Int) - 1 := rv1
      have efv1 : fgT B (nk B z 1 tk) = (((vk B z 1 tk).toNat : Nat) : Int) := by omega
      refine J_aload_n hx dX7_runTold_23 (i := 0) rfl rfl ?_
      refine J_invV (As := []) (st := []) hx lk_X7_208 okX7_isOver dX7_runTold_24 hT.o (by decide) rfl rfl rfl (Nat.le_of_ble_eq_true rfl) (Nat.zero_add _).symm (Nat.zero_add _).symm rfl (c_X7_isOver hT hY2 hWA ?_)
      intro vv hvv
      refine J_if_ne (tgt := 45) hx dX7_runTold_27 (by decide) (fun c3 => ?_) (fun c3 => ?_)
      · refine J_aload_n hx dX7_runTold_45 (i := 0) rfl rfl ?_
        refine J_invV (As := []) (st := []) hx lk_X7_197 okX7_wrong dX7_runTold_46 hT.o (by decide) rfl rfl rfl (Nat.le_of_ble_eq_true rfl) (Nat.zero_add _).symm (Nat.zero_add _).symm rfl (c_X7_wrong hT hP2.2.2.1 ?_)
        intro M3 h31 hL3
        have hF3 := hF2.tr (FrW.f hL3)
        refine J_zret hx hr dX7_runTold_49 (by omega) ?_
        have eR : sRun B z A tk = ((((nk B z 1 tk).1 : Nat) : Int), A, tk) := by
          unfold sRun
          rw [if_pos (by
            by_cases q8 : okT B (nk B z 1 tk) 0 (((A.n : Nat) : Int) - 1) = false
            · exact Or.inl q8
            · refine Or.inr ?_
              have q7 : okT B (nk B z 1 tk) 0 (((A.n : Nat) : Int) - 1) = true := by cases q6 : okT B (nk B z 1 tk) 0 (((A.n : Nat) : Int) - 1); exact absurd q6 q8; rfl
              have q6 := (okT_f (B := B) (by decide) (by omega)).mp q7
              unfold overY at *; omega)]
        rw [eR] at hQ0
        exact hQ0 (show ((_ : Nat) : Int) ≠ -1 by omega) M3 h31 hF3
      · refine J_aload_n hx dX7_runTold_30 (i := 0) rfl rfl ?_
        refine J_aload_n hx dX7_runTold_31 (i := 0) rfl rfl ?_
        refine J_getI2 (v := (((vk B z 1 tk).toNat : Nat) : Int)) hx fl_X7_172 cl_X7 dX7_runTold_32 hT.o (by decide) rfl (hP2.2.2.2.trans efv1) ?_
        refine J_invV (As := [vI ((((vk B z 1 tk).toNat : Nat) : Int))]) (st := []) hx lk_X7_119 okX7_chainAt dX7_runTold_35 hT.o (by decide) rfl rfl rfl (Nat.le_of_ble_eq_true rfl) (Nat.zero_add _).symm (Nat.zero_add _).symm rfl (c_X7_chainAt hT hY2 hWA (p := (vk B z 1 tk).toNat) (by omega) ?_)
        refine J_aload_n hx dX7_runTold_38 (i := 0) rfl rfl ?_
        refine J_getI2 (v := ((A.tn : Nat) : Int)) hx fl_X7_148 cl_X7 dX7_runTold_39 hT.o (by decide) rfl (hY2.tn hWA) ?_
        have rg4 := hWA.tn2
        refine J_icmp_ne (tgt := 50) hx dX7_runTold_42 (by decide) (fun c5 => ?_) (fun c5 => ?_)
        · have hov : ¬ overY A := fun q9 => by unfold overY at *; omega
          have hcl : A.co ((vk B z 1 tk).toNat) ≠ A.tn := by omega
          refine J_aload_n hx dX7_runTold_50 (i := 0) rfl rfl ?_
          refine J_iconst (v := 0) hx dX7_runTold_51 (by decide) ?_
          refine J_iconst (v := 0) hx dX7_runTold_52 (by decide) ?_
          refine J_aload_n hx dX7_runTold_53 (i := 0) rfl rfl ?_
          refine J_getI2 (v := ((A.n : Nat) : Int)) hx fl_X7_82 cl_X7 dX7_runTold_54 hT.o (by decide) rfl hY2.pp ?_
          have rg6 := hWA.n8
          refine J_iconst (v := 1) hx dX7_runTold_57 (by decide) ?_
          refine J_isub (v := ((A.n : Nat) : Int) - 1) hx dX7_runTold_58 (w32_id (by omega) (by omega)) ?_
          refine J_invV (As := [vI (0), vI (0), vI (((A.n : Nat) : Int) - 1)]) (st := []) hx lk_X7_204 okX7_number dX7_runTold_59 hT.o (by decide) rfl rfl rfl (Nat.le_of_ble_eq_true rfl) (Nat.zero_add _).symm (Nat.zero_add _).symm rfl (c_X7_number hT hE2 (i := 0) (lo := 0) (hi := ((A.n : Nat) : Int) - 1) (by decide) (by omega) (by omega) (by omega) (by omega) (nk_wf hwt 1).1 hP2 ?_ ?_)
          · intro hk1 M3 hP3 hD3_0 hd3 hm3
            replace hP3 : TPr M3 r B (nk B z 2 tk) := hP3
            replace hD3_0 : M3 (r + 26) 0 = vk B z 1 tk := hD3_0
            have hE3 := hE2.m hm3
            have hY3 := hY2.m hm3
            have hF3 := hF2.tr hm3.w
            have rv1 : 2 = 2 ∧ (0) ≤ vk B z 1 tk ∧ vk B z 1 tk ≤ (((A.n : Nat) : Int) - 1) := ⟨rfl, (okT_t hk1).2⟩
            have en1 : vk B z 1 tk = (((vk B z 1 tk).toNat : Nat) : Int) := by omega
            refine J_if_eq (tgt := 85) hx dX7_runTold_62 (by decide) (fun c9 => absurd c9 (by decide)) (fun _ => ?_)
            refine J_aload_n hx dX7_runTold_65 (i := 0) rfl rfl ?_
            refine J_iconst (v := 1) hx dX7_runTold_66 (by decide) ?_
            refine J_iconst (v := 0) hx dX7_runTold_67 (by decide) ?_
            refine J_aload_n hx dX7_runTold_68 (i := 0) rfl rfl ?_
            refine J_getR (b := r + 25) hx fl_X7_57 cl_X7 dX7_runTold_69 hT.o (by decide) rfl hT.r16 ?_
            refine J_aload_n hx dX7_runTold_72 (i := 0) rfl rfl ?_
            refine J_getI2 (v := ((A.tn : Nat) : Int)) hx fl_X7_148 cl_X7 dX7_runTold_73 hT.o (by decide) rfl (hY3.tn hWA) ?_
            have rg8 := hWA.tn2
            refine J_iald2 (v := (((A.ch A.tn).length : Nat) : Int)) hx A.tn dX7_runTold_76 hT.k25 (by omega) (hT.l25 (by omega)) (hY3.sz (by omega)) ?_
            have rg9 := hWA.len8 (c := A.tn) (by omega)
            have rg10 := hWA.lenN (c := A.tn) (by omega)
            refine J_iconst (v := 2) hx dX7_runTold_77 (by decide) ?_
            refine J_isub (v := (((A.ch A.tn).length : Nat) : Int) - 2) hx dX7_runTold_78 (w32_id (by omega) (by omega)) ?_
            refine J_invV (As := [vI (1), vI (0), vI ((((A.ch A.tn).length : Nat) : Int) - 2)]) (st := []) hx lk_X7_204 okX7_number dX7_runTold_79 hT.o (by decide) rfl rfl rfl (Nat.le_of_ble_eq_true rfl) (Nat.zero_add _).symm (Nat.zero_add _).symm rfl (c_X7_number hT hE3 (i := 1) (lo := 0) (hi := (((A.ch A.tn).length : Nat) : Int) - 2) (by decide) (by omega) (by omega) (by omega) (by omega) (nk_wf hwt 2).1 hP3 ?_ ?_)
            · intro hk2 M4 hP4 hD4_1 hd4 hm4
              replace hP4 : TPr M4 r B (nk B z 3 tk) := hP4
              replace hD4_1 : M4 (r + 26) 1 = vk B z 2 tk := hD4_1
              have hE4 := hE3.m hm4
              have hY4 := hY3.m hm4
              have hF4 := hF3.tr hm4.w
              have hD4_0 : M4 (r + 26) 0 = vk B z 1 tk := by rw [hd4 _ (by decide)]; exact hD3_0
              have rv2 : 2 = 2 ∧ (0) ≤ vk B z 2 tk ∧ vk B z 2 tk ≤ ((((A.ch A.tn).length : Nat) : Int) - 2) := ⟨rfl, (okT_t hk2).2⟩
              have en2 : vk B z 2 tk = (((vk B z 2 tk).toNat : Nat) : Int) := by omega
              refine J_if_ne (tgt := 87) hx dX7_runTold_82 (by decide) (fun _ => ?_) (fun c9 => absurd c9 (by decide))
              refine J_aload_n hx dX7_runTold_87 (i := 0) rfl rfl ?_
              refine J_aload_n hx dX7_runTold_88 (i := 0) rfl rfl ?_
              refine J_getR (b := r + 26) hx fl_X7_73 cl_X7 dX7_runTold_89 hT.o (by decide) rfl hT.r32 ?_
              refine J_iconst (v := 0) hx dX7_runTold_92 (by decide) ?_
              refine J_iald2 (v := (((vk B z 1 tk).toNat : Nat) : Int)) hx 0 dX7_runTold_93 hT.k26 (by omega) (hT.l26 (by omega)) (hD4_0.trans en1) ?_
              refine J_aload_n hx dX7_runTold_94 (i := 0) rfl rfl ?_
              refine J_getR (b := r + 26) hx fl_X7_73 cl_X7 dX7_runTold_95 hT.o (by decide) rfl hT.r32 ?_
              refine J_iconst (v := 1) hx dX7_runTold_98 (by decide) ?_
              refine J_iald2 (v := (((vk B z 2 tk).toNat : Nat) : Int)) hx 1 dX7_runTold_99 hT.k26 (by omega) (hT.l26 (by omega)) (hD4_1.trans en2) ?_
              refine J_invV (As := [vI ((((vk B z 1 tk).toNat : Nat) : Int)), vI ((((vk B z 2 tk).toNat : Nat) : Int))]) (st := []) hx lk_X7_211 okX7_oddsOf dX7_runTold_100 hT.o (by decide) rfl rfl rfl (Nat.le_of_ble_eq_true rfl) (Nat.zero_add _).symm (Nat.zero_add _).symm rfl (c_X7_oddsOf hT hY4 hWA (p := (vk B z 1 tk).toNat) (j := (vk B z 2 tk).toNat) (by omega) (by omega) ?_)
              have rgo : 0 ≤ oddsY A ((vk B z 1 tk).toNat) ((vk B z 2 tk).toNat) ∧ oddsY A ((vk B z 1 tk).toNat) ((vk B z 2 tk).toNat) ≤ 1000000 := oddsB_rg hWA _ _
              refine J_istore_n (lsn := [vR (r), vI (oddsY A ((vk B z 1 tk).toNat) ((vk B z 2 tk).toNat))]) hx dX7_runTold_103 (i := 1) rfl (Nat.le_of_ble_eq_true rfl) rfl rfl ?_
              refine J_aload_n hx dX7_runTold_104 (i := 0) rfl rfl ?_
              refine J_getI2 (v := (nk B z 3 tk).2.1) hx fl_X7_175 cl_X7 dX7_runTold_105 hT.o (by decide) rfl hP4.2.1 ?_
              refine J_iconst (v := 2) hx dX7_runTold_108 (by decide) ?_
              refine J_icmp_ne (tgt := 155) hx dX7_runTold_109 (by decide) (fun c12 => ?_) (fun c12 => ?_)
              · refine J_iload_n hx dX7_runTold_155 (i := 1) rfl rfl ?_
                refine J_ldc (v := 1000000) hx ct_X7_218 dX7_runTold_156 (by decide) ?_
                refine J_icmp_ne (tgt := 166) hx dX7_runTold_158 (by decide) (fun c13 => ?_) (fun c13 => ?_)
                · refine J_aload_n hx dX7_runTold_166 (i := 0) rfl rfl ?_
                  refine J_aload_n hx dX7_runTold_167 (i := 0) rfl rfl ?_
                  refine J_getR (b := r + 26) hx fl_X7_73 cl_X7 dX7_runTold_168 hT.o (by decide) rfl hT.r32 ?_
                  refine J_iconst (v := 0) hx dX7_runTold_171 (by decide) ?_
                  refine J_iald2 (v := (((vk B z 1 tk).toNat : Nat) : Int)) hx 0 dX7_runTold_172 hT.k26 (by omega) (hT.l26 (by omega)) (hD4_0.trans en1) ?_
                  refine J_aload_n hx dX7_runTold_173 (i := 0) rfl rfl ?_
                  refine J_getR (b := r + 26) hx fl_X7_73 cl_X7 dX7_runTold_174 hT.o (by decide) rfl hT.r32 ?_
                  refine J_iconst (v := 1) hx dX7_runTold_177 (by decide) ?_
                  refine J_iald2 (v := (((vk B z 2 tk).toNat : Nat) : Int)) hx 1 dX7_runTold_178 hT.k26 (by omega) (hT.l26 (by omega)) (hD4_1.trans en2) ?_
                  refine J_invVv (As := [vI ((((vk B z 1 tk).toNat : Nat) : Int)), vI ((((vk B z 2 tk).toNat : Nat) : Int))]) (st := []) hx lk_X7_219 okX7_runsHeld dX7_runTold_179 hT.o (by decide) rfl rfl rfl (Nat.le_of_ble_eq_true rfl) (Nat.zero_add _).symm (Nat.zero_add _).symm rfl (c_X7_runsHeld hT hY4 hWA (p := (vk B z 1 tk).toNat) (j := (vk B z 2 tk).toNat) (by omega) hcl (by omega) hov ?_)
                  intro M5 hYx hYf
                  have hP5 := hP4.n hYf
                  have hE5 := hE4.n hYf
                  have hF5 := hF4.tr (FrW.n hYf)
                  have hY5 := hYx
                  refine J_iconst (v := 1) hx dX7_runTold_182 (by decide) ?_
                  refine J_zret hx hr dX7_runTold_183 (by omega) ?_
                  have eR : sRun B z A tk = (-1, runH A ((vk B z 1 tk).toNat) ((vk B z 2 tk).toNat), nk B z 3 tk) := by
                    unfold sRun
                    rw [if_neg (fun q9 => q9.elim (fun q8 => by rw [hok1] at q8; cases q8) (fun q8 => q8.elim (fun q7 => hov q7) (fun q7 => hcl q7))), if_neg (by rw [hk2]; decide), if_neg (by omega), if_pos (by omega)]
                  rw [eR] at hQ1
                  exact hQ1 rfl M5 hY5 hP5 hF5
                · refine J_aload_n hx dX7_runTold_161 (i := 0) rfl rfl ?_
                  refine J_invV (As := []) (st := []) hx lk_X7_197 okX7_wrong dX7_runTold_162 hT.o (by decide) rfl rfl rfl (Nat.le_of_ble_eq_true rfl) (Nat.zero_add _).symm (Nat.zero_add _).symm rfl (c_X7_wrong hT hP4.2.2.1 ?_)
                  intro M5 h31 hL5
                  have hF5 := hF4.tr (FrW.f hL5)
                  refine J_zret hx hr dX7_runTold_165 (by omega) ?_
                  have eR : sRun B z A tk = ((((nk B z 3 tk).1 : Nat) : Int), A, tk) := by
                    unfold sRun
                    rw [if_neg (fun q9 => q9.elim (fun q8 => by rw [hok1] at q8; cases q8) (fun q8 => q8.elim (fun q7 => hov q7) (fun q7 => hcl q7))), if_neg (by rw [hk2]; decide), if_neg (by omega), if_neg (by omega)]
                  rw [eR] at hQ0
                  exact hQ0 (show ((_ : Nat) : Int) ≠ -1 by omega) M5 h31 hF5
              · refine J_aload_n hx dX7_runTold_112 (i := 0) rfl rfl ?_
                refine J_getI2 (v := fgT B (nk B z 3 tk)) hx fl_X7_172 cl_X7 dX7_runTold_113 hT.o (by decide) rfl hP4.2.2.2 ?_
                refine J_iconst (v := 1) hx dX7_runTold_116 (by decide) ?_
                refine J_icmp_gt (tgt := 124) hx dX7_runTold_117 (by decide) (fun c14 => ?_) (fun c14 => ?_)
                · refine J_aload_n hx dX7_runTold_124 (i := 0) rfl rfl ?_
                  refine J_invV (As := []) (st := []) hx lk_X7_197 okX7_wrong dX7_runTold_125 hT.o (by decide) rfl rfl rfl (Nat.le_of_ble_eq_true rfl) (Nat.zero_add _).symm (Nat.zero_add _).symm rfl (c_X7_wrong hT hP4.2.2.1 ?_)
                  intro M5 h31 hL5
                  have hF5 := hF4.tr (FrW.f hL5)
                  refine J_zret hx hr dX7_runTold_128 (by omega) ?_
                  have eR : sRun B z A tk = ((((nk B z 3 tk).1 : Nat) : Int), A, tk) := by
                    unfold sRun
                    rw [if_neg (fun q9 => q9.elim (fun q8 => by rw [hok1] at q8; cases q8) (fun q8 => q8.elim (fun q7 => hov q7) (fun q7 => hcl q7))), if_neg (by rw [hk2]; decide), if_pos (by omega), if_pos (by
                      by_cases q8 : okT B (nk B z 3 tk) 0 1 = false
                      · exact Or.inl q8
                      · have q7 : okT B (nk B z 3 tk) 0 1 = true := by cases q6 : okT B (nk B z 3 tk) 0 1; exact absurd q6 q8; rfl
                        have q6 := (okT_f (B := B) (by decide) (by decide)).mp q7
                        omega)]
                  rw [eR] at hQ0
                  exact hQ0 (show ((_ : Nat) : Int) ≠ -1 by omega) M5 h31 hF5
                · refine J_iload_n hx dX7_runTold_120 (i := 1) rfl rfl ?_
                  refine J_if_ne (tgt := 129) hx dX7_runTold_121 (by decide) (fun c15 => ?_) (fun c15 => ?_)
                  · have hok3 : okT B (nk B z 3 tk) 0 1 = true := (okT_f (by decide) (by decide)).mpr (by omega)
                    have ev3 : fgT B (nk B z 3 tk) = vk B z 3 tk := okT_v (by decide) hok3
                    have rv3 := (okT_t hok3).2
                    replace rv3 : 0 ≤ vk B z 3 tk ∧ vk B z 3 tk ≤ 1 := rv3
                    have efv3 : fgT B (nk B z 3 tk) = (((vk B z 3 tk).toNat : Nat) : Int) := by omega
                    refine J_aload_n hx dX7_runTold_129 (i := 0) rfl rfl ?_
                    refine J_aload_n hx dX7_runTold_130 (i := 0) rfl rfl ?_
                    refine J_getR (b := r + 26) hx fl_X7_73 cl_X7 dX7_runTold_131 hT.o (by decide) rfl hT.r32 ?_
                    refine J_iconst (v := 0) hx dX7_runTold_134 (by decide) ?_
                    refine J_iald2 (v := (((vk B z 1 tk).toNat : Nat) : Int)) hx 0 dX7_runTold_135 hT.k26 (by omega) (hT.l26 (by omega)) (hD4_0.trans en1) ?_
                    refine J_aload_n hx dX7_runTold_136 (i := 0) rfl rfl ?_
                    refine J_getR (b := r + 26) hx fl_X7_73 cl_X7 dX7_runTold_137 hT.o (by decide) rfl hT.r32 ?_
                    refine J_iconst (v := 1) hx dX7_runTold_140 (by decide) ?_
                    refine J_iald2 (v := (((vk B z 2 tk).toNat : Nat) : Int)) hx 1 dX7_runTold_141 hT.k26 (by omega) (hT.l26 (by omega)) (hD4_1.trans en2) ?_
                    refine J_aload_n hx dX7_runTold_142 (i := 0) rfl rfl ?_
                    refine J_getI2 (v := (((vk B z 3 tk).toNat : Nat) : Int)) hx fl_X7_172 cl_X7 dX7_runTold_143 hT.o (by decide) rfl (hP4.2.2.2.trans efv3) ?_
                    refine J_invVv (As := [vI ((((vk B z 1 tk).toNat : Nat) : Int)), vI ((((vk B z 2 tk).toNat : Nat) : Int)), vI ((((vk B z 3 tk).toNat : Nat) : Int))]) (st := []) hx lk_X7_214 okX7_runsTorn dX7_runTold_146 hT.o (by decide) rfl rfl rfl (Nat.le_of_ble_eq_true rfl) (Nat.zero_add _).symm (Nat.zero_add _).symm rfl (c_X7_runsTorn hT hY4 hWA (p := (vk B z 1 tk).toNat) (j := (vk B z 2 tk).toNat) (sd := (vk B z 3 tk).toNat) (by omega) hcl (by omega) hov (by omega) ?_)
                    intro M5 hYx hYf
                    have hP5 := hP4.n hYf
                    have hE5 := hE4.n hYf
                    have hF5 := hF4.tr (FrW.n hYf)
                    have hY5 := hYx
                    refine J_aload_n hx dX7_runTold_149 (i := 0) rfl rfl ?_
                    refine J_invVv (As := []) (st := []) hx lk_X7_201 okX7_look dX7_runTold_150 hT.o (by decide) rfl rfl rfl (Nat.le_of_ble_eq_true rfl) (Nat.zero_add _).symm (Nat.zero_add _).symm rfl (c_X7_look hT hE5 (e := (nk B z 3 tk).2.2) (nk_wf hwt 3).1.2.2.1 hP5.1 ?_)
                    intro M6 hP6 hL6
                    replace hP6 : TPr M6 r B (nk B z 4 tk) := hP6
                    have hE6 := hE5.l hL6
                    have hY6 := hY5.l hL6
                    have hF6 := hF5.tr (FrW.l hL6)
                    refine J_iconst (v := 1) hx dX7_runTold_153 (by decide) ?_
                    refine J_zret hx hr dX7_runTold_154 (by omega) ?_
                    have eR : sRun B z A tk = (-1, runT A ((vk B z 1 tk).toNat) ((vk B z 2 tk).toNat) (takenY A ((vk B z 2 tk).toNat) (vk B z 3 tk).toNat), nk B z 4 tk) := by
                      unfold sRun
                      rw [if_neg (fun q9 => q9.elim (fun q8 => by rw [hok1] at q8; cases q8) (fun q8 => q8.elim (fun q7 => hov q7) (fun q7 => hcl q7))), if_neg (by rw [hk2]; decide), if_pos (by omega), if_neg (fun q9 => q9.elim (fun q8 => by rw [hok3] at q8; cases q8) (fun q8 => by omega))]
                    rw [eR] at hQ1
                    exact hQ1 rfl M6 hY6 hP6 hF6
                  · refine J_aload_n hx dX7_runTold_124 (i := 0) rfl rfl ?_
                    refine J_invV (As := []) (st := []) hx lk_X7_197 okX7_wrong dX7_runTold_125 hT.o (by decide) rfl rfl rfl (Nat.le_of_ble_eq_true rfl) (Nat.zero_add _).symm (Nat.zero_add _).symm rfl (c_X7_wrong hT hP4.2.2.1 ?_)
                    intro M5 h31 hL5
                    have hF5 := hF4.tr (FrW.f hL5)
                    refine J_zret hx hr dX7_runTold_128 (by omega) ?_
                    have eR : sRun B z A tk = ((((nk B z 3 tk).1 : Nat) : Int), A, tk) := by
                      unfold sRun
                      rw [if_neg (fun q9 => q9.elim (fun q8 => by rw [hok1] at q8; cases q8) (fun q8 => q8.elim (fun q7 => hov q7) (fun q7 => hcl q7))), if_neg (by rw [hk2]; decide), if_pos (by omega), if_pos (by
                        by_cases q8 : okT B (nk B z 3 tk) 0 1 = false
                        · exact Or.inl q8
                        · have q7 : okT B (nk B z 3 tk) 0 1 = true := by cases q6 : okT B (nk B z 3 tk) 0 1; exact absurd q6 q8; rfl
                          have q6 := (okT_f (B := B) (by decide) (by decide)).mp q7
                          omega)]
                    rw [eR] at hQ0
                    exact hQ0 (show ((_ : Nat) : Int) ≠ -1 by omega) M5 h31 hF5
            · intro hk2 M4 h31 hm4
              have hF4 := hF3.tr hm4.w
              refine J_if_ne (tgt := 87) hx dX7_runTold_82 (by decide) (fun c9 => absurd c9 (by decide)) (fun _ => ?_)
              refine J_iconst (v := 0) hx dX7_runTold_85 (by decide) ?_
              refine J_zret hx hr dX7_runTold_86 (by omega) ?_
              have eR : sRun B z A tk = ((((nk B z 2 tk).1 : Nat) : Int), A, tk) := by
                unfold sRun
                rw [if_neg (fun q9 => q9.elim (fun q8 => by rw [hok1] at q8; cases q8) (fun q8 => q8.elim (fun q7 => hov q7) (fun q7 => hcl q7))), if_pos hk2]
              rw [eR] at hQ0
              exact hQ0 (show ((_ : Nat) : Int) ≠ -1 by omega) M4 h31 hF4
          · intro hk1 M3 h31 hm3
            exfalso; rw [hok1] at hk1; cases hk1
        · refine J_aload_n hx dX7_runTold_45 (i := 0) rfl rfl ?_
          refine J_invV (As := []) (st := []) hx lk_X7_197 okX7_wrong dX7_runTold_46 hT.o (by decide) rfl rfl rfl (Nat.le_of_ble_eq_true rfl) (Nat.zero_add _).symm (Nat.zero_add _).symm rfl (c_X7_wrong hT hP2.2.2.1 ?_)
          intro M3 h31 hL3
          have hF3 := hF2.tr (FrW.f hL3)
          refine J_zret hx hr dX7_runTold_49 (by omega) ?_
          have eR : sRun B z A tk = ((((nk B z 1 tk).1 : Nat) : Int), A, tk) := by
            unfold sRun
            rw [if_pos (by
              by_cases q8 : okT B (nk B z 1 tk) 0 (((A.n : Nat) : Int) - 1) = false
              · exact Or.inl q8
              · refine Or.inr ?_
                have q7 : okT B (nk B z 1 tk) 0 (((A.n : Nat) : Int) - 1) = true := by cases q6 : okT B (nk B z 1 tk) 0 (((A.n : Nat) : Int) - 1); exact absurd q6 q8; rfl
                have q6 := (okT_f (B := B) (by decide) (by omega)).mp q7
                unfold overY at *; omega)]
          rw [eR] at hQ0
          exact hQ0 (show ((_ : Nat) : Int) ≠ -1 by omega) M3 h31 hF3

set_option maxHeartbeats 4000000 in
theorem c_X7_statement {g : WG} {d : Nat} {T : TT} {M : MM} {r sz z : Nat} {B : Nat → Int} {A : YA} {tk : TK} {Q : MVal → TT → MM → Nat → Prop} (hT : MT T r) (hE1 : RPE M r z B) (hwt : wfT B z tk) (hP1 : TPr M r B tk) (hY1 : MN M r A) (hWA : WFY A) (hQ1 : (stR B z A tk).1 = -1 → ∀ M', MN M' r (stR B z A tk).2.1 → TPr M' r B (stR B z A tk).2.2 → FrW r M M' → Q (vI 1) T M' sz) (hQ0 : (stR B z A tk).1 ≠ -1 → ∀ M', M' r 31 = (stR B z A tk).1 → FrW r M M' → Q (vI 0) T M' sz) : Ct g (d + 6) mX7_statement [vR (r)] T M sz 0 0 Q := by
  refine Ct_of2 (ls := [vR (r)]) okX7_statement rfl (Nat.le_of_ble_eq_true rfl) rfl ?_
  intro x hx hr hnm
  have hF1 : FrW r M M := FrW.rf
  have hz2 := hE1.z2
  have hn8 := hWA.n8
  have ht2 := hWA.tn2
  have hl8 := hWA.len8 ht2
  refine J_aload_n hx dX7_statement_0 (i := 0) rfl rfl ?_
  refine J_ldcS (i := 222) (w := 0) (tx := "one") hx dX7_statement_1 (by decide) ?_
  refine J_invV (As := [vR (g.2.2.2.2.1 0)]) (st := []) hx lk_X7_224 okX7_isWord dX7_statement_3 hT.o (by decide) rfl rfl rfl (Nat.le_of_ble_eq_true rfl) (Nat.zero_add _).symm (Nat.zero_add _).symm rfl (c_X7_isWord hT hE1 (w := 0) (by decide) hwt hP1 ?_)
  intro v0 hv0
  refine J_if_eq (tgt := 108) hx dX7_statement_6 (by decide) (fun c1 => ?_) (fun c1 => ?_)
  · refine J_aload_n hx dX7_statement_108 (i := 0) rfl rfl ?_
    refine J_ldcS (i := 231) (w := 1) (tx := "tired") hx dX7_statement_109 (by decide) ?_
    refine J_invV (As := [vR (g.2.2.2.2.1 1)]) (st := []) hx lk_X7_224 okX7_isWord dX7_statement_111 hT.o (by decide) rfl rfl rfl (Nat.le_of_ble_eq_true rfl) (Nat.zero_add _).symm (Nat.zero_add _).symm rfl (c_X7_isWord hT hE1 (w := 1) (by decide) hwt hP1 ?_)
    intro v1 hv1
    refine J_if_eq (tgt := 163) hx dX7_statement_114 (by decide) (fun c2 => ?_) (fun c2 => ?_)
    · have hn1 : ¬ wdP B tk 1 := by
        rcases hv1 with h9 | h9
        · exfalso; omega
        · exact h9.2
      refine J_aload_n hx dX7_statement_163 (i := 0) rfl rfl ?_
      refine J_ldcS (i := 232) (w := 3) (tx := "yards") hx dX7_statement_164 (by decide) ?_
      refine J_invV (As := [vR (g.2.2.2.2.1 3)]) (st := []) hx lk_X7_224 okX7_isWord dX7_statement_166 hT.o (by decide) rfl rfl rfl (Nat.le_of_ble_eq_true rfl) (Nat.zero_add _).symm (Nat.zero_add _).symm rfl (c_X7_isWord hT hE1 (w := 3) (by decide) hwt hP1 ?_)
      intro v3 hv3
      refine J_if_eq (tgt := 178) hx dX7_statement_169 (by decide) (fun c3 => ?_) (fun c3 => ?_)
      · have hn3 : ¬ wdP B tk 3 := by
          rcases hv3 with h9 | h9
          · exfalso; omega
          · exact h9.2
        refine J_aload_n hx dX7_statement_178 (i := 0) rfl rfl ?_
        refine J_ldcS (i := 236) (w := 4) (tx := "spread") hx dX7_statement_179 (by decide) ?_
        refine J_invV (As := [vR (g.2.2.2.2.1 4)]) (st := []) hx lk_X7_224 okX7_isWord dX7_statement_181 hT.o (by decide) rfl rfl rfl (Nat.le_of_ble_eq_true rfl) (Nat.zero_add _).symm (Nat.zero_add _).symm rfl (c_X7_isWord hT hE1 (w := 4) (by decide) hwt hP1 ?_)
        intro v4 hv4
        refine J_if_eq (tgt := 193) hx dX7_statement_184 (by decide) (fun c4 => ?_) (fun c4 => ?_)
        · have hn4 : ¬ wdP B tk 4 := by
            rcases hv4 with h9 | h9
            · exfalso; omega
            · exact h9.2
          refine J_aload_n hx dX7_statement_193 (i := 0) rfl rfl ?_
          refine J_ldcS (i := 237) (w := 5) (tx := "wrists") hx dX7_statement_194 (by decide) ?_
          refine J_invV (As := [vR (g.2.2.2.2.1 5)]) (st := []) hx lk_X7_224 okX7_isWord dX7_statement_196 hT.o (by decide) rfl rfl rfl (Nat.le_of_ble_eq_true rfl) (Nat.zero_add _).symm (Nat.zero_add _).symm rfl (c_X7_isWord hT hE1 (w := 5) (by decide) hwt hP1 ?_)
          intro v5 hv5
          refine J_if_eq (tgt := 208) hx dX7_statement_199 (by decide) (fun c5 => ?_) (fun c5 => ?_)
          · have hn5 : ¬ wdP B tk 5 := by
              rcases hv5 with h9 | h9
              · exfalso; omega
              · exact h9.2
            refine J_aload_n hx dX7_statement_208 (i := 0) rfl rfl ?_
            refine J_ldcS (i := 238) (w := 6) (tx := "bell") hx dX7_statement_209 (by decide) ?_
            refine J_invV (As := [vR (g.2.2.2.2.1 6)]) (st := []) hx lk_X7_224 okX7_isWord dX7_statement_211 hT.o (by decide) rfl rfl rfl (Nat.le_of_ble_eq_true rfl) (Nat.zero_add _).symm (Nat.zero_add _).symm rfl (c_X7_isWord hT hE1 (w := 6) (by decide) hwt hP1 ?_)
            intro v6 hv6
            refine J_if_eq (tgt := 223) hx dX7_statement_214 (by decide) (fun c6 => ?_) (fun c6 => ?_)
            · have hn6 : ¬ wdP B tk 6 := by
                rcases hv6 with h9 | h9
                · exfalso; omega
                · exact h9.2
              refine J_aload_n hx dX7_statement_223 (i := 0) rfl rfl ?_
              refine J_ldcS (i := 239) (w := 2) (tx := "run") hx dX7_statement_224 (by decide) ?_
              refine J_invV (As := [vR (g.2.2.2.2.1 2)]) (st := []) hx lk_X7_224 okX7_isWord dX7_statement_226 hT.o (by decide) rfl rfl rfl (Nat.le_of_ble_eq_true rfl) (Nat.zero_add _).symm (Nat.zero_add _).symm rfl (c_X7_isWord hT hE1 (w := 2) (by decide) hwt hP1 ?_)
              intro v2 hv2
              refine J_if_eq (tgt := 239) hx dX7_statement_229 (by decide) (fun c7 => ?_) (fun c7 => ?_)
              · have hn2 : ¬ wdP B tk 2 := by
                  rcases hv2 with h9 | h9
                  · exfalso; omega
                  · exact h9.2
                refine J_aload_n hx dX7_statement_239 (i := 0) rfl rfl ?_
                refine J_invV (As := []) (st := []) hx lk_X7_197 okX7_wrong dX7_statement_240 hT.o (by decide) rfl rfl rfl (Nat.le_of_ble_eq_true rfl) (Nat.zero_add _).symm (Nat.zero_add _).symm rfl (c_X7_wrong hT hP1.2.2.1 ?_)
                intro M2 h31 hL2
                have hF2 := hF1.tr (FrW.f hL2)
                refine J_zret hx hr dX7_statement_243 (by omega) ?_
                have eR : stR B z A tk = (((tk.1 : Nat) : Int), A, tk) := by
                  by_cases q0 : wdP B tk 0
                  · have e0 : v0 = 1 := by
                      rcases hv0 with h9 | h9
                      · exact h9.1
                      · exact absurd q0 h9.2
                    rw [stR_w q0 (by decide), if_pos rfl]
                    unfold sOne
                    rw [if_pos (by omega)]
                  · exact stR_n (fun w9 h9 => by
                      rcases (show w9 = 0 ∨ w9 = 1 ∨ w9 = 2 ∨ w9 = 3 ∨ w9 = 4 ∨ w9 = 5 ∨ w9 = 6 by omega) with rfl | rfl | rfl | rfl | rfl | rfl | rfl
                      · exact q0
                      · exact hn1
                      · exact hn2
                      · exact hn3
                      · exact hn4
                      · exact hn5
                      · exact hn6)
                rw [eR] at hQ0
                exact hQ0 (show ((_ : Nat) : Int) ≠ -1 by omega) M2 h31 hF2
              · have hwd : wdP B tk 2 := by
                  rcases hv2 with h9 | h9
                  · exact h9.2
                  · exfalso; omega
                have eW : stR B z A tk = sRun B z A tk := by rw [stR_w hwd (by decide)]; rfl
                refine J_aload_n hx dX7_statement_232 (i := 0) rfl rfl ?_
                rw [eW] at hQ1 hQ0
                refine J_invV (As := []) (st := []) hx lk_X7_241 okX7_runTold dX7_statement_233 hT.o (by decide) rfl rfl rfl (Nat.le_of_ble_eq_true rfl) (Nat.zero_add _).symm (Nat.zero_add _).symm rfl (c_X7_runTold hT hE1 hwt hP1 hY1 hWA (fun e9 M2 h8 h9 hF => ?_) (fun e9 M2 h9 hF => ?_))
                · exact J_goto (tgt := 243) hx dX7_statement_236 (by decide) (J_zret hx hr dX7_statement_243 (by omega) (hQ1 e9 M2 h8 h9 hF))
                · exact J_goto (tgt := 243) hx dX7_statement_236 (by decide) (J_zret hx hr dX7_statement_243 (by omega) (hQ0 e9 M2 h9 hF))
            · have hwd : wdP B tk 6 := by
                rcases hv6 with h9 | h9
                · exact h9.2
                · exfalso; omega
              have eW : stR B z A tk = sAsk B z A tk 4 1 99 := by rw [stR_w hwd (by decide)]; rfl
              refine J_aload_n hx dX7_statement_217 (i := 0) rfl rfl ?_
              refine J_iconst (v := 3) hx dX7_statement_218 (by decide) ?_
              rw [eW] at hQ1 hQ0
              refine J_invV (As := [vI 3]) (st := []) hx lk_X7_233 okX7_asks dX7_statement_219 hT.o (by decide) rfl rfl rfl (Nat.le_of_ble_eq_true rfl) (Nat.zero_add _).symm (Nat.zero_add _).symm rfl (c_X7_asks hT hE1 hwt hP1 hY1 hWA (what := 3) (lo := 1) (hi := 99) (by decide) (by decide) (by decide) (fun v9 => by unfold mayQ; omega) (fun e9 M2 h8 h9 hF => ?_) (fun e9 M2 h9 hF => ?_))
              · exact J_zret hx hr dX7_statement_222 (by omega) (hQ1 e9 M2 h8 h9 hF)
              · exact J_zret hx hr dX7_statement_222 (by omega) (hQ0 e9 M2 h9 hF)
          · have hwd : wdP B tk 5 := by
              rcases hv5 with h9 | h9
              · exact h9.2
              · exfalso; omega
            have eW : stR B z A tk = sAsk B z A tk 3 0 1 := by rw [stR_w hwd (by decide)]; rfl
            refine J_aload_n hx dX7_statement_202 (i := 0) rfl rfl ?_
            refine J_iconst (v := 2) hx dX7_statement_203 (by decide) ?_
            rw [eW] at hQ1 hQ0
            refine J_invV (As := [vI 2]) (st := []) hx lk_X7_233 okX7_asks dX7_statement_204 hT.o (by decide) rfl rfl rfl (Nat.le_of_ble_eq_true rfl) (Nat.zero_add _).symm (Nat.zero_add _).symm rfl (c_X7_asks hT hE1 hwt hP1 hY1 hWA (what := 2) (lo := 0) (hi := 1) (by decide) (by decide) (by decide) (fun v9 => by unfold mayQ; omega) (fun e9 M2 h8 h9 hF => ?_) (fun e9 M2 h9 hF => ?_))
            · exact J_zret hx hr dX7_statement_207 (by omega) (hQ1 e9 M2 h8 h9 hF)
            · exact J_zret hx hr dX7_statement_207 (by omega) (hQ0 e9 M2 h9 hF)
        · have hwd : wdP B tk 4 := by
            rcases hv4 with h9 | h9
            · exact h9.2
            · exfalso; omega
          have eW : stR B z A tk = sAsk B z A tk 2 1 10 := by rw [stR_w hwd (by decide)]; rfl
          refine J_aload_n hx dX7_statement_187 (i := 0) rfl rfl ?_
          refine J_iconst (v := 1) hx dX7_statement_188 (by decide) ?_
          rw [eW] at hQ1 hQ0
          refine J_invV (As := [vI 1]) (st := []) hx lk_X7_233 okX7_asks dX7_statement_189 hT.o (by decide) rfl rfl rfl (Nat.le_of_ble_eq_true rfl) (Nat.zero_add _).symm (Nat.zero_add _).symm rfl (c_X7_asks hT hE1 hwt hP1 hY1 hWA (what := 1) (lo := 1) (hi := 10) (by decide) (by decide) (by decide) (fun v9 => by unfold mayQ; omega) (fun e9 M2 h8 h9 hF => ?_) (fun e9 M2 h9 hF => ?_))
          · exact J_zret hx hr dX7_statement_192 (by omega) (hQ1 e9 M2 h8 h9 hF)
          · exact J_zret hx hr dX7_statement_192 (by omega) (hQ0 e9 M2 h9 hF)
      · have hwd : wdP B tk 3 := by
          rcases hv3 with h9 | h9
          · exact h9.2
          · exfalso; omega
        have eW : stR B z A tk = sAsk B z A tk 1 0 30 := by rw [stR_w hwd (by decide)]; rfl
        refine J_aload_n hx dX7_statement_172 (i := 0) rfl rfl ?_
        refine J_iconst (v := 0) hx dX7_statement_173 (by decide) ?_
        rw [eW] at hQ1 hQ0
        refine J_invV (As := [vI 0]) (st := []) hx lk_X7_233 okX7_asks dX7_statement_174 hT.o (by decide) rfl rfl rfl (Nat.le_of_ble_eq_true rfl) (Nat.zero_add _).symm (Nat.zero_add _).symm rfl (c_X7_asks hT hE1 hwt hP1 hY1 hWA (what := 0) (lo := 0) (hi := 30) (by decide) (by decide) (by decide) (fun v9 => by unfold mayQ; omega) (fun e9 M2 h8 h9 hF => ?_) (fun e9 M2 h9 hF => ?_))
        · exact J_zret hx hr dX7_statement_177 (by omega) (hQ1 e9 M2 h8 h9 hF)
        · exact J_zret hx hr dX7_statement_177 (by omega) (hQ0 e9 M2 h9 hF)
    · have hwd : wdP B tk 1 := by
        rcases hv1 with h9 | h9
        · exact h9.2
        · exfalso; omega
      have eW : stR B z A tk = sTir B z A tk := by rw [stR_w hwd (by decide)]; rfl
      refine J_aload_n hx dX7_statement_117 (i := 0) rfl rfl ?_
      refine J_iconst (v := 0) hx dX7_statement_118 (by decide) ?_
      refine J_aload_n hx dX7_statement_119 (i := 0) rfl rfl ?_
      refine J_getI2 (v := ((A.n : Nat) : Int)) hx fl_X7_82 cl_X7 dX7_statement_120 hT.o (by decide) rfl hY1.pp ?_
      have rg8 := hWA.n8
      refine J_iconst (v := 1) hx dX7_statement_123 (by decide) ?_
      refine J_isub (v := ((A.n : Nat) : Int) - 1) hx dX7_statement_124 (w32_id (by omega) (by omega)) ?_
      refine J_invV (As := [vI (0), vI (((A.n : Nat) : Int) - 1)]) (st := []) hx lk_X7_228 okX7_tells dX7_statement_125 hT.o (by decide) rfl rfl rfl (Nat.le_of_ble_eq_true rfl) (Nat.zero_add _).symm (Nat.zero_add _).symm rfl (c_X7_tells hT hE1 (lo := 0) (hi := ((A.n : Nat) : Int) - 1) (by omega) (by omega) (by omega) (by omega) hwt hP1 ?_ ?_)
      · intro hk1 M2 hP2 hD2_0 hd2 hm2
        replace hP2 : TPr M2 r B (nk B z 2 tk) := hP2
        replace hD2_0 : M2 (r + 26) 0 = vk B z 1 tk := hD2_0
        have hE2 := hE1.m hm2
        have hY2 := hY1.m hm2
        have hF2 := hF1.tr hm2.w
        have rv1 : 2 = 2 ∧ (0) ≤ vk B z 1 tk ∧ vk B z 1 tk ≤ (((A.n : Nat) : Int) - 1) := ⟨rfl, (okT_t hk1).2⟩
        have en1 : vk B z 1 tk = (((vk B z 1 tk).toNat : Nat) : Int) := by omega
        refine J_if_eq (tgt := 142) hx dX7_statement_128 (by decide) (fun c9 => absurd c9 (by decide)) (fun _ => ?_)
        refine J_aload_n hx dX7_statement_131 (i := 0) rfl rfl ?_
        refine J_iconst (v := 1) hx dX7_statement_132 (by decide) ?_
        refine J_iconst (v := 0) hx dX7_statement_133 (by decide) ?_
        refine J_bipush (v := 20) hx dX7_statement_134 (by decide) ?_
        refine J_invV (As := [vI (1), vI (0), vI (20)]) (st := []) hx lk_X7_204 okX7_number dX7_statement_136 hT.o (by decide) rfl rfl rfl (Nat.le_of_ble_eq_true rfl) (Nat.zero_add _).symm (Nat.zero_add _).symm rfl (c_X7_number hT hE2 (i := 1) (lo := 0) (hi := 20) (by decide) (by omega) (by omega) (by omega) (by omega) (nk_wf hwt 2).1 hP2 ?_ ?_)
        · intro hk2 M3 hP3 hD3_1 hd3 hm3
          replace hP3 : TPr M3 r B (nk B z 3 tk) := hP3
          replace hD3_1 : M3 (r + 26) 1 = vk B z 2 tk := hD3_1
          have hE3 := hE2.m hm3
          have hY3 := hY2.m hm3
          have hF3 := hF2.tr hm3.w
          have hD3_0 : M3 (r + 26) 0 = vk B z 1 tk := by rw [hd3 _ (by decide)]; exact hD2_0
          have rv2 : 2 = 2 ∧ (0) ≤ vk B z 2 tk ∧ vk B z 2 tk ≤ (20) := ⟨rfl, (okT_t hk2).2⟩
          have en2 : vk B z 2 tk = (((vk B z 2 tk).toNat : Nat) : Int) := by omega
          refine J_if_ne (tgt := 144) hx dX7_statement_139 (by decide) (fun _ => ?_) (fun c9 => absurd c9 (by decide))
          refine J_aload_n hx dX7_statement_144 (i := 0) rfl rfl ?_
          refine J_getR (b := r + 20) hx fl_X7_46 cl_X7 dX7_statement_145 hT.o (by decide) rfl hT.r13 ?_
          refine J_aload_n hx dX7_statement_148 (i := 0) rfl rfl ?_
          refine J_getR (b := r + 26) hx fl_X7_73 cl_X7 dX7_statement_149 hT.o (by decide) rfl hT.r32 ?_
          refine J_iconst (v := 0) hx dX7_statement_152 (by decide) ?_
          refine J_iald2 (v := (((vk B z 1 tk).toNat : Nat) : Int)) hx 0 dX7_statement_153 hT.k26 (by omega) (hT.l26 (by omega)) (hD3_0.trans en1) ?_
          refine J_aload_n hx dX7_statement_154 (i := 0) rfl rfl ?_
          refine J_getR (b := r + 26) hx fl_X7_73 cl_X7 dX7_statement_155 hT.o (by decide) rfl hT.r32 ?_
          refine J_iconst (v := 1) hx dX7_statement_158 (by decide) ?_
          refine J_iald2 (v := vk B z 2 tk) hx 1 dX7_statement_159 hT.k26 (by omega) (hT.l26 (by omega)) hD3_1 ?_
          refine J_iast hx ((vk B z 1 tk).toNat) dX7_statement_160 hT.k20 (by omega) (hT.l20 (by omega)) ?_
          have hYx : MN (up2 M3 (r + 17 + 3) ((vk B z 1 tk).toNat) (vk B z 2 tk)) r (A.setA 3 ((vk B z 1 tk).toNat) (vk B z 2 tk)) := hY3.setA (f := 3) _ (by decide)
          have hYf : FrN r M3 (up2 M3 (r + 17 + 3) ((vk B z 1 tk).toNat) (vk B z 2 tk)) := FrN.rf.up (Or.inl (by omega)) _
          generalize up2 M3 (r + 17 + 3) ((vk B z 1 tk).toNat) (vk B z 2 tk) = M4 at hYx hYf ⊢
          have hP4 := hP3.n hYf
          have hF4 := hF3.tr (FrW.n hYf)
          refine J_iconst (v := 1) hx dX7_statement_161 (by decide) ?_
          refine J_zret hx hr dX7_statement_162 (by omega) ?_
          have eR : stR B z A tk = (-1, A.setA 3 (vk B z 1 tk).toNat (vk B z 2 tk), nk B z 3 tk) := by
            rw [eW]; unfold sTir
            rw [if_neg (by rw [hk1]; decide), if_neg (by rw [hk2]; decide)]
          rw [eR] at hQ1
          exact hQ1 rfl M4 hYx hP4 hF4
        · intro hk2 M3 h31 hm3
          have hF3 := hF2.tr hm3.w
          refine J_if_ne (tgt := 144) hx dX7_statement_139 (by decide) (fun c9 => absurd c9 (by decide)) (fun _ => ?_)
          refine J_iconst (v := 0) hx dX7_statement_142 (by decide) ?_
          refine J_zret hx hr dX7_statement_143 (by omega) ?_
          have eR : stR B z A tk = ((((nk B z 2 tk).1 : Nat) : Int), A, tk) := by
            rw [eW]; unfold sTir
            rw [if_neg (by rw [hk1]; decide), if_pos hk2]
          rw [eR] at hQ0
          exact hQ0 (show ((_ : Nat) : Int) ≠ -1 by omega) M3 h31 hF3
      · intro hk1 M2 h31 hm2
        have hF2 := hF1.tr hm2.w
        refine J_if_eq (tgt := 142) hx dX7_statement_128 (by decide) (fun _ => ?_) (fun c9 => absurd c9 (by decide))
        refine J_iconst (v := 0) hx dX7_statement_142 (by decide) ?_
        refine J_zret hx hr dX7_statement_143 (by omega) ?_
        have eR : stR B z A tk = ((((nk B z 1 tk).1 : Nat) : Int), A, tk) := by
          rw [eW]; unfold sTir
          rw [if_pos hk1]
        rw [eR] at hQ0
        exact hQ0 (show ((_ : Nat) : Int) ≠ -1 by omega) M2 h31 hF2
  · have hwd : wdP B tk 0 := by
      rcases hv0 with h9 | h9
      · exact h9.2
      · exfalso; omega
    have eW : stR B z A tk = sOne B z A tk := by rw [stR_w hwd (by decide)]; rfl
    refine J_aload_n hx dX7_statement_9 (i := 0) rfl rfl ?_
    refine J_getI2 (v := ((A.n : Nat) : Int)) hx fl_X7_82 cl_X7 dX7_statement_10 hT.o (by decide) rfl hY1.pp ?_
    have rg13 := hWA.n8
    refine J_bipush (v := 8) hx dX7_statement_13 (by decide) ?_
    refine J_icmp_ge (tgt := 108) hx dX7_statement_15 (by decide) (fun c14 => ?_) (fun c14 => ?_)
    · refine J_aload_n hx dX7_statement_108 (i := 0) rfl rfl ?_
      refine J_ldcS (i := 231) (w := 1) (tx := "tired") hx dX7_statement_109 (by decide) ?_
      refine J_invV (As := [vR (g.2.2.2.2.1 1)]) (st := []) hx lk_X7_224 okX7_isWord dX7_statement_111 hT.o (by decide) rfl rfl rfl (Nat.le_of_ble_eq_true rfl) (Nat.zero_add _).symm (Nat.zero_add _).symm rfl (c_X7_isWord hT hE1 (w := 1) (by decide) hwt hP1 ?_)
      intro v1 hv1
      refine J_if_eq (tgt := 163) hx dX7_statement_114 (by decide) (fun c15 => ?_) (fun c15 => ?_)
      · have hn1 : ¬ wdP B tk 1 := by
          rcases hv1 with h9 | h9
          · exfalso; omega
          · exact h9.2
        refine J_aload_n hx dX7_statement_163 (i := 0) rfl rfl ?_
        refine J_ldcS (i := 232) (w := 3) (tx := "yards") hx dX7_statement_164 (by decide) ?_
        refine J_invV (As := [vR (g.2.2.2.2.1 3)]) (st := []) hx lk_X7_224 okX7_isWord dX7_statement_166 hT.o (by decide) rfl rfl rfl (Nat.le_of_ble_eq_true rfl) (Nat.zero_add _).symm (Nat.zero_add _).symm rfl (c_X7_isWord hT hE1 (w := 3) (by decide) hwt hP1 ?_)
        intro v3 hv3
        refine J_if_eq (tgt := 178) hx dX7_statement_169 (by decide) (fun c16 => ?_) (fun c16 => ?_)
        · have hn3 : ¬ wdP B tk 3 := by
            rcases hv3 with h9 | h9
            · exfalso; omega
            · exact h9.2
          refine J_aload_n hx dX7_statement_178 (i := 0) rfl rfl ?_
          refine J_ldcS (i := 236) (w := 4) (tx := "spread") hx dX7_statement_179 (by decide) ?_
          refine J_invV (As := [vR (g.2.2.2.2.1 4)]) (st := []) hx lk_X7_224 okX7_isWord dX7_statement_181 hT.o (by decide) rfl rfl rfl (Nat.le_of_ble_eq_true rfl) (Nat.zero_add _).symm (Nat.zero_add _).symm rfl (c_X7_isWord hT hE1 (w := 4) (by decide) hwt hP1 ?_)
          intro v4 hv4
          refine J_if_eq (tgt := 193) hx dX7_statement_184 (by decide) (fun c17 => ?_) (fun c17 => ?_)
          · have hn4 : ¬ wdP B tk 4 := by
              rcases hv4 with h9 | h9
              · exfalso; omega
              · exact h9.2
            refine J_aload_n hx dX7_statement_193 (i := 0) rfl rfl ?_
            refine J_ldcS (i := 237) (w := 5) (tx := "wrists") hx dX7_statement_194 (by decide) ?_
            refine J_invV (As := [vR (g.2.2.2.2.1 5)]) (st := []) hx lk_X7_224 okX7_isWord dX7_statement_196 hT.o (by decide) rfl rfl rfl (Nat.le_of_ble_eq_true rfl) (Nat.zero_add _).symm (Nat.zero_add _).symm rfl (c_X7_isWord hT hE1 (w := 5) (by decide) hwt hP1 ?_)
            intro v5 hv5
            refine J_if_eq (tgt := 208) hx dX7_statement_199 (by decide) (fun c18 => ?_) (fun c18 => ?_)
            · have hn5 : ¬ wdP B tk 5 := by
                rcases hv5 with h9 | h9
                · exfalso; omega
                · exact h9.2
              refine J_aload_n hx dX7_statement_208 (i := 0) rfl rfl ?_
              refine J_ldcS (i := 238) (w := 6) (tx := "bell") hx dX7_statement_209 (by decide) ?_
              refine J_invV (As := [vR (g.2.2.2.2.1 6)]) (st := []) hx lk_X7_224 okX7_isWord dX7_statement_211 hT.o (by decide) rfl rfl rfl (Nat.le_of_ble_eq_true rfl) (Nat.zero_add _).symm (Nat.zero_add _).symm rfl (c_X7_isWord hT hE1 (w := 6) (by decide) hwt hP1 ?_)
              intro v6 hv6
              refine J_if_eq (tgt := 223) hx dX7_statement_214 (by decide) (fun c19 => ?_) (fun c19 => ?_)
              · have hn6 : ¬ wdP B tk 6 := by
                  rcases hv6 with h9 | h9
                  · exfalso; omega
                  · exact h9.2
                refine J_aload_n hx dX7_statement_223 (i := 0) rfl rfl ?_
                refine J_ldcS (i := 239) (w := 2) (tx := "run") hx dX7_statement_224 (by decide) ?_
                refine J_invV (As := [vR (g.2.2.2.2.1 2)]) (st := []) hx lk_X7_224 okX7_isWord dX7_statement_226 hT.o (by decide) rfl rfl rfl (Nat.le_of_ble_eq_true rfl) (Nat.zero_add _).symm (Nat.zero_add _).symm rfl (c_X7_isWord hT hE1 (w := 2) (by decide) hwt hP1 ?_)
                intro v2 hv2
                refine J_if_eq (tgt := 239) hx dX7_statement_229 (by decide) (fun c20 => ?_) (fun c20 => ?_)
                · have hn2 : ¬ wdP B tk 2 := by
                    rcases hv2 with h9 | h9
                    · exfalso; omega
                    · exact h9.2
                  refine J_aload_n hx dX7_statement_239 (i := 0) rfl rfl ?_
                  refine J_invV (As := []) (st := []) hx lk_X7_197 okX7_wrong dX7_statement_240 hT.o (by decide) rfl rfl rfl (Nat.le_of_ble_eq_true rfl) (Nat.zero_add _).symm (Nat.zero_add _).symm rfl (c_X7_wrong hT hP1.2.2.1 ?_)
                  intro M2 h31 hL2
                  have hF2 := hF1.tr (FrW.f hL2)
                  refine J_zret hx hr dX7_statement_243 (by omega) ?_
                  have eR : stR B z A tk = (((tk.1 : Nat) : Int), A, tk) := by
                    by_cases q0 : wdP B tk 0
                    · have e0 : v0 = 1 := by
                        rcases hv0 with h9 | h9
                        · exact h9.1
                        · exact absurd q0 h9.2
                      rw [stR_w q0 (by decide), if_pos rfl]
                      unfold sOne
                      rw [if_pos (by omega)]
                    · exact stR_n (fun w9 h9 => by
                        rcases (show w9 = 0 ∨ w9 = 1 ∨ w9 = 2 ∨ w9 = 3 ∨ w9 = 4 ∨ w9 = 5 ∨ w9 = 6 by omega) with rfl | rfl | rfl | rfl | rfl | rfl | rfl
                        · exact q0
                        · exact hn1
                        · exact hn2
                        · exact hn3
                        · exact hn4
                        · exact hn5
                        · exact hn6)
                  rw [eR] at hQ0
                  exact hQ0 (show ((_ : Nat) : Int) ≠ -1 by omega) M2 h31 hF2
                · have hwd : wdP B tk 2 := by
                    rcases hv2 with h9 | h9
                    · exact h9.2
                    · exfalso; omega
                  have eW : stR B z A tk = sRun B z A tk := by rw [stR_w hwd (by decide)]; rfl
                  refine J_aload_n hx dX7_statement_232 (i := 0) rfl rfl ?_
                  rw [eW] at hQ1 hQ0
                  refine J_invV (As := []) (st := []) hx lk_X7_241 okX7_runTold dX7_statement_233 hT.o (by decide) rfl rfl rfl (Nat.le_of_ble_eq_true rfl) (Nat.zero_add _).symm (Nat.zero_add _).symm rfl (c_X7_runTold hT hE1 hwt hP1 hY1 hWA (fun e9 M2 h8 h9 hF => ?_) (fun e9 M2 h9 hF => ?_))
                  · exact J_goto (tgt := 243) hx dX7_statement_236 (by decide) (J_zret hx hr dX7_statement_243 (by omega) (hQ1 e9 M2 h8 h9 hF))
                  · exact J_goto (tgt := 243) hx dX7_statement_236 (by decide) (J_zret hx hr dX7_statement_243 (by omega) (hQ0 e9 M2 h9 hF))
              · have hwd : wdP B tk 6 := by
                  rcases hv6 with h9 | h9
                  · exact h9.2
                  · exfalso; omega
                have eW : stR B z A tk = sAsk B z A tk 4 1 99 := by rw [stR_w hwd (by decide)]; rfl
                refine J_aload_n hx dX7_statement_217 (i := 0) rfl rfl ?_
                refine J_iconst (v := 3) hx dX7_statement_218 (by decide) ?_
                rw [eW] at hQ1 hQ0
                refine J_invV (As := [vI 3]) (st := []) hx lk_X7_233 okX7_asks dX7_statement_219 hT.o (by decide) rfl rfl rfl (Nat.le_of_ble_eq_true rfl) (Nat.zero_add _).symm (Nat.zero_add _).symm rfl (c_X7_asks hT hE1 hwt hP1 hY1 hWA (what := 3) (lo := 1) (hi := 99) (by decide) (by decide) (by decide) (fun v9 => by unfold mayQ; omega) (fun e9 M2 h8 h9 hF => ?_) (fun e9 M2 h9 hF => ?_))
                · exact J_zret hx hr dX7_statement_222 (by omega) (hQ1 e9 M2 h8 h9 hF)
                · exact J_zret hx hr dX7_statement_222 (by omega) (hQ0 e9 M2 h9 hF)
            · have hwd : wdP B tk 5 := by
                rcases hv5 with h9 | h9
                · exact h9.2
                · exfalso; omega
              have eW : stR B z A tk = sAsk B z A tk 3 0 1 := by rw [stR_w hwd (by decide)]; rfl
              refine J_aload_n hx dX7_statement_202 (i := 0) rfl rfl ?_
              refine J_iconst (v := 2) hx dX7_statement_203 (by decide) ?_
              rw [eW] at hQ1 hQ0
              refine J_invV (As := [vI 2]) (st := []) hx lk_X7_233 okX7_asks dX7_statement_204 hT.o (by decide) rfl rfl rfl (Nat.le_of_ble_eq_true rfl) (Nat.zero_add _).symm (Nat.zero_add _).symm rfl (c_X7_asks hT hE1 hwt hP1 hY1 hWA (what := 2) (lo := 0) (hi := 1) (by decide) (by decide) (by decide) (fun v9 => by unfold mayQ; omega) (fun e9 M2 h8 h9 hF => ?_) (fun e9 M2 h9 hF => ?_))
              · exact J_zret hx hr dX7_statement_207 (by omega) (hQ1 e9 M2 h8 h9 hF)
              · exact J_zret hx hr dX7_statement_207 (by omega) (hQ0 e9 M2 h9 hF)
          · have hwd : wdP B tk 4 := by
              rcases hv4 with h9 | h9
              · exact h9.2
              · exfalso; omega
            have eW : stR B z A tk = sAsk B z A tk 2 1 10 := by rw [stR_w hwd (by decide)]; rfl
            refine J_aload_n hx dX7_statement_187 (i := 0) rfl rfl ?_
            refine J_iconst (v := 1) hx dX7_statement_188 (by decide) ?_
            rw [eW] at hQ1 hQ0
            refine J_invV (As := [vI 1]) (st := []) hx lk_X7_233 okX7_asks dX7_statement_189 hT.o (by decide) rfl rfl rfl (Nat.le_of_ble_eq_true rfl) (Nat.zero_add _).symm (Nat.zero_add _).symm rfl (c_X7_asks hT hE1 hwt hP1 hY1 hWA (what := 1) (lo := 1) (hi := 10) (by decide) (by decide) (by decide) (fun v9 => by unfold mayQ; omega) (fun e9 M2 h8 h9 hF => ?_) (fun e9 M2 h9 hF => ?_))
            · exact J_zret hx hr dX7_statement_192 (by omega) (hQ1 e9 M2 h8 h9 hF)
            · exact J_zret hx hr dX7_statement_192 (by omega) (hQ0 e9 M2 h9 hF)
        · have hwd : wdP B tk 3 := by
            rcases hv3 with h9 | h9
            · exact h9.2
            · exfalso; omega
          have eW : stR B z A tk = sAsk B z A tk 1 0 30 := by rw [stR_w hwd (by decide)]; rfl
          refine J_aload_n hx dX7_statement_172 (i := 0) rfl rfl ?_
          refine J_iconst (v := 0) hx dX7_statement_173 (by decide) ?_
          rw [eW] at hQ1 hQ0
          refine J_invV (As := [vI 0]) (st := []) hx lk_X7_233 okX7_asks dX7_statement_174 hT.o (by decide) rfl rfl rfl (Nat.le_of_ble_eq_true rfl) (Nat.zero_add _).symm (Nat.zero_add _).symm rfl (c_X7_asks hT hE1 hwt hP1 hY1 hWA (what := 0) (lo := 0) (hi := 30) (by decide) (by decide) (by decide) (fun v9 => by unfold mayQ; omega) (fun e9 M2 h8 h9 hF => ?_) (fun e9 M2 h9 hF => ?_))
          · exact J_zret hx hr dX7_statement_177 (by omega) (hQ1 e9 M2 h8 h9 hF)
          · exact J_zret hx hr dX7_statement_177 (by omega) (hQ0 e9 M2 h9 hF)
      · have hwd : wdP B tk 1 := by
          rcases hv1 with h9 | h9
          · exact h9.2
          · exfalso; omega
        have eW : stR B z A tk = sTir B z A tk := by rw [stR_w hwd (by decide)]; rfl
        refine J_aload_n hx dX7_statement_117 (i := 0) rfl rfl ?_
        refine J_iconst (v := 0) hx dX7_statement_118 (by decide) ?_
        refine J_aload_n hx dX7_statement_119 (i := 0) rfl rfl ?_
        refine J_getI2 (v := ((A.n : Nat) : Int)) hx fl_X7_82 cl_X7 dX7_statement_120 hT.o (by decide) rfl hY1.pp ?_
        have rg21 := hWA.n8
        refine J_iconst (v := 1) hx dX7_statement_123 (by decide) ?_
        refine J_isub (v := ((A.n : Nat) : Int) - 1) hx dX7_statement_124 (w32_id (by omega) (by omega)) ?_
        refine J_invV (As := [vI (0), vI (((A.n : Nat) : Int) - 1)]) (st := []) hx lk_X7_228 okX7_tells dX7_statement_125 hT.o (by decide) rfl rfl rfl (Nat.le_of_ble_eq_true rfl) (Nat.zero_add _).symm (Nat.zero_add _).symm rfl (c_X7_tells hT hE1 (lo := 0) (hi := ((A.n : Nat) : Int) - 1) (by omega) (by omega) (by omega) (by omega) hwt hP1 ?_ ?_)
        · intro hk1 M2 hP2 hD2_0 hd2 hm2
          replace hP2 : TPr M2 r B (nk B z 2 tk) := hP2
          replace hD2_0 : M2 (r + 26) 0 = vk B z 1 tk := hD2_0
          have hE2 := hE1.m hm2
          have hY2 := hY1.m hm2
          have hF2 := hF1.tr hm2.w
          have rv1 : 2 = 2 ∧ (0) ≤ vk B z 1 tk ∧ vk B z 1 tk ≤ (((A.n : Nat) : Int) - 1) := ⟨rfl, (okT_t hk1).2⟩
          have en1 : vk B z 1 tk = (((vk B z 1 tk).toNat : Nat) : Int) := by omega
          refine J_if_eq (tgt := 142) hx dX7_statement_128 (by decide) (fun c9 => absurd c9 (by decide)) (fun _ => ?_)
          refine J_aload_n hx dX7_statement_131 (i := 0) rfl rfl ?_
          refine J_iconst (v := 1) hx dX7_statement_132 (by decide) ?_
          refine J_iconst (v := 0) hx dX7_statement_133 (by decide) ?_
          refine J_bipush (v := 20) hx dX7_statement_134 (by decide) ?_
          refine J_invV (As := [vI (1), vI (0), vI (20)]) (st := []) hx lk_X7_204 okX7_number dX7_statement_136 hT.o (by decide) rfl rfl rfl (Nat.le_of_ble_eq_true rfl) (Nat.zero_add _).symm (Nat.zero_add _).symm rfl (c_X7_number hT hE2 (i := 1) (lo := 0) (hi := 20) (by decide) (by omega) (by omega) (by omega) (by omega) (nk_wf hwt 2).1 hP2 ?_ ?_)
          · intro hk2 M3 hP3 hD3_1 hd3 hm3
            replace hP3 : TPr M3 r B (nk B z 3 tk) := hP3
            replace hD3_1 : M3 (r + 26) 1 = vk B z 2 tk := hD3_1
            have hE3 := hE2.m hm3
            have hY3 := hY2.m hm3
            have hF3 := hF2.tr hm3.w
            have hD3_0 : M3 (r + 26) 0 = vk B z 1 tk := by rw [hd3 _ (by decide)]; exact hD2_0
            have rv2 : 2 = 2 ∧ (0) ≤ vk B z 2 tk ∧ vk B z 2 tk ≤ (20) := ⟨rfl, (okT_t hk2).2⟩
            have en2 : vk B z 2 tk = (((vk B z 2 tk).toNat : Nat) : Int) := by omega
            refine J_if_ne (tgt := 144) hx dX7_statement_139 (by decide) (fun _ => ?_) (fun c9 => absurd c9 (by decide))
            refine J_aload_n hx dX7_statement_144 (i := 0) rfl rfl ?_
            refine J_getR (b := r + 20) hx fl_X7_46 cl_X7 dX7_statement_145 hT.o (by decide) rfl hT.r13 ?_
            refine J_aload_n hx dX7_statement_148 (i := 0) rfl rfl ?_
            refine J_getR (b := r + 26) hx fl_X7_73 cl_X7 dX7_statement_149 hT.o (by decide) rfl hT.r32 ?_
            refine J_iconst (v := 0) hx dX7_statement_152 (by decide) ?_
            refine J_iald2 (v := (((vk B z 1 tk).toNat : Nat) : Int)) hx 0 dX7_statement_153 hT.k26 (by omega) (hT.l26 (by omega)) (hD3_0.trans en1) ?_
            refine J_aload_n hx dX7_statement_154 (i := 0) rfl rfl ?_
            refine J_getR (b := r + 26) hx fl_X7_73 cl_X7 dX7_statement_155 hT.o (by decide) rfl hT.r32 ?_
            refine J_iconst (v := 1) hx dX7_statement_158 (by decide) ?_
            refine J_iald2 (v := vk B z 2 tk) hx 1 dX7_statement_159 hT.k26 (by omega) (hT.l26 (by omega)) hD3_1 ?_
            refine J_iast hx ((vk B z 1 tk).toNat) dX7_statement_160 hT.k20 (by omega) (hT.l20 (by omega)) ?_
            have hYx : MN (up2 M3 (r + 17 + 3) ((vk B z 1 tk).toNat) (vk B z 2 tk)) r (A.setA 3 ((vk B z 1 tk).toNat) (vk B z 2 tk)) := hY3.setA (f := 3) _ (by decide)
            have hYf : FrN r M3 (up2 M3 (r + 17 + 3) ((vk B z 1 tk).toNat) (vk B z 2 tk)) := FrN.rf.up (Or.inl (by omega)) _
            generalize up2 M3 (r + 17 + 3) ((vk B z 1 tk).toNat) (vk B z 2 tk) = M4 at hYx hYf ⊢
            have hP4 := hP3.n hYf
            have hF4 := hF3.tr (FrW.n hYf)
            refine J_iconst (v := 1) hx dX7_statement_161 (by decide) ?_
            refine J_zret hx hr dX7_statement_162 (by omega) ?_
            have eR : stR B z A tk = (-1, A.setA 3 (vk B z 1 tk).toNat (vk B z 2 tk), nk B z 3 tk) := by
              rw [eW]; unfold sTir
              rw [if_neg (by rw [hk1]; decide), if_neg (by rw [hk2]; decide)]
            rw [eR] at hQ1
            exact hQ1 rfl M4 hYx hP4 hF4
          · intro hk2 M3 h31 hm3
            have hF3 := hF2.tr hm3.w
            refine J_if_ne (tgt := 144) hx dX7_statement_139 (by decide) (fun c9 => absurd c9 (by decide)) (fun _ => ?_)
            refine J_iconst (v := 0) hx dX7_statement_142 (by decide) ?_
            refine J_zret hx hr dX7_statement_143 (by omega) ?_
            have eR : stR B z A tk = ((((nk B z 2 tk).1 : Nat) : Int), A, tk) := by
              rw [eW]; unfold sTir
              rw [if_neg (by rw [hk1]; decide), if_pos hk2]
            rw [eR] at hQ0
            exact hQ0 (show ((_ : Nat) : Int) ≠ -1 by omega) M3 h31 hF3
        · intro hk1 M2 h31 hm2
          have hF2 := hF1.tr hm2.w
          refine J_if_eq (tgt := 142) hx dX7_statement_128 (by decide) (fun _ => ?_) (fun c9 => absurd c9 (by decide))
          refine J_iconst (v := 0) hx dX7_statement_142 (by decide) ?_
          refine J_zret hx hr dX7_statement_143 (by omega) ?_
          have eR : stR B z A tk = ((((nk B z 1 tk).1 : Nat) : Int), A, tk) := by
            rw [eW]; unfold sTir
            rw [if_pos hk1]
          rw [eR] at hQ0
          exact hQ0 (show ((_ : Nat) : Int) ≠ -1 by omega) M2 h31 hF2
    · refine J_aload_n hx dX7_statement_18 (i := 0) rfl rfl ?_
      refine J_iconst (v := 0) hx dX7_statement_19 (by decide) ?_
      refine J_iconst (v := 1) hx dX7_statement_20 (by decide) ?_
      refine J_invV (As := [vI (0), vI (1)]) (st := []) hx lk_X7_228 okX7_tells dX7_statement_21 hT.o (by decide) rfl rfl rfl (Nat.le_of_ble_eq_true rfl) (Nat.zero_add _).symm (Nat.zero_add _).symm rfl (c_X7_tells hT hE1 (lo := 0) (hi := 1) (by omega) (by omega) (by omega) (by omega) hwt hP1 ?_ ?_)
      · intro hk1 M2 hP2 hD2_0 hd2 hm2
        replace hP2 : TPr M2 r B (nk B z 2 tk) := hP2
        replace hD2_0 : M2 (r + 26) 0 = vk B z 1 tk := hD2_0
        have hE2 := hE1.m hm2
        have hY2 := hY1.m hm2
        have hF2 := hF1.tr hm2.w
        have rv1 : 2 = 2 ∧ (0) ≤ vk B z 1 tk ∧ vk B z 1 tk ≤ (1) := ⟨rfl, (okT_t hk1).2⟩
        have en1 : vk B z 1 tk = (((vk B z 1 tk).toNat : Nat) : Int) := by omega
        refine J_if_eq (tgt := 70) hx dX7_statement_24 (by decide) (fun c9 => absurd c9 (by decide)) (fun _ => ?_)
        refine J_aload_n hx dX7_statement_27 (i := 0) rfl rfl ?_
        refine J_iconst (v := 1) hx dX7_statement_28 (by decide) ?_
        refine J_iconst (v := 0) hx dX7_statement_29 (by decide) ?_
        refine J_iconst (v := 5) hx dX7_statement_30 (by decide) ?_
        refine J_invV (As := [vI (1), vI (0), vI (5)]) (st := []) hx lk_X7_204 okX7_number dX7_statement_31 hT.o (by decide) rfl rfl rfl (Nat.le_of_ble_eq_true rfl) (Nat.zero_add _).symm (Nat.zero_add _).symm rfl (c_X7_number hT hE2 (i := 1) (lo := 0) (hi := 5) (by decide) (by omega) (by omega) (by omega) (by omega) (nk_wf hwt 2).1 hP2 ?_ ?_)
        · intro hk2 M3 hP3 hD3_1 hd3 hm3
          replace hP3 : TPr M3 r B (nk B z 3 tk) := hP3
          replace hD3_1 : M3 (r + 26) 1 = vk B z 2 tk := hD3_1
          have hE3 := hE2.m hm3
          have hY3 := hY2.m hm3
          have hF3 := hF2.tr hm3.w
          have hD3_0 : M3 (r + 26) 0 = vk B z 1 tk := by rw [hd3 _ (by decide)]; exact hD2_0
          have rv2 : 2 = 2 ∧ (0) ≤ vk B z 2 tk ∧ vk B z 2 tk ≤ (5) := ⟨rfl, (okT_t hk2).2⟩
          have en2 : vk B z 2 tk = (((vk B z 2 tk).toNat : Nat) : Int) := by omega
          refine J_if_eq (tgt := 70) hx dX7_statement_34 (by decide) (fun c9 => absurd c9 (by decide)) (fun _ => ?_)
          refine J_aload_n hx dX7_statement_37 (i := 0) rfl rfl ?_
          refine J_iconst (v := 2) hx dX7_statement_38 (by decide) ?_
          refine J_iconst (v := 0) hx dX7_statement_39 (by decide) ?_
          refine J_bipush (v := 20) hx dX7_statement_40 (by decide) ?_
          refine J_invV (As := [vI (2), vI (0), vI (20)]) (st := []) hx lk_X7_204 okX7_number dX7_statement_42 hT.o (by decide) rfl rfl rfl (Nat.le_of_ble_eq_true rfl) (Nat.zero_add _).symm (Nat.zero_add _).symm rfl (c_X7_number hT hE3 (i := 2) (lo := 0) (hi := 20) (by decide) (by omega) (by omega) (by omega) (by omega) (nk_wf hwt 3).1 hP3 ?_ ?_)
          · intro hk3 M4 hP4 hD4_2 hd4 hm4
            replace hP4 : TPr M4 r B (nk B z 4 tk) := hP4
            replace hD4_2 : M4 (r + 26) 2 = vk B z 3 tk := hD4_2
            have hE4 := hE3.m hm4
            have hY4 := hY3.m hm4
            have hF4 := hF3.tr hm4.w
            have hD4_0 : M4 (r + 26) 0 = vk B z 1 tk := by rw [hd4 _ (by decide)]; exact hD3_0
            have hD4_1 : M4 (r + 26) 1 = vk B z 2 tk := by rw [hd4 _ (by decide)]; exact hD3_1
            have rv3 : 2 = 2 ∧ (0) ≤ vk B z 3 tk ∧ vk B z 3 tk ≤ (20) := ⟨rfl, (okT_t hk3).2⟩
            have en3 : vk B z 3 tk = (((vk B z 3 tk).toNat : Nat) : Int) := by omega
            refine J_if_eq (tgt := 70) hx dX7_statement_45 (by decide) (fun c9 => absurd c9 (by decide)) (fun _ => ?_)
            refine J_aload_n hx dX7_statement_48 (i := 0) rfl rfl ?_
            refine J_iconst (v := 3) hx dX7_statement_49 (by decide) ?_
            refine J_iconst (v := 0) hx dX7_statement_50 (by decide) ?_
            refine J_bipush (v := 20) hx dX7_statement_51 (by decide) ?_
            refine J_invV (As := [vI (3), vI (0), vI (20)]) (st := []) hx lk_X7_204 okX7_number dX7_statement_53 hT.o (by decide) rfl rfl rfl (Nat.le_of_ble_eq_true rfl) (Nat.zero_add _).symm (Nat.zero_add _).symm rfl (c_X7_number hT hE4 (i := 3) (lo := 0) (hi := 20) (by decide) (by omega) (by omega) (by omega) (by omega) (nk_wf hwt 4).1 hP4 ?_ ?_)
            · intro hk4 M5 hP5 hD5_3 hd5 hm5
              replace hP5 : TPr M5 r B (nk B z 5 tk) := hP5
              replace hD5_3 : M5 (r + 26) 3 = vk B z 4 tk := hD5_3
              have hE5 := hE4.m hm5
              have hY5 := hY4.m hm5
              have hF5 := hF4.tr hm5.w
              have hD5_0 : M5 (r + 26) 0 = vk B z 1 tk := by rw [hd5 _ (by decide)]; exact hD4_0
              have hD5_1 : M5 (r + 26) 1 = vk B z 2 tk := by rw [hd5 _ (by decide)]; exact hD4_1
              have hD5_2 : M5 (r + 26) 2 = vk B z 3 tk := by rw [hd5 _ (by decide)]; exact hD4_2
              have rv4 : 2 = 2 ∧ (0) ≤ vk B z 4 tk ∧ vk B z 4 tk ≤ (20) := ⟨rfl, (okT_t hk4).2⟩
              have en4 : vk B z 4 tk = (((vk B z 4 tk).toNat : Nat) : Int) := by omega
              refine J_if_eq (tgt := 70) hx dX7_statement_56 (by decide) (fun c9 => absurd c9 (by decide)) (fun _ => ?_)
              refine J_aload_n hx dX7_statement_59 (i := 0) rfl rfl ?_
              refine J_iconst (v := 4) hx dX7_statement_60 (by decide) ?_
              refine J_iconst (v := 0) hx dX7_statement_61 (by decide) ?_
              refine J_bipush (v := 9) hx dX7_statement_62 (by decide) ?_
              refine J_invV (As := [vI (4), vI (0), vI (9)]) (st := []) hx lk_X7_204 okX7_number dX7_statement_64 hT.o (by decide) rfl rfl rfl (Nat.le_of_ble_eq_true rfl) (Nat.zero_add _).symm (Nat.zero_add _).symm rfl (c_X7_number hT hE5 (i := 4) (lo := 0) (hi := 9) (by decide) (by omega) (by omega) (by omega) (by omega) (nk_wf hwt 5).1 hP5 ?_ ?_)
              · intro hk5 M6 hP6 hD6_4 hd6 hm6
                replace hP6 : TPr M6 r B (nk B z 6 tk) := hP6
                replace hD6_4 : M6 (r + 26) 4 = vk B z 5 tk := hD6_4
                have hE6 := hE5.m hm6
                have hY6 := hY5.m hm6
                have hF6 := hF5.tr hm6.w
                have hD6_0 : M6 (r + 26) 0 = vk B z 1 tk := by rw [hd6 _ (by decide)]; exact hD5_0
                have hD6_1 : M6 (r + 26) 1 = vk B z 2 tk := by rw [hd6 _ (by decide)]; exact hD5_1
                have hD6_2 : M6 (r + 26) 2 = vk B z 3 tk := by rw [hd6 _ (by decide)]; exact hD5_2
                have hD6_3 : M6 (r + 26) 3 = vk B z 4 tk := by rw [hd6 _ (by decide)]; exact hD5_3
                have rv5 : 2 = 2 ∧ (0) ≤ vk B z 5 tk ∧ vk B z 5 tk ≤ (9) := ⟨rfl, (okT_t hk5).2⟩
                have en5 : vk B z 5 tk = (((vk B z 5 tk).toNat : Nat) : Int) := by omega
                refine J_if_ne (tgt := 72) hx dX7_statement_67 (by decide) (fun _ => ?_) (fun c9 => absurd c9 (by decide))
                refine J_aload_n hx dX7_statement_72 (i := 0) rfl rfl ?_
                refine J_aload_n hx dX7_statement_73 (i := 0) rfl rfl ?_
                refine J_getR (b := r + 26) hx fl_X7_73 cl_X7 dX7_statement_74 hT.o (by decide) rfl hT.r32 ?_
                refine J_iconst (v := 0) hx dX7_statement_77 (by decide) ?_
                refine J_iald2 (v := (((vk B z 1 tk).toNat : Nat) : Int)) hx 0 dX7_statement_78 hT.k26 (by omega) (hT.l26 (by omega)) (hD6_0.trans en1) ?_
                refine J_aload_n hx dX7_statement_79 (i := 0) rfl rfl ?_
                refine J_getR (b := r + 26) hx fl_X7_73 cl_X7 dX7_statement_80 hT.o (by decide) rfl hT.r32 ?_
                refine J_iconst (v := 1) hx dX7_statement_83 (by decide) ?_
                refine J_iald2 (v := vk B z 2 tk) hx 1 dX7_statement_84 hT.k26 (by omega) (hT.l26 (by omega)) hD6_1 ?_
                refine J_aload_n hx dX7_statement_85 (i := 0) rfl rfl ?_
                refine J_getR (b := r + 26) hx fl_X7_73 cl_X7 dX7_statement_86 hT.o (by decide) rfl hT.r32 ?_
                refine J_iconst (v := 2) hx dX7_statement_89 (by decide) ?_
                refine J_iald2 (v := vk B z 3 tk) hx 2 dX7_statement_90 hT.k26 (by omega) (hT.l26 (by omega)) hD6_2 ?_
                refine J_aload_n hx dX7_statement_91 (i := 0) rfl rfl ?_
                refine J_getR (b := r + 26) hx fl_X7_73 cl_X7 dX7_statement_92 hT.o (by decide) rfl hT.r32 ?_
                refine J_iconst (v := 3) hx dX7_statement_95 (by decide) ?_
                refine J_iald2 (v := vk B z 4 tk) hx 3 dX7_statement_96 hT.k26 (by omega) (hT.l26 (by omega)) hD6_3 ?_
                refine J_aload_n hx dX7_statement_97 (i := 0) rfl rfl ?_
                refine J_getR (b := r + 26) hx fl_X7_73 cl_X7 dX7_statement_98 hT.o (by decide) rfl hT.r32 ?_
                refine J_iconst (v := 4) hx dX7_statement_101 (by decide) ?_
                refine J_iald2 (v := vk B z 5 tk) hx 4 dX7_statement_102 hT.k26 (by omega) (hT.l26 (by omega)) hD6_4 ?_
                refine J_invVv (As := [vI ((((vk B z 1 tk).toNat : Nat) : Int)), vI (vk B z 2 tk), vI (vk B z 3 tk), vI (vk B z 4 tk), vI (vk B z 5 tk)]) (st := []) hx lk_X7_133 okX7_addOne dX7_statement_103 hT.o (by decide) rfl rfl rfl (Nat.le_of_ble_eq_true rfl) (Nat.zero_add _).symm (Nat.zero_add _).symm rfl (c_X7_addOne hT hY6 hWA (c := (vk B z 1 tk).toNat) (by omega) (by omega) ?_)
                intro M7 hYx hYf
                have hP7 := hP6.n hYf
                have hE7 := hE6.n hYf
                have hF7 := hF6.tr (FrW.n hYf)
                have hY7 := hYx
                refine J_iconst (v := 1) hx dX7_statement_106 (by decide) ?_
                refine J_zret hx hr dX7_statement_107 (by omega) ?_
                have eR : stR B z A tk = (-1, addY A (vk B z 1 tk).toNat (vk B z 2 tk) (vk B z 3 tk) (vk B z 4 tk) (vk B z 5 tk), nk B z 6 tk) := by
                  rw [eW]; unfold sOne
                  rw [if_neg (by omega), if_neg (by rw [hk1]; decide), if_neg (by rw [hk2]; decide), if_neg (by rw [hk3]; decide), if_neg (by rw [hk4]; decide), if_neg (by rw [hk5]; decide)]
                rw [eR] at hQ1
                exact hQ1 rfl M7 hYx hP7 hF7
              · intro hk5 M6 h31 hm6
                have hF6 := hF5.tr hm6.w
                refine J_if_ne (tgt := 72) hx dX7_statement_67 (by decide) (fun c9 => absurd c9 (by decide)) (fun _ => ?_)
                refine J_iconst (v := 0) hx dX7_statement_70 (by decide) ?_
                refine J_zret hx hr dX7_statement_71 (by omega) ?_
                have eR : stR B z A tk = ((((nk B z 5 tk).1 : Nat) : Int), A, tk) := by
                  rw [eW]; unfold sOne
                  rw [if_neg (by omega), if_neg (by rw [hk1]; decide), if_neg (by rw [hk2]; decide), if_neg (by rw [hk3]; decide), if_neg (by rw [hk4]; decide), if_pos hk5]
                rw [eR] at hQ0
                exact hQ0 (show ((_ : Nat) : Int) ≠ -1 by omega) M6 h31 hF6
            · intro hk4 M5 h31 hm5
              have hF5 := hF4.tr hm5.w
              refine J_if_eq (tgt := 70) hx dX7_statement_56 (by decide) (fun _ => ?_) (fun c9 => absurd c9 (by decide))
              refine J_iconst (v := 0) hx dX7_statement_70 (by decide) ?_
              refine J_zret hx hr dX7_statement_71 (by omega) ?_
              have eR : stR B z A tk = ((((nk B z 4 tk).1 : Nat) : Int), A, tk) := by
                rw [eW]; unfold sOne
                rw [if_neg (by omega), if_neg (by rw [hk1]; decide), if_neg (by rw [hk2]; decide), if_neg (by rw [hk3]; decide), if_pos hk4]
              rw [eR] at hQ0
              exact hQ0 (show ((_ : Nat) : Int) ≠ -1 by omega) M5 h31 hF5
          · intro hk3 M4 h31 hm4
            have hF4 := hF3.tr hm4.w
            refine J_if_eq (tgt := 70) hx dX7_statement_45 (by decide) (fun _ => ?_) (fun c9 => absurd c9 (by decide))
            refine J_iconst (v := 0) hx dX7_statement_70 (by decide) ?_
            refine J_zret hx hr dX7_statement_71 (by omega) ?_
            have eR : stR B z A tk = ((((nk B z 3 tk).1 : Nat) : Int), A, tk) := by
              rw [eW]; unfold sOne
              rw [if_neg (by omega), if_neg (by rw [hk1]; decide), if_neg (by rw [hk2]; decide), if_pos hk3]
            rw [eR] at hQ0
            exact hQ0 (show ((_ : Nat) : Int) ≠ -1 by omega) M4 h31 hF4
        · intro hk2 M3 h31 hm3
          have hF3 := hF2.tr hm3.w
          refine J_if_eq (tgt := 70) hx dX7_statement_34 (by decide) (fun _ => ?_) (fun c9 => absurd c9 (by decide))
          refine J_iconst (v := 0) hx dX7_statement_70 (by decide) ?_
          refine J_zret hx hr dX7_statement_71 (by omega) ?_
          have eR : stR B z A tk = ((((nk B z 2 tk).1 : Nat) : Int), A, tk) := by
            rw [eW]; unfold sOne
            rw [if_neg (by omega), if_neg (by rw [hk1]; decide), if_pos hk2]
          rw [eR] at hQ0
          exact hQ0 (show ((_ : Nat) : Int) ≠ -1 by omega) M3 h31 hF3
      · intro hk1 M2 h31 hm2
        have hF2 := hF1.tr hm2.w
        refine J_if_eq (tgt := 70) hx dX7_statement_24 (by decide) (fun _ => ?_) (fun c9 => absurd c9 (by decide))
        refine J_iconst (v := 0) hx dX7_statement_70 (by decide) ?_
        refine J_zret hx hr dX7_statement_71 (by omega) ?_
        have eR : stR B z A tk = ((((nk B z 1 tk).1 : Nat) : Int), A, tk) := by
          rw [eW]; unfold sOne
          rw [if_neg (by omega), if_pos hk1]
        rw [eR] at hQ0
        exact hQ0 (show ((_ : Nat) : Int) ≠ -1 by omega) M2 h31 hF2

set_option maxHeartbeats 4000000 in
theorem lp_X7_readAll {g : WG} {d : Nat} {T : TT} {M : MM} {r sz z : Nat} {B : Nat → Int} {Q : MVal → TT → MM → Nat → Prop} (hT : MT T r) {x : CX} (hx : OKx g x RX7 cX7_readAll (d + 7)) (hr : RTx g x (some .boolean) Q) {A : YA} {tk : TK} (k n : Nat) (M1 : MM) (hkn : k + n = 250) (hR1 : (stR B z A tk).1 = -1) (hWA : WFY A) (hwt : wfT B z tk) (hY1 : MN M1 r (stR B z A tk).2.1) (hP1 : TPr M1 r B (stR B z A tk).2.2) (hE1 : RPE M1 r z B) (h33 : M1 r 33 = ((n : Nat) : Int)) (hpos : 2 * (n - 1) ≤ tk.1) (hF1 : FrV r M M1) (hQ1 : (rdZ B z (k + 1) n A tk).1 = -1 → ∀ M', MN M' r (rdZ B z (k + 1) n A tk).2.1 → M' r 33 = (((rdZ B z (k + 1) n A tk).2.2 : Nat) : Int) → FrV r M M' → Q (vI 1) T M' sz) (hQ0 : (rdZ B z (k + 1) n A tk).1 ≠ -1 → ∀ M', M' r 31 = (rdZ B z (k + 1) n A tk).1 → FrV r M M' → Q (vI 0) T M' sz) : Jd g x 23 [vR (r)] [] T M1 sz 0 0 := by
  have hz2 := hE1.z2
  have hok := stR_ok hWA hwt hz2
  replace hok : WFY (stR B z A tk).2.1 ∧ wfT B z (stR B z A tk).2.2 ∧ tk.2.2 ≤ (stR B z A tk).2.2.1 := by
    rcases hok with h9 | h9
    · exfalso; omega
    · exact h9.2
  have hty := stR_1 hR1
  have hlt := hwt.2.2.2.2.2.1 (by omega)
  refine J_aload_n hx dX7_readAll_23 (i := 0) rfl rfl ?_
  refine J_getI2 (v := (stR B z A tk).2.2.2.1) hx fl_X7_175 cl_X7 dX7_readAll_24 hT.o (by decide) rfl hP1.2.1 ?_
  refine J_if_eq (tgt := 69) hx dX7_readAll_27 (by decide) (fun c1 => ?_) (fun c1 => ?_)
  · refine J_iconst (v := 1) hx dX7_readAll_69 (by decide) ?_
    refine J_zret hx hr dX7_readAll_70 (by omega) ?_
    rw [rdZ_s, if_neg (fun q9 => q9 hR1), if_pos (by omega)] at hQ1
    exact hQ1 rfl M1 hY1 h33 hF1
  · refine J_aload_n hx dX7_readAll_30 (i := 0) rfl rfl ?_
    refine J_getI2 (v := (stR B z A tk).2.2.2.1) hx fl_X7_175 cl_X7 dX7_readAll_31 hT.o (by decide) rfl hP1.2.1 ?_
    refine J_iconst (v := 3) hx dX7_readAll_34 (by decide) ?_
    refine J_icmp_eq (tgt := 43) hx dX7_readAll_35 (by decide) (fun c2 => ?_) (fun c2 => ?_)
    · refine J_aload_n hx dX7_readAll_43 (i := 0) rfl rfl ?_
      refine J_invVv (As := []) (st := []) hx lk_X7_201 okX7_look dX7_readAll_44 hT.o (by decide) rfl rfl rfl (Nat.le_of_ble_eq_true rfl) (Nat.zero_add _).symm (Nat.zero_add _).symm rfl (c_X7_look hT hE1 (e := (stR B z A tk).2.2.2.2) hok.2.1.2.2.1 hP1.1 ?_)
      intro M2 hP2 hL
      have hnw := tkN_wf B (e := (stR B z A tk).2.2.2.2) hok.2.1.2.2.1
      have hlt3 := hok.2.1.2.2.2.2.2.1 (by omega)
      have hwd1 := hwt.1
      obtain ⟨k, rfl⟩ : ∃ k9, k = k9 + 1 := ⟨k - 1, by omega⟩
      have eZ : rdZ B z (k + 1 + 1) n A tk = rdZ B z (k + 1) (n + 1) (stR B z A tk).2.1 (nx B z (stR B z A tk).2.2) := by rw [rdZ_s, if_neg (fun q9 => q9 hR1), if_neg (by omega), if_neg (fun q9 => q9 (by omega))]
      rw [eZ] at hQ1 hQ0
      refine J_aload_n hx dX7_readAll_47 (i := 0) rfl rfl ?_
      refine J_invV (As := []) (st := []) hx lk_X7_247 okX7_statement dX7_readAll_48 hT.o (by decide) rfl rfl rfl (Nat.le_of_ble_eq_true rfl) (Nat.zero_add _).symm (Nat.zero_add _).symm rfl (c_X7_statement hT (hE1.l hL) hnw.1 hP2 (hY1.l hL) hok.1 (fun hR2 M3 hY3 hP3 hF3 => ?_) (fun hR2 M3 h31 hF3 => ?_))
      · refine J_if_ne (tgt := 56) hx dX7_readAll_51 (by decide) (fun _ => ?_) (fun c9 => absurd c9 (by decide))
        have h33b : M3 r 33 = ((n : Nat) : Int) := by rw [hF3 _ _ (by omega) (by omega), hL _ _ (by omega)]; exact h33
        refine J_aload_n hx dX7_readAll_56 (i := 0) rfl rfl ?_
        refine J_dup hx dX7_readAll_57 rfl ?_
        refine J_getI2 (v := ((n : Nat) : Int)) hx fl_X7_244 cl_X7 dX7_readAll_58 hT.o (by decide) rfl h33b ?_
        refine J_iconst (v := 1) hx dX7_readAll_61 (by decide) ?_
        refine J_iadd (v := ((n : Nat) : Int) + 1) hx dX7_readAll_62 (w32_id (by omega) (by omega)) ?_
        refine J_putI hx fl_X7_244 cl_X7 dX7_readAll_63 hT.o (by decide) rfl (Or.inl rfl) (by decide) ?_
        generalize eM4 : up2 M3 r 33 (((n : Nat) : Int) + 1) = M4
        have hM4a : M4 r 33 = ((n : Nat) : Int) + 1 := by rw [← eM4]; exact up2_at
        have hM4o : ∀ b9 j9, (b9 ≠ r ∨ j9 ≠ 33) → M4 b9 j9 = M3 b9 j9 := fun b9 j9 h9 => by rw [← eM4]; exact up2_ne h9
        have hM4r : ∀ b9, b9 ≠ r → M4 b9 = M3 b9 := fun b9 h9 => by rw [← eM4]; exact up2_row h9
        refine J_goto (tgt := 23) hx dX7_readAll_66 (by decide) ?_
        exact lp_X7_readAll hT hx hr k (n + 1) M4 (by omega) hR2 hok.1 hnw.1 (hY3.same (fun a9 j9 h9 => hM4o _ _ (by omega))) ⟨by rw [hM4o _ _ (Or.inr (by decide))]; exact hP3.1, by rw [hM4o _ _ (Or.inr (by decide))]; exact hP3.2.1, by rw [hM4o _ _ (Or.inr (by decide))]; exact hP3.2.2.1, by rw [hM4o _ _ (Or.inr (by decide))]; exact hP3.2.2.2⟩ (((hE1.l hL).w hF3).v (fun a9 j9 h8 h9 => hM4o _ _ (by omega))) (by rw [hM4a]; rfl) (by have := hnw.2; show 2 * (n + 1 - 1) ≤ (tkN B z (stR B z A tk).2.2.2.2).1; omega) ((hF1.tr (FrV.w ((FrW.l hL).tr hF3))).tr (fun a9 j9 h8 h9 => hM4o _ _ (by omega))) hQ1 hQ0
      · refine J_if_ne (tgt := 56) hx dX7_readAll_51 (by decide) (fun c9 => absurd c9 (by decide)) (fun _ => ?_)
        refine J_iconst (v := 0) hx dX7_readAll_54 (by decide) ?_
        refine J_zret hx hr dX7_readAll_55 (by omega) ?_
        replace hR2 : (stR B z (stR B z A tk).2.1 (nx B z (stR B z A tk).2.2)).1 ≠ -1 := hR2
        rw [rdZ_s, if_pos hR2] at hQ0
        exact hQ0 hR2 M3 h31 (hF1.tr (FrV.w ((FrW.l hL).tr hF3)))
    · refine J_aload_n hx dX7_readAll_38 (i := 0) rfl rfl ?_
      refine J_invV (As := []) (st := []) hx lk_X7_197 okX7_wrong dX7_readAll_39 hT.o (by decide) rfl rfl rfl (Nat.le_of_ble_eq_true rfl) (Nat.zero_add _).symm (Nat.zero_add _).symm rfl (c_X7_wrong hT hP1.2.2.1 ?_)
      intro M2 h31 hL
      refine J_zret hx hr dX7_readAll_42 (by omega) ?_
      rw [rdZ_s, if_neg (fun q9 => q9 hR1), if_neg (by omega), if_pos (by omega)] at hQ0
      exact hQ0 (show ((_ : Nat) : Int) ≠ -1 by omega) M2 h31 (hF1.tr (FrV.w (FrW.f hL)))
termination_by k
decreasing_by all_goals omega

set_option maxHeartbeats 4000000 in
theorem c_X7_readAll {g : WG} {d : Nat} {T : TT} {M : MM} {r sz z : Nat} {B : Nat → Int} {A : YA} {Q : MVal → TT → MM → Nat → Prop} (hT : MT T r) (hE : RPE M r z B) (hY : MN M r A) (hWA : WFY A) (hQ1 : (rdZ B z 250 1 A (tkN B z 0)).1 = -1 → ∀ M', MN M' r (rdZ B z 250 1 A (tkN B z 0)).2.1 → M' r 33 = (((rdZ B z 250 1 A (tkN B z 0)).2.2 : Nat) : Int) → FrV r M M' → Q (vI 1) T M' sz) (hQ0 : (rdZ B z 250 1 A (tkN B z 0)).1 ≠ -1 → ∀ M', M' r 31 = (rdZ B z 250 1 A (tkN B z 0)).1 → FrV r M M' → Q (vI 0) T M' sz) : Ct g (d + 7) mX7_readAll [vR (r)] T M sz 0 0 Q := by
  refine Ct_of2 (ls := [vR (r)]) okX7_readAll rfl (Nat.le_of_ble_eq_true rfl) rfl ?_
  intro x hx hr hnm
  refine J_aload_n hx dX7_readAll_0 (i := 0) rfl rfl ?_
  refine J_iconst (v := 1) hx dX7_readAll_1 (by decide) ?_
  refine J_putI hx fl_X7_244 cl_X7 dX7_readAll_2 hT.o (by decide) rfl (Or.inl rfl) (by decide) ?_
  generalize eM1 : up2 M r 33 1 = M1
  have hM1a : M1 r 33 = 1 := by rw [← eM1]; exact up2_at
  have hM1o : ∀ b9 j9, (b9 ≠ r ∨ j9 ≠ 33) → M1 b9 j9 = M b9 j9 := fun b9 j9 h9 => by rw [← eM1]; exact up2_ne h9
  have hM1r : ∀ b9, b9 ≠ r → M1 b9 = M b9 := fun b9 h9 => by rw [← eM1]; exact up2_row h9
  refine J_aload_n hx dX7_readAll_5 (i := 0) rfl rfl ?_
  refine J_iconst (v := 0) hx dX7_readAll_6 (by decide) ?_
  refine J_putI hx fl_X7_166 cl_X7 dX7_readAll_7 hT.o (by decide) rfl (Or.inl rfl) (by decide) ?_
  generalize eM2 : up2 M1 r 27 0 = M2
  have hM2a : M2 r 27 = 0 := by rw [← eM2]; exact up2_at
  have hM2o : ∀ b9 j9, (b9 ≠ r ∨ j9 ≠ 27) → M2 b9 j9 = M1 b9 j9 := fun b9 j9 h9 => by rw [← eM2]; exact up2_ne h9
  have hM2r : ∀ b9, b9 ≠ r → M2 b9 = M1 b9 := fun b9 h9 => by rw [← eM2]; exact up2_row h9
  have hV2 : FrV r M M2 := fun a9 j9 h8 h9 => by rw [hM2o _ _ (by omega), hM1o _ _ (by omega)]
  have hE2 : RPE M2 r z B := hE.v hV2
  refine J_aload_n hx dX7_readAll_10 (i := 0) rfl rfl ?_
  refine J_invVv (As := []) (st := []) hx lk_X7_201 okX7_look dX7_readAll_11 hT.o (by decide) rfl rfl rfl (Nat.le_of_ble_eq_true rfl) (Nat.zero_add _).symm (Nat.zero_add _).symm rfl (c_X7_look hT hE2 (e := 0) (Nat.zero_le z) hM2a ?_)
  intro M3 hP3 hL
  have hnw := tkN_wf B (e := 0) (Nat.zero_le z)
  have hY3 : MN M3 r A := (hY.same (fun a9 j9 h9 => by rw [hM2o _ _ (by omega), hM1o _ _ (by omega)]) : MN M2 r A).l hL
  refine J_aload_n hx dX7_readAll_14 (i := 0) rfl rfl ?_
  refine J_invV (As := []) (st := []) hx lk_X7_247 okX7_statement dX7_readAll_15 hT.o (by decide) rfl rfl rfl (Nat.le_of_ble_eq_true rfl) (Nat.zero_add _).symm (Nat.zero_add _).symm rfl (c_X7_statement hT (hE2.l hL) hnw.1 hP3 hY3 hWA (fun hR2 M4 hY4 hP4 hF4 => ?_) (fun hR2 M4 h31 hF4 => ?_))
  · refine J_if_ne (tgt := 23) hx dX7_readAll_18 (by decide) (fun _ => ?_) (fun c9 => absurd c9 (by decide))
    exact lp_X7_readAll hT hx hr 249 1 M4 (by omega) hR2 hWA hnw.1 hY4 hP4 ((hE2.l hL).w hF4) (by rw [hF4 _ _ (by omega) (by omega), hL _ _ (by omega), hM2o _ _ (Or.inr (by decide))]; exact hM1a) (by omega) (hV2.tr (FrV.w ((FrW.l hL).tr hF4))) hQ1 hQ0
  · refine J_if_ne (tgt := 23) hx dX7_readAll_18 (by decide) (fun c9 => absurd c9 (by decide)) (fun _ => ?_)
    refine J_iconst (v := 0) hx dX7_readAll_21 (by decide) ?_
    refine J_zret hx hr dX7_readAll_22 (by omega) ?_
    rw [rdZ_s, if_pos hR2] at hQ0
    exact hQ0 hR2 M4 h31 (hV2.tr (FrV.w ((FrW.l hL).tr hF4)))

set_option maxHeartbeats 4000000 in
theorem c_X7_yard {g : WG} {d : Nat} {T : TT} {M : MM} {r sz : Nat} {S : ST} {Q : MVal → TT → MM → Nat → Prop} (hX : RX T M r sz S) (hW : WFS S) (hQ : RQX r T M sz Q (a_yard S)) : Ct g (d + 8) mX7_yard [vR (r)] T M sz 29 777 Q := by
  refine Ct_of2 (ls := [vR (r), vU, vU]) okX7_yard rfl (Nat.le_of_ble_eq_true rfl) rfl ?_
  intro x hx hr hnm
  have hT := hX.t
  have hN := hX.n
  have hn8 := hW.y.n8
  have ht2 := hW.y.tn2
  have hl8 := hW.y.len8 ht2
  refine J_aload_n hx dX7_yard_0 (i := 0) rfl rfl ?_
  refine J_invV (As := []) (st := []) hx lk_X7_250 okX7_fresh dX7_yard_1 hX.t.o (by decide) rfl rfl rfl (Nat.le_of_ble_eq_true rfl) (Nat.add_zero _).symm (Nat.add_zero _).symm rfl (c_X7_fresh hX hW ?_)
  intro T1 M1 sz1 t hX1 hTr hY1 hlo
  refine J_astore_n (lsn := [vR (r), vR (t), vU]) hx dX7_yard_4 (i := 1) rfl (Nat.le_of_ble_eq_true rfl) rfl rfl ?_
  refine J_aload_n hx dX7_yard_5 (i := 0) rfl rfl ?_
  have hE1 : RPE M1 r S.tp.1 S.tp.2 := ⟨hX1.n.tz, hW.t, fun j9 h9 => ⟨hX1.n.tb h9, hW.b h9⟩⟩
  have hrg := rdZ_wf (B := S.tp.2) hW.t 250 1 hW.y (tkN_wf S.tp.2 (e := 0) (Nat.zero_le _)).1
  have htr := hTr.2.2.1
  refine J_invV (As := []) (st := []) hx lk_X7_254 okX7_readAll dX7_yard_6 hX1.t.o (by decide) rfl rfl rfl (Nat.le_of_ble_eq_true rfl) (Nat.zero_add _).symm (Nat.zero_add _).symm rfl (c_X7_readAll hX1.t hE1 hX1.n.y hW.y (fun eZ M2 hY2 h33 hV2 => ?_) (fun eZ M2 h31 hV2 => ?_))
  · refine J_istore_n (lsn := [vR (r), vR (t), vI (1)]) hx dX7_yard_9 (i := 2) rfl (Nat.le_of_ble_eq_true rfl) rfl rfl ?_
    refine J_aload_n hx dX7_yard_10 (i := 0) rfl rfl ?_
    refine J_iconst (v := 0) hx dX7_yard_11 (by decide) ?_
    refine J_putI hx fl_X7_163 cl_X7 dX7_yard_12 hX1.t.o (by decide) rfl (Or.inl rfl) (by decide) ?_
    generalize eM3 : up2 M2 r 7 0 = M3
    have hM3a : M3 r 7 = 0 := by rw [← eM3]; exact up2_at
    have hM3o : ∀ b9 j9, (b9 ≠ r ∨ j9 ≠ 7) → M3 b9 j9 = M2 b9 j9 := fun b9 j9 h9 => by rw [← eM3]; exact up2_ne h9
    have hM3r : ∀ b9, b9 ≠ r → M3 b9 = M2 b9 := fun b9 h9 => by rw [← eM3]; exact up2_row h9
    have hf3 : ∀ b, (b < r ∨ r + 29 ≤ b) → M3 b = M1 b := fun b9 h9 => funext fun j9 => by rw [hM3o _ _ (Or.inl (by omega)), hV2 _ _ (by omega) (by omega)]
    refine J_iload_n hx dX7_yard_15 (i := 2) rfl rfl ?_
    refine J_if_ne (tgt := 39) hx dX7_yard_16 (by decide) (fun _ => ?_) (fun c9 => absurd c9 (by decide))
    refine J_aload_n hx dX7_yard_39 (i := 0) rfl rfl ?_
    refine J_getI2 (v := (((rdZ S.tp.2 S.tp.1 250 1 S.1 (tkN S.tp.2 S.tp.1 0)).2.2 : Nat) : Int)) hx fl_X7_244 cl_X7 dX7_yard_40 hX1.t.o (by decide) rfl (by rw [hM3o _ _ (Or.inr (by decide))]; exact h33) ?_
    refine J_iret hx hr dX7_yard_43 ?_
    exact hQ.to (v := (((rdZ S.tp.2 S.tp.1 250 1 S.1 (tkN S.tp.2 S.tp.1 0)).2.2 : Nat) : Int)) (S := yS (tpS S (0, S.tp.2)) (rdZ S.tp.2 S.tp.1 250 1 S.1 (tkN S.tp.2 S.tp.1 0)).2.1) (by unfold a_yard; rw [if_neg (fun q9 => q9 eZ)]) (hX1.rq rfl (hX1.n.told (hY2.same (fun a9 j9 h9 => hM3o _ _ (by omega))) hM3a (fun a9 j9 h8 h9 => by rw [hM3o _ _ (by omega), hV2 _ _ (by omega) (by omega)])) hf3) (fun b9 h9 => ⟨(hlo b9 h9).1, by rw [hf3 b9 (Or.inl h9)]; exact (hlo b9 h9).2⟩)
  · refine J_istore_n (lsn := [vR (r), vR (t), vI (0)]) hx dX7_yard_9 (i := 2) rfl (Nat.le_of_ble_eq_true rfl) rfl rfl ?_
    refine J_aload_n hx dX7_yard_10 (i := 0) rfl rfl ?_
    refine J_iconst (v := 0) hx dX7_yard_11 (by decide) ?_
    refine J_putI hx fl_X7_163 cl_X7 dX7_yard_12 hX1.t.o (by decide) rfl (Or.inl rfl) (by decide) ?_
    generalize eM3 : up2 M2 r 7 0 = M3
    have hM3a : M3 r 7 = 0 := by rw [← eM3]; exact up2_at
    have hM3o : ∀ b9 j9, (b9 ≠ r ∨ j9 ≠ 7) → M3 b9 j9 = M2 b9 j9 := fun b9 j9 h9 => by rw [← eM3]; exact up2_ne h9
    have hM3r : ∀ b9, b9 ≠ r → M3 b9 = M2 b9 := fun b9 h9 => by rw [← eM3]; exact up2_row h9
    have hf3 : ∀ b, (b < r ∨ r + 29 ≤ b) → M3 b = M1 b := fun b9 h9 => funext fun j9 => by rw [hM3o _ _ (Or.inl (by omega)), hV2 _ _ (by omega) (by omega)]
    refine J_iload_n hx dX7_yard_15 (i := 2) rfl rfl ?_
    refine J_if_ne (tgt := 39) hx dX7_yard_16 (by decide) (fun c9 => absurd c9 (by decide)) (fun _ => ?_)
    refine J_aload_n hx dX7_yard_19 (i := 0) rfl rfl ?_
    refine J_aload_n hx dX7_yard_20 (i := 1) rfl rfl ?_
    refine J_invVv (As := [vR (t)]) (st := []) hx lk_X7_257 okX7_takeFrom dX7_yard_21 hX1.t.o (by decide) rfl rfl rfl (Nat.le_of_ble_eq_true rfl) (Nat.zero_add _).symm (Nat.zero_add _).symm rfl (c_X7_takeFrom hX1.t hTr.2.1 (hY1.far (c := r) (fun q9 h9 => hf3 q9 h9) (by unfold ap; omega)) hW.y (by omega) ?_)
    intro M4 hY4 hF4
    have hN4 : RN M4 r (tpS S (0, S.tp.2)) := hX1.n.told hY4 (by rw [hF4 _ _ (by omega) (by omega)]; exact hM3a) (fun a9 j9 h8 h9 => by rw [hF4 _ _ (by omega) (by omega), hM3o _ _ (by omega), hV2 _ _ (by omega) (by omega)])
    have hb := hN4.rf (j := 0) (by decide)
    have hb2 := hW.r (j := 0) (by decide)
    replace hb : M4 (r + 16) 2 = S.rf 0 := hb
    refine J_aload_n hx dX7_yard_24 (i := 0) rfl rfl ?_
    refine J_bipush (v := -2) hx dX7_yard_25 (by decide) ?_
    refine J_invV (As := [vI ((-2))]) (st := []) hx lk_X7_99 okX7_refuse dX7_yard_27 hX1.t.o (by decide) rfl rfl rfl (Nat.le_of_ble_eq_true rfl) (Nat.zero_add _).symm (Nat.zero_add _).symm rfl (c_X7_refuse hX1.t (k := 2) (by decide) (by omega) ?_)
    refine J_pop hx dX7_yard_30 rfl ?_
    refine J_bipush (v := -20) hx dX7_yard_31 (by decide) ?_
    refine J_aload_n hx dX7_yard_33 (i := 0) rfl rfl ?_
    refine J_getI2 (v := (rdZ S.tp.2 S.tp.1 250 1 S.1 (tkN S.tp.2 S.tp.1 0)).1) hx fl_X7_184 cl_X7 dX7_yard_34 hX1.t.o (by decide) rfl (by rw [up2_row (by omega), hF4 _ _ (by omega) (by omega), hM3o _ _ (Or.inr (by decide))]; exact h31) ?_
    refine J_isub (v := (-20) - ((rdZ S.tp.2 S.tp.1 250 1 S.1 (tkN S.tp.2 S.tp.1 0)).1)) hx dX7_yard_37 (w32_id (by omega) (by omega)) ?_
    refine J_iret hx hr dX7_yard_38 ?_
    exact hQ.to (v := -20 - (rdZ S.tp.2 S.tp.1 250 1 S.1 (tkN S.tp.2 S.tp.1 0)).1) (S := rfS (tpS S (0, S.tp.2)) 0) (by unfold a_yard; rw [if_pos eZ]) (hX1.rq rfl (hN4.refuse (k := 0) (by decide)) (fun b9 h9 => by rw [up2_row (by omega), hF4.out (by omega)]; exact hf3 b9 h9)) (fun b9 h9 => ⟨(hlo b9 h9).1, by rw [up2_row (by omega), hF4.out (by omega), hf3 b9 (Or.inl h9)]; exact (hlo b9 h9).2⟩)

