theorem YT.nl {T : TT} {r c : Nat} (h : YT T r) (hc : c < 2) : (T (r + 8 + c)).2.1 = 8 := (h.2.2.2.2.2.2.1 c hc).2
theorem CQ.go {o : Nat} {T T' : TT} {M M' : MM} {sz : Nat} {Q : MVal → TT → MM → Nat → Prop} {a : Int × ST} {v : Int} {S : ST} (h : CQ o T M sz Q a) (e : a = (v, S)) (hC : CT T' o) (hN : CN M' o S) (hF : ∀ b, (b < o ∨ o + 83 ≤ b) → T' b = T b ∧ M' b = M b) : Q (vI v) T' M' sz := by subst e; exact h T' M' hC hN hF
theorem stdY_2 {A : YA} {c : Nat} (h : 2 ≤ (A.ch c).length) : stdY A c = srch A c (A.ch c).length [] (-1, A.ch c) := by unfold stdY; rw [if_neg (by omega)]
theorem stdY_1 {A : YA} {c : Nat} (h : (A.ch c).length < 2) : stdY A c = (0, A.ch c) := by unfold stdY; rw [if_pos h]
def SKn (M : MM) (r n : Nat) (pre : List Nat) (σ : SG) : Prop := M r 36 = σ.1 ∧ (∀ j, j < pre.length → M (r + 27) j = ((pre.getD j 0 : Nat) : Int)) ∧ (σ.1 ≠ -1 → ∀ j, j < n → M (r + 28) j = ((σ.2.getD j 0 : Nat) : Int))
def FrS (r : Nat) (M M' : MM) : Prop := ∀ q j, ¬ (q = r + 27 ∨ q = r + 28) → ¬ (q = r ∧ j = 36) → M' q j = M q j
theorem FrS.tr {r : Nat} {M M1 M2 : MM} (h : FrS r M M1) (h2 : FrS r M1 M2) : FrS r M M2 := fun q j h3 h4 => (h2 q j h3 h4).trans (h q j h3 h4)
theorem FrS.mn {r : Nat} {M M' : MM} {A : YA} (h : FrS r M M') (hN : MN M r A) : MN M' r A := hN.same (fun a j ha => h a j (by omega) (by omega))
theorem FrS.rn {r : Nat} {M M' : MM} {S : ST} (h : FrS r M M') (hN : RN M r S) : RN M' r S := hN.scr (fun q j h1 h2 => h q j h1 (by omega))
def SKc (g : WG) (d k r c sz : Nat) (T : TT) (A : YA) : Prop := ∀ (M : MM) (pre : List Nat) (u : Int) (σ : SG) (Q : MVal → TT → MM → Nat → Prop), MN M r A → seenL u pre → SKn M r (A.ch c).length pre σ → inC A c pre → okG A c σ → pre.length + k = (A.ch c).length → (∀ M', SKn M' r (A.ch c).length pre (srch A c k pre σ) → FrS r M M' → Q vU T M' sz) → Ct g d mX7_seekStand [vR r, vI ((c : Nat) : Int), vI ((pre.length : Nat) : Int), vI u] T M sz 0 0 Q
set_option maxHeartbeats 4000000 in
theorem lp_X1_findBest {g : WG} {d : Nat} {T : TT} {M : MM} {o sz c nc ns : Nat} (hC : CT T o) {x : CX} (hx : OKx g x RX1 cX1_findBest (d + 1)) (hK : ∀ (M9 : MM) (u : MVal), (∀ j, j < 8 → M9 (o + 62) j = 0) → (∀ b, b ≠ o + 62 → M9 b = M b) → Jd g x 76 [vR (o + 59), vR (o + 1), vI ((c : Nat) : Int), u] [] T M9 sz nc ns) (k : Nat) (M1 : MM) (hk : k ≤ 8) (h0 : ∀ j, j < k → M1 (o + 62) j = 0) (ho1 : ∀ b, b ≠ o + 62 → M1 b = M b) : Jd g x 57 [vR (o + 59), vR (o + 1), vI (((c : Nat) : Int)), vI (((k : Nat) : Int))] [] T M1 sz nc ns := by
  refine J_iload_n hx dX1_findBest_57 (i := 3) rfl rfl ?_
  refine J_bipush (v := 8) hx dX1_findBest_58 (by decide) ?_
  refine J_icmp_ge (tgt := 76) hx dX1_findBest_60 (by decide) (fun c1 => ?_) (fun c1 => ?_)
  · have ek : k = 8 := by omega
    subst ek
    exact hK M1 _ h0 ho1
  · refine J_aload_n hx dX1_findBest_63 (i := 0) rfl rfl ?_
    refine J_getR (b := o + 62) hx fl_X1_18 cl_X1 dX1_findBest_64 hC.k59 (by decide) rfl hC.f2 ?_
    refine J_iload_n hx dX1_findBest_67 (i := 3) rfl rfl ?_
    refine J_iconst (v := 0) hx dX1_findBest_68 (by decide) ?_
    refine J_zast hx k dX1_findBest_69 hC.k62 (by omega) (by rw [hC.n62]; omega) (by omega) ?_
    generalize eM2 : up2 M1 (o + 62) k 0 = M2
    have hM2a : M2 (o + 62) k = 0 := by rw [← eM2]; exact up2_at
    have hM2o : ∀ b9 j9, (b9 ≠ o + 62 ∨ j9 ≠ k) → M2 b9 j9 = M1 b9 j9 := fun b9 j9 h9 => by rw [← eM2]; exact up2_ne h9
    have hM2r : ∀ b9, b9 ≠ o + 62 → M2 b9 = M1 b9 := fun b9 h9 => by rw [← eM2]; exact up2_row h9
    refine J_iinc (v := ((k : Nat) : Int) + 1) (lsn := [vR (o + 59), vR (o + 1), vI (((c : Nat) : Int)), vI (((k : Nat) : Int) + 1)]) hx dX1_findBest_70 rfl (jinc1 (by omega) (by omega)) rfl rfl ?_
    refine J_goto (tgt := 57) hx dX1_findBest_73 (by decide) ?_
    exact lp_X1_findBest hC hx hK (k + 1) M2 (by omega) (fun j9 h9 => by
        by_cases e : j9 = k
        · subst e; exact hM2a
        · rw [hM2o _ _ (Or.inr e)]; exact h0 j9 (by omega)) (fun b9 h9 => by rw [hM2r _ h9]; exact ho1 b9 h9)
termination_by 8 - k
decreasing_by all_goals omega

set_option maxHeartbeats 4000000 in
theorem c_X1_findBest {g : WG} {d : Nat} {T : TT} {M : MM} {o sz : Nat} {S : ST} {Q : MVal → TT → MM → Nat → Prop} (hC : CT T o) (hN : CN M o S) (hW : WFS S) {c : Nat} (hc : c < 2) (h7 : (S.1.ch c).length ≤ 7) (hQ : ∀ T' M', CT T' o → CN M' o S → (∀ j, j < (S.1.ch c).length → M' (o + 60) j = (((stdY S.1 c).2.getD j 0 : Nat) : Int)) → (∀ b, (b < o ∨ o + 83 ≤ b) → T' b = T b ∧ M' b = M b) → Q (vI (stdY S.1 c).1) T' M' sz) : Ct g (d + 11) mX1_findBest [vR (o + 59), vR (o + 1), vI (((c : Nat) : Int))] T M sz 0 0 Q := by
  refine Ct_of2 (ls := [vR (o + 59), vR (o + 1), vI (((c : Nat) : Int)), vU]) okX1_findBest rfl (Nat.le_of_ble_eq_true rfl) rfl ?_
  intro x hx hr hnm
  refine J_aload_n hx dX1_findBest_0 (i := 1) rfl rfl ?_
  refine J_getR (b := o + 1 + 7) hx fl_X1_22 cl_X5 dX1_findBest_1 hC.y0.o (by decide) rfl hC.y0.r6 ?_
  refine J_iload_n hx dX1_findBest_4 (i := 2) rfl rfl ?_
  refine J_aald (b := o + 1 + 8 + c) hx c dX1_findBest_5 hC.y0.k7 (by decide) (by omega) (hC.y0.l7 (by omega)) (hC.y0.f7 (by omega)) ?_
  refine J_iconst (v := 0) hx dX1_findBest_6 (by decide) ?_
  refine J_aload_n hx dX1_findBest_7 (i := 0) rfl rfl ?_
  refine J_getR (b := o + 60) hx fl_X1_9 cl_X1 dX1_findBest_8 hC.k59 (by decide) rfl hC.f0 ?_
  refine J_iconst (v := 0) hx dX1_findBest_11 (by decide) ?_
  refine J_bipush (v := 8) hx dX1_findBest_12 (by decide) ?_
  refine J_copyI hx 0 0 8 lk_X1_28 dX1_findBest_14 (hC.y0.kl hc) hC.k60 rfl rfl rfl (by rw [hC.y0.nl hc]; decide) (by rw [hC.n60]; decide) (Nat.le_of_ble_eq_true rfl) ?_
  have hA1 : ∀ j, j < 8 → cpM M (o + 1 + 8 + c) (o + 60) 0 0 8 (o + 60) j = M (o + 1 + 8 + c) j := fun j9 h9 => by rw [cpM_at (by omega)]; rw [show 0 + (j9 - 0) = j9 by omega]
  have hR1 : ∀ b, b ≠ o + 60 → cpM M (o + 1 + 8 + c) (o + 60) 0 0 8 b = M b := fun b9 h9 => cpM_row h9
  generalize cpM M (o + 1 + 8 + c) (o + 60) 0 0 8 = M1 at hA1 hR1 ⊢
  have hY1 : YN M1 (o + 1) S.1 := hN.y.same (fun a9 h8 h9 => hR1 a9 (by omega))
  refine J_aload_n hx dX1_findBest_17 (i := 1) rfl rfl ?_
  refine J_getR (b := o + 1 + 10) hx fl_X1_34 cl_X5 dX1_findBest_18 hC.y0.o (by decide) rfl hC.y0.r7 ?_
  refine J_iload_n hx dX1_findBest_21 (i := 2) rfl rfl ?_
  refine J_iald2 (v := (((S.1.ch c).length : Nat) : Int)) hx c dX1_findBest_22 hC.y0.k10 (by omega) (hC.y0.l10 (by omega)) (hY1.sz hc) ?_
  refine J_iconst (v := 2) hx dX1_findBest_23 (by decide) ?_
  refine J_icmp_lt (tgt := 38) hx dX1_findBest_24 (by decide) (fun c1 => ?_) (fun c1 => ?_)
  · refine J_iconst (v := 0) hx dX1_findBest_38 (by decide) ?_
    refine J_iret hx hr dX1_findBest_39 ?_
    first
    | (exfalso; omega)
    | (rw [stdY_1 (by omega)] at hQ
       exact hQ T M1 hC (hN.same (fun a9 h9 => hR1 a9 (by omega)) (by rw [hR1 o (by omega)]) (by rw [hR1 _ (by omega)])) (fun j9 h9 => by rw [hA1 j9 (by omega)]; exact hN.y.ln hc h9) (fun b9 h9 => ⟨rfl, hR1 b9 (by omega)⟩))
  · refine J_aload_n hx dX1_findBest_27 (i := 1) rfl rfl ?_
    refine J_getR (b := o + 1 + 10) hx fl_X1_34 cl_X5 dX1_findBest_28 hC.y0.o (by decide) rfl hC.y0.r7 ?_
    refine J_iload_n hx dX1_findBest_31 (i := 2) rfl rfl ?_
    refine J_iald2 (v := (((S.1.ch c).length : Nat) : Int)) hx c dX1_findBest_32 hC.y0.k10 (by omega) (hC.y0.l10 (by omega)) (hY1.sz hc) ?_
    refine J_bipush (v := 7) hx dX1_findBest_33 (by decide) ?_
    refine J_icmp_le (tgt := 40) hx dX1_findBest_35 (by decide) (fun c2 => ?_) (fun c2 => ?_)
    · refine J_aload_n hx dX1_findBest_40 (i := 0) rfl rfl ?_
      refine J_aload_n hx dX1_findBest_41 (i := 1) rfl rfl ?_
      refine J_putR hx fl_X1_37 cl_X1 dX1_findBest_42 hC.k59 (by decide) rfl ⟨rfl, rfl⟩ (by decide) ?_
      have hC1 := hC.up59 (v := some (o + 1))
      have hy3 : (upT T (o + 59) 3 (some (o + 1)) (o + 59)).2.2 3 = some (o + 1) := upT_r_at
      have hT1 : ∀ b, b ≠ o + 59 → upT T (o + 59) 3 (some (o + 1)) b = T b := fun b9 h9 => upT_ne h9
      generalize upT T (o + 59) 3 (some (o + 1)) = T1 at hC1 hy3 hT1 ⊢
      have hC := hC1
      refine J_aload_n hx dX1_findBest_45 (i := 0) rfl rfl ?_
      refine J_iload_n hx dX1_findBest_46 (i := 2) rfl rfl ?_
      refine J_putI hx fl_X1_41 cl_X1 dX1_findBest_47 hC.k59 (by decide) rfl (Or.inl rfl) (by decide) ?_
      generalize eM2 : up2 M1 (o + 59) 4 ((c : Nat) : Int) = M2
      have hM2a : M2 (o + 59) 4 = ((c : Nat) : Int) := by rw [← eM2]; exact up2_at
      have hM2o : ∀ b9 j9, (b9 ≠ o + 59 ∨ j9 ≠ 4) → M2 b9 j9 = M1 b9 j9 := fun b9 j9 h9 => by rw [← eM2]; exact up2_ne h9
      have hM2r : ∀ b9, b9 ≠ o + 59 → M2 b9 = M1 b9 := fun b9 h9 => by rw [← eM2]; exact up2_row h9
      refine J_aload_n hx dX1_findBest_50 (i := 0) rfl rfl ?_
      refine J_iconst (v := -1) hx dX1_findBest_51 (by decide) ?_
      refine J_putI hx fl_X1_45 cl_X1 dX1_findBest_52 hC.k59 (by decide) rfl (Or.inl rfl) (by decide) ?_
      generalize eM3 : up2 M2 (o + 59) 5 (-1) = M3
      have hM3a : M3 (o + 59) 5 = (-1) := by rw [← eM3]; exact up2_at
      have hM3o : ∀ b9 j9, (b9 ≠ o + 59 ∨ j9 ≠ 5) → M3 b9 j9 = M2 b9 j9 := fun b9 j9 h9 => by rw [← eM3]; exact up2_ne h9
      have hM3r : ∀ b9, b9 ≠ o + 59 → M3 b9 = M2 b9 := fun b9 h9 => by rw [← eM3]; exact up2_row h9
      refine J_iconst (v := 0) hx dX1_findBest_55 (by decide) ?_
      refine J_istore_n (lsn := [vR (o + 59), vR (o + 1), vI (((c : Nat) : Int)), vI (0)]) hx dX1_findBest_56 (i := 3) rfl (Nat.le_of_ble_eq_true rfl) rfl rfl ?_
      refine lp_X1_findBest hC hx (fun M4 u4 h40 h4o => ?_) 0 M3 (by omega) (fun j h => absurd h (Nat.not_lt_zero j)) (fun _ _ => rfl)
      have hY4 : YN M4 (o + 1) S.1 := hY1.same (fun a9 h8 h9 => by rw [h4o a9 (by omega), hM3r a9 (by omega), hM2r a9 (by omega)])
      have hO0 : ORn M4 o c (S.1.ch c).length [] (-1, S.1.ch c) := ⟨by rw [h4o _ (by omega), hM3o _ _ (Or.inr (by decide)), hM2a], by rw [h4o _ (by omega), hM3a], fun j9 h9 => absurd h9 (Nat.not_lt_zero j9), fun q9 h9 => h40 q9 h9, fun j9 h9 => by rw [h4o _ (by omega), hM3r _ (by omega), hM2r _ (by omega), hA1 j9 (by omega)]; exact hN.y.ln hc h9⟩
      have h2 : 2 ≤ (S.1.ch c).length := by omega
      have hx9 := hx
      rw [show d + 11 = (d + 10) + 1 from rfl, show d + 10 = (d + 7 - (S.1.ch c).length) + (S.1.ch c).length + 3 by omega] at hx9
      have hff := ff_all (g := g) (sz := sz) hC hy3 hW.y hc h2 (S.1.ch c).length (d + 7 - (S.1.ch c).length)
      refine J_aload_n hx dX1_findBest_76 (i := 0) rfl rfl ?_
      refine J_iconst (v := 0) hx dX1_findBest_77 (by decide) ?_
      refine J_ldc (v := 1000000000) hx ct_X1_48 dX1_findBest_78 (by decide) ?_
      refine J_invVv (As := [vI 0, vI 1000000000]) (st := []) hx9 lk_X1_49 okX1_fillFrom dX1_findBest_80 hC.k59 (by decide) rfl rfl rfl (Nat.le_of_ble_eq_true rfl) (Nat.zero_add _).symm (Nat.zero_add _).symm rfl (hff M4 [] (-1, S.1.ch c) _ hY4 hO0 ⟨List.nodup_nil, fun q9 h9 => by cases h9⟩ ⟨List.Perm.refl _, Int.le_refl _, (show (-1 : Int) ≤ 71 by decide)⟩ (by simp) (show (-1 : Int) < 1000000000 by decide) ?_)
      intro M5 hO4 hF5
      rw [← stdY_2 h2] at hO4
      refine J_aload_n hx dX1_findBest_83 (i := 0) rfl rfl ?_
      refine J_getI2 (v := (stdY S.1 c).1) hx fl_X1_45 cl_X1 dX1_findBest_84 hC.k59 (by decide) rfl hO4.2.1 ?_
      refine J_iret hx hr dX1_findBest_87 ?_
      exact hQ T1 M5 hC (hN.same (fun a9 h9 => by rw [hF5 a9 (by omega), h4o a9 (by omega), hM3r a9 (by omega), hM2r a9 (by omega), hR1 a9 (by omega)]) (by rw [hF5 o (by omega), h4o o (by omega), hM3r o (by omega), hM2r o (by omega), hR1 o (by omega)]) (by rw [hF5 _ (by omega), h4o _ (by omega), hM3r _ (by omega), hM2r _ (by omega), hR1 _ (by omega)])) hO4.2.2.2.2 (fun b9 h9 => ⟨hT1 b9 (by omega), by rw [hF5 b9 (by omega), h4o b9 (by omega), hM3r b9 (by omega), hM2r b9 (by omega), hR1 b9 (by omega)]⟩)
    · refine J_iconst (v := 0) hx dX1_findBest_38 (by decide) ?_
      refine J_iret hx hr dX1_findBest_39 ?_
      first
      | (exfalso; omega)
      | (rw [stdY_1 (by omega)] at hQ
         exact hQ T M1 hC (hN.same (fun a9 h9 => hR1 a9 (by omega)) (by rw [hR1 o (by omega)]) (by rw [hR1 _ (by omega)])) (fun j9 h9 => by rw [hA1 j9 (by omega)]; exact hN.y.ln hc h9) (fun b9 h9 => ⟨rfl, hR1 b9 (by omega)⟩))

set_option maxHeartbeats 4000000 in
theorem c_X6_stand {g : WG} {d : Nat} {T : TT} {M : MM} {o sz : Nat} {S : ST} {Q : MVal → TT → MM → Nat → Prop} (hC : CT T o) (hN : CN M o S) (hW : WFS S) {c i : Int} (h_c : -2147483648 ≤ c ∧ c ≤ 2147483647) (h_i : -2147483648 ≤ i ∧ i ≤ 2147483647) (hQ : CQ o T M sz Q (a_stand S c i)) : Ct g (d + 12) mX6_stand [vR (o), vI (c), vI (i)] T M sz 0 0 Q := by
  refine Ct_of2 (ls := [vR (o), vI (c), vI (i), vU]) okX6_stand rfl (Nat.le_of_ble_eq_true rfl) rfl ?_
  intro x hx hr hnm
  refine J_iload_n hx dX6_stand_0 (i := 1) rfl rfl ?_
  refine J_invS (As := [vI (c)]) (st := []) hx lk_X6_132 okX6_isChain dX6_stand_1 rfl rfl (Nat.le_of_ble_eq_true rfl) (Nat.zero_add _).symm (Nat.zero_add _).symm rfl (c_X6_isChain (a := c) ?_)
  intro v1 hv1
  refine J_if_eq (tgt := 24) hx dX6_stand_4 (by decide) (fun c2 => ?_) (fun c2 => ?_)
  · refine J_aload_n hx dX6_stand_24 (i := 0) rfl rfl ?_
    refine J_bipush (v := -2) hx dX6_stand_25 (by decide) ?_
    refine J_invV (As := [vI ((-2))]) (st := []) hx lk_X6_67 okX6_refuse dX6_stand_27 hC.o (by decide) rfl rfl rfl (Nat.le_of_ble_eq_true rfl) (Nat.zero_add _).symm (Nat.zero_add _).symm rfl (c_X6_refuse hC hN hW (k := 0) (by decide) ?_)
    intro M1 hN1 hf1
    refine J_iret hx hr dX6_stand_30 ?_
    exact hQ.to (v := -((0 + 2 : Nat) : Int)) (S := rfS S 0) (by
      unfold a_stand
      all_goals (try unfold overY at *)
      all_goals (try unfold mayQ at *)
      all_goals (try simp only [Int.toNat_natCast] at *)
      all_goals ((repeat' split) <;> first | rfl | (exfalso; omega) | (congr 1; omega))) hC hN1 hf1
  · obtain ⟨cN, rfl⟩ : ∃ z : Nat, c = ((z : Nat) : Int) := ⟨c.toNat, by omega⟩
    have hl8 := hW.y.len8 (c := cN) (by omega)
    refine J_iload_n hx dX6_stand_7 (i := 2) rfl rfl ?_
    refine J_iconst (v := -1) hx dX6_stand_8 (by decide) ?_
    refine J_icmp_eq (tgt := 31) hx dX6_stand_9 (by decide) (fun c3 => ?_) (fun c3 => ?_)
    · refine J_aload_n hx dX6_stand_31 (i := 0) rfl rfl ?_
      refine J_getR (b := o + 1) hx fl_X6_10 cl_X6 dX6_stand_32 hC.o (by decide) rfl hC.r0 ?_
      refine J_getR (b := o + 1 + 10) hx fl_X6_199 cl_X5 dX6_stand_35 hC.y0.o (by decide) rfl hC.y0.r7 ?_
      refine J_iload_n hx dX6_stand_38 (i := 1) rfl rfl ?_
      refine J_iald2 (v := (((S.1.ch cN).length : Nat) : Int)) hx cN dX6_stand_39 hC.y0.k10 (by omega) (hC.y0.l10 (by omega)) (hN.y.sz (by omega)) ?_
      have rg4 := hW.y.len8 (c := cN) (by omega)
      have rg5 := hW.y.lenN (c := cN) (by omega)
      refine J_bipush (v := 7) hx dX6_stand_40 (by decide) ?_
      refine J_icmp_le (tgt := 52) hx dX6_stand_42 (by decide) (fun c6 => ?_) (fun c6 => ?_)
      · refine J_aload_n hx dX6_stand_52 (i := 0) rfl rfl ?_
        refine J_getR (b := o + 59) hx fl_X6_41 cl_X6 dX6_stand_53 hC.o (by decide) rfl hC.r5 ?_
        refine J_aload_n hx dX6_stand_56 (i := 0) rfl rfl ?_
        refine J_getR (b := o + 1) hx fl_X6_10 cl_X6 dX6_stand_57 hC.o (by decide) rfl hC.r0 ?_
        refine J_iload_n hx dX6_stand_60 (i := 1) rfl rfl ?_
        refine J_invV (As := [vR (o + 1), vI (((cN : Nat) : Int))]) (st := []) hx lk_X6_254 okX1_findBest dX6_stand_61 hC.k59 (by decide) rfl rfl rfl (Nat.le_of_ble_eq_true rfl) (Nat.zero_add _).symm (Nat.zero_add _).symm rfl (c_X1_findBest hC hN hW (c := cN) (by omega) (by omega) ?_)
        intro T1 M1 hC1 hN1 hfd hlo
        have hC := hC1
        have hsd := stdY_ok hW.y (c := cN) (by omega)
        refine J_istore_n (lsn := [vR (o), vI (((cN : Nat) : Int)), vI (i), vI ((stdY S.1 cN).1)]) hx dX6_stand_64 (i := 3) rfl (Nat.le_of_ble_eq_true rfl) rfl rfl ?_
        refine J_iload_n hx dX6_stand_65 (i := 2) rfl rfl ?_
        refine J_iconst (v := -1) hx dX6_stand_66 (by decide) ?_
        refine J_icmp_ne (tgt := 74) hx dX6_stand_67 (by decide) (fun c7 => ?_) (fun c7 => ?_)
        · obtain ⟨iN, rfl⟩ : ∃ z : Nat, i = ((z : Nat) : Int) := ⟨i.toNat, by omega⟩
          refine J_aload_n hx dX6_stand_74 (i := 0) rfl rfl ?_
          refine J_getR (b := o + 59) hx fl_X6_41 cl_X6 dX6_stand_75 hC.o (by decide) rfl hC.r5 ?_
          refine J_getR (b := o + 60) hx fl_X6_258 cl_X1 dX6_stand_78 hC.k59 (by decide) rfl hC.f0 ?_
          refine J_iload_n hx dX6_stand_81 (i := 2) rfl rfl ?_
          refine J_iald2 (v := (((stdY S.1 cN).2.getD iN 0 : Nat) : Int)) hx iN dX6_stand_82 hC.k60 (by omega) (by rw [hC.n60]; omega) (hfd _ (by omega)) ?_
          refine J_iret hx hr dX6_stand_83 ?_
          exact hQ.go (v := (((stdY S.1 cN).2.getD iN 0 : Nat) : Int)) (S := S) (by
            unfold a_stand
            all_goals (try unfold overY at *)
            all_goals (try unfold mayQ at *)
            all_goals (try simp only [Int.toNat_natCast] at *)
            all_goals ((repeat' split) <;> first | rfl | (exfalso; omega) | (congr 1; omega))) hC hN1 hlo
        · refine J_iload_n hx dX6_stand_70 (i := 3) rfl rfl ?_
          refine J_goto (tgt := 83) hx dX6_stand_71 (by decide) ?_
          refine J_iret hx hr dX6_stand_83 ?_
          exact hQ.go (v := (stdY S.1 cN).1) (S := S) (by
            unfold a_stand
            all_goals (try unfold overY at *)
            all_goals (try unfold mayQ at *)
            all_goals (try simp only [Int.toNat_natCast] at *)
            all_goals ((repeat' split) <;> first | rfl | (exfalso; omega) | (congr 1; omega))) hC hN1 hlo
      · refine J_aload_n hx dX6_stand_45 (i := 0) rfl rfl ?_
        refine J_bipush (v := -6) hx dX6_stand_46 (by decide) ?_
        refine J_invV (As := [vI ((-6))]) (st := []) hx lk_X6_67 okX6_refuse dX6_stand_48 hC.o (by decide) rfl rfl rfl (Nat.le_of_ble_eq_true rfl) (Nat.zero_add _).symm (Nat.zero_add _).symm rfl (c_X6_refuse hC hN hW (k := 4) (by decide) ?_)
        intro M1 hN1 hf1
        refine J_iret hx hr dX6_stand_51 ?_
        exact hQ.to (v := -((4 + 2 : Nat) : Int)) (S := rfS S 4) (by
          unfold a_stand
          all_goals (try unfold overY at *)
          all_goals (try unfold mayQ at *)
          all_goals (try simp only [Int.toNat_natCast] at *)
          all_goals ((repeat' split) <;> first | rfl | (exfalso; omega) | (congr 1; omega))) hC hN1 hf1
    · refine J_aload_n hx dX6_stand_12 (i := 0) rfl rfl ?_
      refine J_getR (b := o + 1) hx fl_X6_10 cl_X6 dX6_stand_13 hC.o (by decide) rfl hC.r0 ?_
      refine J_iload_n hx dX6_stand_16 (i := 1) rfl rfl ?_
      refine J_iload_n hx dX6_stand_17 (i := 2) rfl rfl ?_
      refine J_invV (As := [vI (((cN : Nat) : Int)), vI (i)]) (st := []) hx lk_X6_196 okX5_hasPlace dX6_stand_18 hC.y0.o (by decide) rfl rfl rfl (Nat.le_of_ble_eq_true rfl) (Nat.zero_add _).symm (Nat.zero_add _).symm rfl (c_X5_hasPlace hC.y0 hN.y hW.y (c := cN) (by omega) (k := i) ?_)
      intro v8 hv8
      refine J_if_ne (tgt := 31) hx dX6_stand_21 (by decide) (fun c9 => ?_) (fun c9 => ?_)
      · refine J_aload_n hx dX6_stand_31 (i := 0) rfl rfl ?_
        refine J_getR (b := o + 1) hx fl_X6_10 cl_X6 dX6_stand_32 hC.o (by decide) rfl hC.r0 ?_
        refine J_getR (b := o + 1 + 10) hx fl_X6_199 cl_X5 dX6_stand_35 hC.y0.o (by decide) rfl hC.y0.r7 ?_
        refine J_iload_n hx dX6_stand_38 (i := 1) rfl rfl ?_
        refine J_iald2 (v := (((S.1.ch cN).length : Nat) : Int)) hx cN dX6_stand_39 hC.y0.k10 (by omega) (hC.y0.l10 (by omega)) (hN.y.sz (by omega)) ?_
        have rg10 := hW.y.len8 (c := cN) (by omega)
        have rg11 := hW.y.lenN (c := cN) (by omega)
        refine J_bipush (v := 7) hx dX6_stand_40 (by decide) ?_
        refine J_icmp_le (tgt := 52) hx dX6_stand_42 (by decide) (fun c12 => ?_) (fun c12 => ?_)
        · refine J_aload_n hx dX6_stand_52 (i := 0) rfl rfl ?_
          refine J_getR (b := o + 59) hx fl_X6_41 cl_X6 dX6_stand_53 hC.o (by decide) rfl hC.r5 ?_
          refine J_aload_n hx dX6_stand_56 (i := 0) rfl rfl ?_
          refine J_getR (b := o + 1) hx fl_X6_10 cl_X6 dX6_stand_57 hC.o (by decide) rfl hC.r0 ?_
          refine J_iload_n hx dX6_stand_60 (i := 1) rfl rfl ?_
          refine J_invV (As := [vR (o + 1), vI (((cN : Nat) : Int))]) (st := []) hx lk_X6_254 okX1_findBest dX6_stand_61 hC.k59 (by decide) rfl rfl rfl (Nat.le_of_ble_eq_true rfl) (Nat.zero_add _).symm (Nat.zero_add _).symm rfl (c_X1_findBest hC hN hW (c := cN) (by omega) (by omega) ?_)
          intro T1 M1 hC1 hN1 hfd hlo
          have hC := hC1
          have hsd := stdY_ok hW.y (c := cN) (by omega)
          refine J_istore_n (lsn := [vR (o), vI (((cN : Nat) : Int)), vI (i), vI ((stdY S.1 cN).1)]) hx dX6_stand_64 (i := 3) rfl (Nat.le_of_ble_eq_true rfl) rfl rfl ?_
          refine J_iload_n hx dX6_stand_65 (i := 2) rfl rfl ?_
          refine J_iconst (v := -1) hx dX6_stand_66 (by decide) ?_
          refine J_icmp_ne (tgt := 74) hx dX6_stand_67 (by decide) (fun c13 => ?_) (fun c13 => ?_)
          · obtain ⟨iN, rfl⟩ : ∃ z : Nat, i = ((z : Nat) : Int) := ⟨i.toNat, by omega⟩
            refine J_aload_n hx dX6_stand_74 (i := 0) rfl rfl ?_
            refine J_getR (b := o + 59) hx fl_X6_41 cl_X6 dX6_stand_75 hC.o (by decide) rfl hC.r5 ?_
            refine J_getR (b := o + 60) hx fl_X6_258 cl_X1 dX6_stand_78 hC.k59 (by decide) rfl hC.f0 ?_
            refine J_iload_n hx dX6_stand_81 (i := 2) rfl rfl ?_
            refine J_iald2 (v := (((stdY S.1 cN).2.getD iN 0 : Nat) : Int)) hx iN dX6_stand_82 hC.k60 (by omega) (by rw [hC.n60]; omega) (hfd _ (by omega)) ?_
            refine J_iret hx hr dX6_stand_83 ?_
            exact hQ.go (v := (((stdY S.1 cN).2.getD iN 0 : Nat) : Int)) (S := S) (by
              unfold a_stand
              all_goals (try unfold overY at *)
              all_goals (try unfold mayQ at *)
              all_goals (try simp only [Int.toNat_natCast] at *)
              all_goals ((repeat' split) <;> first | rfl | (exfalso; omega) | (congr 1; omega))) hC hN1 hlo
          · refine J_iload_n hx dX6_stand_70 (i := 3) rfl rfl ?_
            refine J_goto (tgt := 83) hx dX6_stand_71 (by decide) ?_
            refine J_iret hx hr dX6_stand_83 ?_
            exact hQ.go (v := (stdY S.1 cN).1) (S := S) (by
              unfold a_stand
              all_goals (try unfold overY at *)
              all_goals (try unfold mayQ at *)
              all_goals (try simp only [Int.toNat_natCast] at *)
              all_goals ((repeat' split) <;> first | rfl | (exfalso; omega) | (congr 1; omega))) hC hN1 hlo
        · refine J_aload_n hx dX6_stand_45 (i := 0) rfl rfl ?_
          refine J_bipush (v := -6) hx dX6_stand_46 (by decide) ?_
          refine J_invV (As := [vI ((-6))]) (st := []) hx lk_X6_67 okX6_refuse dX6_stand_48 hC.o (by decide) rfl rfl rfl (Nat.le_of_ble_eq_true rfl) (Nat.zero_add _).symm (Nat.zero_add _).symm rfl (c_X6_refuse hC hN hW (k := 4) (by decide) ?_)
          intro M1 hN1 hf1
          refine J_iret hx hr dX6_stand_51 ?_
          exact hQ.to (v := -((4 + 2 : Nat) : Int)) (S := rfS S 4) (by
            unfold a_stand
            all_goals (try unfold overY at *)
            all_goals (try unfold mayQ at *)
            all_goals (try simp only [Int.toNat_natCast] at *)
            all_goals ((repeat' split) <;> first | rfl | (exfalso; omega) | (congr 1; omega))) hC hN1 hf1
      · refine J_aload_n hx dX6_stand_24 (i := 0) rfl rfl ?_
        refine J_bipush (v := -2) hx dX6_stand_25 (by decide) ?_
        refine J_invV (As := [vI ((-2))]) (st := []) hx lk_X6_67 okX6_refuse dX6_stand_27 hC.o (by decide) rfl rfl rfl (Nat.le_of_ble_eq_true rfl) (Nat.zero_add _).symm (Nat.zero_add _).symm rfl (c_X6_refuse hC hN hW (k := 0) (by decide) ?_)
        intro M1 hN1 hf1
        refine J_iret hx hr dX6_stand_30 ?_
        exact hQ.to (v := -((0 + 2 : Nat) : Int)) (S := rfS S 0) (by
          unfold a_stand
          all_goals (try unfold overY at *)
          all_goals (try unfold mayQ at *)
          all_goals (try simp only [Int.toNat_natCast] at *)
          all_goals ((repeat' split) <;> first | rfl | (exfalso; omega) | (congr 1; omega))) hC hN1 hf1

set_option maxHeartbeats 4000000 in
theorem c_X6_worth {g : WG} {d : Nat} {T : TT} {M : MM} {o sz : Nat} {S : ST} {Q : MVal → TT → MM → Nat → Prop} (hC : CT T o) (hN : CN M o S) (hW : WFS S) {c : Int} (h_c : -2147483648 ≤ c ∧ c ≤ 2147483647) (hQ : CQ o T M sz Q (a_worth S c)) : Ct g (d + 12) mX6_worth [vR (o), vI (c)] T M sz 0 0 Q := by
  refine Ct_of2 (ls := [vR (o), vI (c)]) okX6_worth rfl (Nat.le_of_ble_eq_true rfl) rfl ?_
  intro x hx hr hnm
  refine J_iload_n hx dX6_worth_0 (i := 1) rfl rfl ?_
  refine J_invS (As := [vI (c)]) (st := []) hx lk_X6_132 okX6_isChain dX6_worth_1 rfl rfl (Nat.le_of_ble_eq_true rfl) (Nat.zero_add _).symm (Nat.zero_add _).symm rfl (c_X6_isChain (a := c) ?_)
  intro v1 hv1
  refine J_if_ne (tgt := 14) hx dX6_worth_4 (by decide) (fun c2 => ?_) (fun c2 => ?_)
  · obtain ⟨cN, rfl⟩ : ∃ z : Nat, c = ((z : Nat) : Int) := ⟨c.toNat, by omega⟩
    have hl8 := hW.y.len8 (c := cN) (by omega)
    refine J_aload_n hx dX6_worth_14 (i := 0) rfl rfl ?_
    refine J_getR (b := o + 1) hx fl_X6_10 cl_X6 dX6_worth_15 hC.o (by decide) rfl hC.r0 ?_
    refine J_getR (b := o + 1 + 10) hx fl_X6_199 cl_X5 dX6_worth_18 hC.y0.o (by decide) rfl hC.y0.r7 ?_
    refine J_iload_n hx dX6_worth_21 (i := 1) rfl rfl ?_
    refine J_iald2 (v := (((S.1.ch cN).length : Nat) : Int)) hx cN dX6_worth_22 hC.y0.k10 (by omega) (hC.y0.l10 (by omega)) (hN.y.sz (by omega)) ?_
    have rg3 := hW.y.len8 (c := cN) (by omega)
    have rg4 := hW.y.lenN (c := cN) (by omega)
    refine J_bipush (v := 7) hx dX6_worth_23 (by decide) ?_
    refine J_icmp_le (tgt := 35) hx dX6_worth_25 (by decide) (fun c5 => ?_) (fun c5 => ?_)
    · refine J_aload_n hx dX6_worth_35 (i := 0) rfl rfl ?_
      refine J_getR (b := o + 59) hx fl_X6_41 cl_X6 dX6_worth_36 hC.o (by decide) rfl hC.r5 ?_
      refine J_aload_n hx dX6_worth_39 (i := 0) rfl rfl ?_
      refine J_getR (b := o + 1) hx fl_X6_10 cl_X6 dX6_worth_40 hC.o (by decide) rfl hC.r0 ?_
      refine J_iload_n hx dX6_worth_43 (i := 1) rfl rfl ?_
      refine J_invV (As := [vR (o + 1), vI (((cN : Nat) : Int))]) (st := []) hx lk_X6_254 okX1_findBest dX6_worth_44 hC.k59 (by decide) rfl rfl rfl (Nat.le_of_ble_eq_true rfl) (Nat.zero_add _).symm (Nat.zero_add _).symm rfl (c_X1_findBest hC hN hW (c := cN) (by omega) (by omega) ?_)
      intro T1 M1 hC1 hN1 hfd hlo
      have hC := hC1
      have hsd := stdY_ok hW.y (c := cN) (by omega)
      refine J_aload_n hx dX6_worth_47 (i := 0) rfl rfl ?_
      refine J_getR (b := o + 1) hx fl_X6_10 cl_X6 dX6_worth_48 hC.o (by decide) rfl hC.r0 ?_
      refine J_iload_n hx dX6_worth_51 (i := 1) rfl rfl ?_
      refine J_invV (As := [vI (((cN : Nat) : Int))]) (st := [vI ((stdY S.1 cN).1)]) hx lk_X6_261 okX5_leastStrength dX6_worth_52 hC.y0.o (by decide) rfl rfl rfl (Nat.le_of_ble_eq_true rfl) (Nat.zero_add _).symm (Nat.zero_add _).symm rfl (c_X5_leastStrength hC.y0 hN1.y hW.y (c := cN) (by omega) ?_)
      have rg6 := leastS_rg hW.y (l := S.1.ch cN) (fun p hp => hW.y.lt (by omega) hp)
      refine J_isub (v := (stdY S.1 cN).1 - (leastS S.1 (S.1.ch cN))) hx dX6_worth_55 (w32_id (by omega) (by omega)) ?_
      refine J_iret hx hr dX6_worth_56 ?_
      exact hQ.go (v := (stdY S.1 cN).1 - (leastS S.1 (S.1.ch cN))) (S := S) (by
        unfold a_worth
        all_goals (try unfold overY at *)
        all_goals (try unfold mayQ at *)
        all_goals (try simp only [Int.toNat_natCast] at *)
        all_goals ((repeat' split) <;> first | rfl | (exfalso; omega) | (congr 1; omega))) hC hN1 hlo
    · refine J_aload_n hx dX6_worth_28 (i := 0) rfl rfl ?_
      refine J_bipush (v := -6) hx dX6_worth_29 (by decide) ?_
      refine J_invV (As := [vI ((-6))]) (st := []) hx lk_X6_67 okX6_refuse dX6_worth_31 hC.o (by decide) rfl rfl rfl (Nat.le_of_ble_eq_true rfl) (Nat.zero_add _).symm (Nat.zero_add _).symm rfl (c_X6_refuse hC hN hW (k := 4) (by decide) ?_)
      intro M1 hN1 hf1
      refine J_iret hx hr dX6_worth_34 ?_
      exact hQ.to (v := -((4 + 2 : Nat) : Int)) (S := rfS S 4) (by
        unfold a_worth
        all_goals (try unfold overY at *)
        all_goals (try unfold mayQ at *)
        all_goals (try simp only [Int.toNat_natCast] at *)
        all_goals ((repeat' split) <;> first | rfl | (exfalso; omega) | (congr 1; omega))) hC hN1 hf1
  · refine J_aload_n hx dX6_worth_7 (i := 0) rfl rfl ?_
    refine J_bipush (v := -2) hx dX6_worth_8 (by decide) ?_
    refine J_invV (As := [vI ((-2))]) (st := []) hx lk_X6_67 okX6_refuse dX6_worth_10 hC.o (by decide) rfl rfl rfl (Nat.le_of_ble_eq_true rfl) (Nat.zero_add _).symm (Nat.zero_add _).symm rfl (c_X6_refuse hC hN hW (k := 0) (by decide) ?_)
    intro M1 hN1 hf1
    refine J_iret hx hr dX6_worth_13 ?_
    exact hQ.to (v := -((0 + 2 : Nat) : Int)) (S := rfS S 0) (by
      unfold a_worth
      all_goals (try unfold overY at *)
      all_goals (try unfold mayQ at *)
      all_goals (try simp only [Int.toNat_natCast] at *)
      all_goals ((repeat' split) <;> first | rfl | (exfalso; omega) | (congr 1; omega))) hC hN1 hf1

set_option maxHeartbeats 4000000 in
theorem c_X6_best {g : WG} {d : Nat} {T : TT} {M : MM} {o sz : Nat} {S : ST} {Q : MVal → TT → MM → Nat → Prop} (hC : CT T o) (hN : CN M o S) (hW : WFS S) {c : Int} (h_c : -2147483648 ≤ c ∧ c ≤ 2147483647) (hQ : CQ o T M sz Q (a_best S c)) : Ct g (d + 12) mX6_best [vR (o), vI (c)] T M sz 0 0 Q := by
  refine Ct_of2 (ls := [vR (o), vI (c), vU]) okX6_best rfl (Nat.le_of_ble_eq_true rfl) rfl ?_
  intro x hx hr hnm
  refine J_iload_n hx dX6_best_0 (i := 1) rfl rfl ?_
  refine J_invS (As := [vI (c)]) (st := []) hx lk_X6_132 okX6_isChain dX6_best_1 rfl rfl (Nat.le_of_ble_eq_true rfl) (Nat.zero_add _).symm (Nat.zero_add _).symm rfl (c_X6_isChain (a := c) ?_)
  intro v1 hv1
  refine J_if_ne (tgt := 14) hx dX6_best_4 (by decide) (fun c2 => ?_) (fun c2 => ?_)
  · obtain ⟨cN, rfl⟩ : ∃ z : Nat, c = ((z : Nat) : Int) := ⟨c.toNat, by omega⟩
    have hl8 := hW.y.len8 (c := cN) (by omega)
    refine J_aload_n hx dX6_best_14 (i := 0) rfl rfl ?_
    refine J_getR (b := o + 1) hx fl_X6_10 cl_X6 dX6_best_15 hC.o (by decide) rfl hC.r0 ?_
    refine J_getR (b := o + 1 + 10) hx fl_X6_199 cl_X5 dX6_best_18 hC.y0.o (by decide) rfl hC.y0.r7 ?_
    refine J_iload_n hx dX6_best_21 (i := 1) rfl rfl ?_
    refine J_iald2 (v := (((S.1.ch cN).length : Nat) : Int)) hx cN dX6_best_22 hC.y0.k10 (by omega) (hC.y0.l10 (by omega)) (hN.y.sz (by omega)) ?_
    have rg3 := hW.y.len8 (c := cN) (by omega)
    have rg4 := hW.y.lenN (c := cN) (by omega)
    refine J_bipush (v := 7) hx dX6_best_23 (by decide) ?_
    refine J_icmp_le (tgt := 35) hx dX6_best_25 (by decide) (fun c5 => ?_) (fun c5 => ?_)
    · refine J_aload_n hx dX6_best_35 (i := 0) rfl rfl ?_
      refine J_getR (b := o + 59) hx fl_X6_41 cl_X6 dX6_best_36 hC.o (by decide) rfl hC.r5 ?_
      refine J_aload_n hx dX6_best_39 (i := 0) rfl rfl ?_
      refine J_getR (b := o + 1) hx fl_X6_10 cl_X6 dX6_best_40 hC.o (by decide) rfl hC.r0 ?_
      refine J_iload_n hx dX6_best_43 (i := 1) rfl rfl ?_
      refine J_invV (As := [vR (o + 1), vI (((cN : Nat) : Int))]) (st := []) hx lk_X6_254 okX1_findBest dX6_best_44 hC.k59 (by decide) rfl rfl rfl (Nat.le_of_ble_eq_true rfl) (Nat.zero_add _).symm (Nat.zero_add _).symm rfl (c_X1_findBest hC hN hW (c := cN) (by omega) (by omega) ?_)
      intro T1 M1 hC1 hN1 hfd hlo
      have hC := hC1
      have hsd := stdY_ok hW.y (c := cN) (by omega)
      refine J_istore_n (lsn := [vR (o), vI (((cN : Nat) : Int)), vI ((stdY S.1 cN).1)]) hx dX6_best_47 (i := 2) rfl (Nat.le_of_ble_eq_true rfl) rfl rfl ?_
      refine J_aload_n hx dX6_best_48 (i := 0) rfl rfl ?_
      refine J_getR (b := o + 59) hx fl_X6_41 cl_X6 dX6_best_49 hC.o (by decide) rfl hC.r5 ?_
      refine J_getR (b := o + 60) hx fl_X6_258 cl_X1 dX6_best_52 hC.k59 (by decide) rfl hC.f0 ?_
      refine J_iconst (v := 0) hx dX6_best_55 (by decide) ?_
      refine J_aload_n hx dX6_best_56 (i := 0) rfl rfl ?_
      refine J_getR (b := o + 1) hx fl_X6_10 cl_X6 dX6_best_57 hC.o (by decide) rfl hC.r0 ?_
      refine J_getR (b := o + 1 + 7) hx fl_X6_201 cl_X5 dX6_best_60 hC.y0.o (by decide) rfl hC.y0.r6 ?_
      refine J_iload_n hx dX6_best_63 (i := 1) rfl rfl ?_
      refine J_aald (b := o + 1 + 8 + cN) hx cN dX6_best_64 hC.y0.k7 (by decide) (by omega) (hC.y0.l7 (by omega)) (hC.y0.f7 (by omega)) ?_
      refine J_iconst (v := 0) hx dX6_best_65 (by decide) ?_
      refine J_aload_n hx dX6_best_66 (i := 0) rfl rfl ?_
      refine J_getR (b := o + 1) hx fl_X6_10 cl_X6 dX6_best_67 hC.o (by decide) rfl hC.r0 ?_
      refine J_getR (b := o + 1 + 10) hx fl_X6_199 cl_X5 dX6_best_70 hC.y0.o (by decide) rfl hC.y0.r7 ?_
      refine J_iload_n hx dX6_best_73 (i := 1) rfl rfl ?_
      refine J_iald2 (v := (((S.1.ch cN).length : Nat) : Int)) hx cN dX6_best_74 hC.y0.k10 (by omega) (hC.y0.l10 (by omega)) (hN1.y.sz (by omega)) ?_
      have rg6 := hW.y.len8 (c := cN) (by omega)
      have rg7 := hW.y.lenN (c := cN) (by omega)
      refine J_copyI hx 0 0 (S.1.ch cN).length lk_X6_102 dX6_best_75 hC.k60 (hC.y0.kl (by omega)) rfl rfl rfl (by rw [hC.n60]; omega) (by rw [hC.y0.nl (by omega)]; omega) (Nat.le_of_ble_eq_true rfl) ?_
      refine J_iload_n hx dX6_best_78 (i := 2) rfl rfl ?_
      refine J_iret hx hr dX6_best_79 ?_
      have hlen : (stdY S.1 cN).2.length = (S.1.ch cN).length := hsd.1.length_eq
      have hP := YP.setC (hN1.y.toP hW.y) (M' := cpM M1 (o + 60) (o + 1 + 8 + cN) 0 0 (S.1.ch cN).length) (c := cN) (l := (stdY S.1 cN).2) (by omega) (fun q9 h9 => absurd (by rw [cpM_row (by omega)]) h9) (fun q9 h9 => ?_) (fun k9 h9 => ?_) ?_ ?_ (fun a9 h7 h8 h9 => cpM_row (by omega))
      · exact hQ.go (v := (stdY S.1 cN).1) (S := yS S (S.1.setC cN (stdY S.1 cN).2)) (by
        unfold a_best
        all_goals (try unfold overY at *)
        all_goals (try unfold mayQ at *)
        all_goals (try simp only [Int.toNat_natCast] at *)
        all_goals ((repeat' split) <;> first | rfl | (exfalso; omega) | (congr 1; omega))) hC (hN1.yard (hP.toN (hW.y.perm (by omega) hsd.1)) (fun a9 h9 => cpM_row (by omega))) (fun b9 h9 => ⟨(hlo b9 h9).1, by rw [cpM_row (by omega)]; exact (hlo b9 h9).2⟩)
      · rw [cpM_row (by omega)]
        have h8 := hsd.1.mem_iff.mp h9
        rw [hN1.y.hm (hW.y.lt (by omega) h8), hW.y.co (by omega) h8]
      · rw [cpM_at (by omega), show 0 + (k9 - 0) = k9 by omega]
        exact hfd k9 (by omega)
      · rw [cpM_row (by omega), hlen]; exact hN1.y.sz (by omega)
      · rw [cpM_row (by omega)]
    · refine J_aload_n hx dX6_best_28 (i := 0) rfl rfl ?_
      refine J_bipush (v := -6) hx dX6_best_29 (by decide) ?_
      refine J_invV (As := [vI ((-6))]) (st := []) hx lk_X6_67 okX6_refuse dX6_best_31 hC.o (by decide) rfl rfl rfl (Nat.le_of_ble_eq_true rfl) (Nat.zero_add _).symm (Nat.zero_add _).symm rfl (c_X6_refuse hC hN hW (k := 4) (by decide) ?_)
      intro M1 hN1 hf1
      refine J_iret hx hr dX6_best_34 ?_
      exact hQ.to (v := -((4 + 2 : Nat) : Int)) (S := rfS S 4) (by
        unfold a_best
        all_goals (try unfold overY at *)
        all_goals (try unfold mayQ at *)
        all_goals (try simp only [Int.toNat_natCast] at *)
        all_goals ((repeat' split) <;> first | rfl | (exfalso; omega) | (congr 1; omega))) hC hN1 hf1
  · refine J_aload_n hx dX6_best_7 (i := 0) rfl rfl ?_
    refine J_bipush (v := -2) hx dX6_best_8 (by decide) ?_
    refine J_invV (As := [vI ((-2))]) (st := []) hx lk_X6_67 okX6_refuse dX6_best_10 hC.o (by decide) rfl rfl rfl (Nat.le_of_ble_eq_true rfl) (Nat.zero_add _).symm (Nat.zero_add _).symm rfl (c_X6_refuse hC hN hW (k := 0) (by decide) ?_)
    intro M1 hN1 hf1
    refine J_iret hx hr dX6_best_13 ?_
    exact hQ.to (v := -((0 + 2 : Nat) : Int)) (S := rfS S 0) (by
      unfold a_best
      all_goals (try unfold overY at *)
      all_goals (try unfold mayQ at *)
      all_goals (try simp only [Int.toNat_natCast] at *)
      all_goals ((repeat' split) <;> first | rfl | (exfalso; omega) | (congr 1; omega))) hC hN1 hf1

