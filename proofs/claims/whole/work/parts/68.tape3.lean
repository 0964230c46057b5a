theorem stR_1 {B : Nat → Int} {z : Nat} {A : YA} {tk : TK} (h : (stR B z A tk).1 = -1) : tk.2.1 = 1 := by
  apply Classical.byContradiction
  intro hn
  rw [stR_n (fun w _ hw => hn hw.1)] at h
  have h9 : ((tk.1 : Nat) : Int) = -1 := h
  omega
theorem rdZ_s (B : Nat → Int) (z k n : Nat) (A : YA) (tk : TK) : rdZ B z (k + 1) n A tk = if (stR B z A tk).1 ≠ -1 then ((stR B z A tk).1, A, n) else if (stR B z A tk).2.2.2.1 = 0 then (-1, (stR B z A tk).2.1, n) else if (stR B z A tk).2.2.2.1 ≠ 3 then ((((stR B z A tk).2.2.1 : Nat) : Int), A, n) else rdZ B z k (n + 1) (stR B z A tk).2.1 (nx B z (stR B z A tk).2.2) := rfl
theorem rdZ_wf {B : Nat → Int} {z : Nat} (hz : z ≤ 250) : ∀ (k n : Nat) {A : YA} {tk : TK}, WFY A → wfT B z tk → WFY (rdZ B z k n A tk).2.1 ∧ -1 ≤ (rdZ B z k n A tk).1 ∧ (rdZ B z k n A tk).1 ≤ 250 ∧ (rdZ B z k n A tk).2.2 ≤ n + k
  | 0, n, A, tk, hW, h => ⟨hW, Int.le_refl _, by show (-1 : Int) ≤ 250; decide, Nat.zero_le _⟩
  | k + 1, n, A, tk, hW, h => by
    have ho := stR_ok hW h hz
    rw [rdZ_s]
    split
    · rename_i e
      rcases ho with ho | ho
      · exact ⟨hW, by show -1 ≤ (stR B z A tk).1; omega, ho.2, by show n ≤ _; omega⟩
      · exact absurd ho.1 e
    · rename_i e
      have e1 : (stR B z A tk).1 = -1 := Classical.not_not.mp e
      have ho2 : WFY (stR B z A tk).2.1 ∧ wfT B z (stR B z A tk).2.2 := by
        rcases ho with ho | ho
        · omega
        · exact ⟨ho.2.1, ho.2.2.1⟩
      split
      · exact ⟨ho2.1, Int.le_refl _, by show (-1 : Int) ≤ 250; decide, by show n ≤ _; omega⟩
      · split
        · have h1 := ho2.2.1
          exact ⟨hW, by show (-1 : Int) ≤ ((_ : Nat) : Int); omega, by show ((_ : Nat) : Int) ≤ 250; omega, by show n ≤ _; omega⟩
        · obtain ⟨i1, i2, i3, i4⟩ := rdZ_wf hz k (n + 1) (A := (stR B z A tk).2.1) (tk := nx B z (stR B z A tk).2.2) ho2.1 (tkN_wf B ho2.2.2.2.1).1
          exact ⟨i1, i2, i3, by omega⟩
noncomputable def a_yard (S : ST) : Int × ST := if (rdZ S.tp.2 S.tp.1 250 1 S.1 (tkN S.tp.2 S.tp.1 0)).1 ≠ -1 then (-20 - (rdZ S.tp.2 S.tp.1 250 1 S.1 (tkN S.tp.2 S.tp.1 0)).1, rfS (tpS S (0, S.tp.2)) 0) else ((((rdZ S.tp.2 S.tp.1 250 1 S.1 (tkN S.tp.2 S.tp.1 0)).2.2 : Nat) : Int), yS (tpS S (0, S.tp.2)) (rdZ S.tp.2 S.tp.1 250 1 S.1 (tkN S.tp.2 S.tp.1 0)).2.1)
set_option maxHeartbeats 4000000 in
theorem c_X4_numberBehindWord {g : WG} {d : Nat} {T : TT} {M : MM} {q sz z : Nat} {B : Nat → Int} {tk : TK} {Q : MVal → TT → MM → Nat → Prop} (hE : TPE T M q z B) (hwt : wfT B z tk) (hP1 : TPc M q tk (-1)) {lo hi : Int} (hlo : 0 ≤ lo) (hQ1 : okT B (nk B z 1 tk) lo hi = true → ∀ M', TPc M' q (nk B z 2 tk) (-1) → FrT q M M' → Q (vI (vk B z 1 tk)) T M' sz) (hQ0 : okT B (nk B z 1 tk) lo hi = false → ∀ M', TPc M' q (nk B z 1 tk) (((nk B z 1 tk).1 : Nat) : Int) → FrT q M M' → Q (vI (-1)) T M' sz) : Ct g (d + 4) mX4_numberBehindWord [vR (q), vI (lo), vI (hi)] T M sz 0 0 Q := by
  refine Ct_of2 (ls := [vR (q), vI (lo), vI (hi)]) okX4_numberBehindWord rfl (Nat.le_of_ble_eq_true rfl) rfl ?_
  intro x hx hr hnm
  refine J_aload_n hx dX4_numberBehindWord_0 (i := 0) rfl rfl ?_
  refine J_invVv (As := []) (st := []) hx lk_X4_25 okX4_toNextToken dX4_numberBehindWord_1 hE.k (by decide) rfl rfl rfl (Nat.le_of_ble_eq_true rfl) (Nat.zero_add _).symm (Nat.zero_add _).symm rfl (c_X4_toNextToken hE (e := tk.2.2) (f := -1) hwt.2.2.1 hP1.1 hP1.2.2.2 ?_)
  intro M2 hP2 hT2
  replace hP2 : TPc M2 q (nk B z 1 tk) (-1) := hP2
  have hE2 := hE.fr hT2
  refine J_aload_n hx dX4_numberBehindWord_4 (i := 0) rfl rfl ?_
  refine J_iload_n hx dX4_numberBehindWord_5 (i := 1) rfl rfl ?_
  refine J_iload_n hx dX4_numberBehindWord_6 (i := 2) rfl rfl ?_
  refine J_invV (As := [vI lo, vI hi]) (st := []) hx lk_X4_82 okX4_number dX4_numberBehindWord_7 hE.k (by decide) rfl rfl rfl (Nat.le_of_ble_eq_true rfl) (Nat.zero_add _).symm (Nat.zero_add _).symm rfl (c_X4_number hE2 hlo (nk_wf hwt 1).1 hP2 (fun hk M3 hP3 hT3 => ?_) (fun hk M3 hP3 hT3 => ?_))
  · exact J_iret hx hr dX4_numberBehindWord_10 (hQ1 hk M3 hP3 (hT2.tr hT3))
  · exact J_iret hx hr dX4_numberBehindWord_10 (hQ0 hk M3 hP3 (hT2.tr hT3))

set_option maxHeartbeats 4000000 in
theorem c_X4_readStatement {g : WG} {d : Nat} {T : TT} {M : MM} {o sz z : Nat} {B : Nat → Int} {A : YA} {tk : TK} {Q : MVal → TT → MM → Nat → Prop} (hC : CT T o) (hE1 : TPE T M (o + 63) z B) (hwt : wfT B z tk) (hP1 : TPc M (o + 63) tk (-1)) (hY1 : YN M (o + 23) A) (hWA : WFY A) (hQ : ∀ M', M' (o + 63) 2 = (stR B z A tk).1 → ((stR B z A tk).1 = -1 → YN M' (o + 23) (stR B z A tk).2.1 ∧ TPc M' (o + 63) (stR B z A tk).2.2 (-1)) → FrZ o M M' → Q vU T M' sz) : Ct g (d + 6) mX4_readStatement [vR (o + 63), vR (o + 23)] T M sz 0 0 Q := by
  refine Ct_of2 (ls := [vR (o + 63), vR (o + 23)]) okX4_readStatement rfl (Nat.le_of_ble_eq_true rfl) rfl ?_
  intro x hx hr hnm
  have hM1 : M = M := rfl
  have hF1 : FrZ o M M := FrZ.rf
  have hz2 := hE1.z2
  have hn8 := hWA.n8
  have ht2 := hWA.tn2
  refine J_aload_n hx dX4_readStatement_0 (i := 0) rfl rfl ?_
  refine J_ldcS (i := 38) (w := 0) (tx := "one") hx dX4_readStatement_1 (by decide) ?_
  refine J_invV (As := [vR (g.2.2.2.2.1 0)]) (st := []) hx lk_X4_40 okX4_isWord dX4_readStatement_3 hC.k63 (by decide) rfl rfl rfl (Nat.le_of_ble_eq_true rfl) (Nat.zero_add _).symm (Nat.zero_add _).symm rfl (c_X4_isWord hE1 (w := 0) (by decide) hwt hP1 ?_)
  intro v0 hv0
  refine J_if_eq (tgt := 17) hx dX4_readStatement_6 (by decide) (fun c1 => ?_) (fun c1 => ?_)
  · have hn0 : ¬ wdP B tk 0 := by
      rcases hv0 with h9 | h9
      · exfalso; omega
      · exact h9.2
    refine J_aload_n hx dX4_readStatement_17 (i := 0) rfl rfl ?_
    refine J_ldcS (i := 47) (w := 1) (tx := "tired") hx dX4_readStatement_18 (by decide) ?_
    refine J_invV (As := [vR (g.2.2.2.2.1 1)]) (st := []) hx lk_X4_40 okX4_isWord dX4_readStatement_20 hC.k63 (by decide) rfl rfl rfl (Nat.le_of_ble_eq_true rfl) (Nat.zero_add _).symm (Nat.zero_add _).symm rfl (c_X4_isWord hE1 (w := 1) (by decide) hwt hP1 ?_)
    intro v1 hv1
    refine J_if_eq (tgt := 34) hx dX4_readStatement_23 (by decide) (fun c2 => ?_) (fun c2 => ?_)
    · have hn1 : ¬ wdP B tk 1 := by
        rcases hv1 with h9 | h9
        · exfalso; omega
        · exact h9.2
      refine J_aload_n hx dX4_readStatement_34 (i := 0) rfl rfl ?_
      refine J_ldcS (i := 52) (w := 2) (tx := "run") hx dX4_readStatement_35 (by decide) ?_
      refine J_invV (As := [vR (g.2.2.2.2.1 2)]) (st := []) hx lk_X4_40 okX4_isWord dX4_readStatement_37 hC.k63 (by decide) rfl rfl rfl (Nat.le_of_ble_eq_true rfl) (Nat.zero_add _).symm (Nat.zero_add _).symm rfl (c_X4_isWord hE1 (w := 2) (by decide) hwt hP1 ?_)
      intro v2 hv2
      refine J_if_eq (tgt := 51) hx dX4_readStatement_40 (by decide) (fun c3 => ?_) (fun c3 => ?_)
      · have hn2 : ¬ wdP B tk 2 := by
          rcases hv2 with h9 | h9
          · exfalso; omega
          · exact h9.2
        refine J_aload_n hx dX4_readStatement_51 (i := 0) rfl rfl ?_
        refine J_ldcS (i := 57) (w := 3) (tx := "yards") hx dX4_readStatement_52 (by decide) ?_
        refine J_invV (As := [vR (g.2.2.2.2.1 3)]) (st := []) hx lk_X4_40 okX4_isWord dX4_readStatement_54 hC.k63 (by decide) rfl rfl rfl (Nat.le_of_ble_eq_true rfl) (Nat.zero_add _).symm (Nat.zero_add _).symm rfl (c_X4_isWord hE1 (w := 3) (by decide) hwt hP1 ?_)
        intro v3 hv3
        refine J_if_eq (tgt := 74) hx dX4_readStatement_57 (by decide) (fun c4 => ?_) (fun c4 => ?_)
        · have hn3 : ¬ wdP B tk 3 := by
            rcases hv3 with h9 | h9
            · exfalso; omega
            · exact h9.2
          refine J_aload_n hx dX4_readStatement_74 (i := 0) rfl rfl ?_
          refine J_ldcS (i := 67) (w := 4) (tx := "spread") hx dX4_readStatement_75 (by decide) ?_
          refine J_invV (As := [vR (g.2.2.2.2.1 4)]) (st := []) hx lk_X4_40 okX4_isWord dX4_readStatement_77 hC.k63 (by decide) rfl rfl rfl (Nat.le_of_ble_eq_true rfl) (Nat.zero_add _).symm (Nat.zero_add _).symm rfl (c_X4_isWord hE1 (w := 4) (by decide) hwt hP1 ?_)
          intro v4 hv4
          refine J_if_eq (tgt := 97) hx dX4_readStatement_80 (by decide) (fun c5 => ?_) (fun c5 => ?_)
          · have hn4 : ¬ wdP B tk 4 := by
              rcases hv4 with h9 | h9
              · exfalso; omega
              · exact h9.2
            refine J_aload_n hx dX4_readStatement_97 (i := 0) rfl rfl ?_
            refine J_ldcS (i := 71) (w := 5) (tx := "wrists") hx dX4_readStatement_98 (by decide) ?_
            refine J_invV (As := [vR (g.2.2.2.2.1 5)]) (st := []) hx lk_X4_40 okX4_isWord dX4_readStatement_100 hC.k63 (by decide) rfl rfl rfl (Nat.le_of_ble_eq_true rfl) (Nat.zero_add _).symm (Nat.zero_add _).symm rfl (c_X4_isWord hE1 (w := 5) (by decide) hwt hP1 ?_)
            intro v5 hv5
            refine J_if_eq (tgt := 119) hx dX4_readStatement_103 (by decide) (fun c6 => ?_) (fun c6 => ?_)
            · have hn5 : ¬ wdP B tk 5 := by
                rcases hv5 with h9 | h9
                · exfalso; omega
                · exact h9.2
              refine J_aload_n hx dX4_readStatement_119 (i := 0) rfl rfl ?_
              refine J_ldcS (i := 75) (w := 6) (tx := "bell") hx dX4_readStatement_120 (by decide) ?_
              refine J_invV (As := [vR (g.2.2.2.2.1 6)]) (st := []) hx lk_X4_40 okX4_isWord dX4_readStatement_122 hC.k63 (by decide) rfl rfl rfl (Nat.le_of_ble_eq_true rfl) (Nat.zero_add _).symm (Nat.zero_add _).symm rfl (c_X4_isWord hE1 (w := 6) (by decide) hwt hP1 ?_)
              intro v6 hv6
              refine J_if_eq (tgt := 142) hx dX4_readStatement_125 (by decide) (fun c7 => ?_) (fun c7 => ?_)
              · have hn6 : ¬ wdP B tk 6 := by
                  rcases hv6 with h9 | h9
                  · exfalso; omega
                  · exact h9.2
                refine J_aload_n hx dX4_readStatement_142 (i := 0) rfl rfl ?_
                refine J_aload_n hx dX4_readStatement_143 (i := 0) rfl rfl ?_
                refine J_getI2 (v := ((tk.1 : Nat) : Int)) hx fl_X4_35 cl_X4 dX4_readStatement_144 hC.k63 (by decide) rfl hP1.2.2.1 ?_
                refine J_putI hx fl_X4_15 cl_X4 dX4_readStatement_147 hC.k63 (by decide) rfl (Or.inl rfl) (by decide) ?_
                generalize eM2 : up2 M (o + 63) 2 ((tk.1 : Nat) : Int) = M2
                have hM2a : M2 (o + 63) 2 = ((tk.1 : Nat) : Int) := by rw [← eM2]; exact up2_at
                have hM2o : ∀ b9 j9, (b9 ≠ o + 63 ∨ j9 ≠ 2) → M2 b9 j9 = M b9 j9 := fun b9 j9 h9 => by rw [← eM2]; exact up2_ne h9
                have hM2r : ∀ b9, b9 ≠ o + 63 → M2 b9 = M b9 := fun b9 h9 => by rw [← eM2]; exact up2_row h9
                have hP2 : TPc M2 (o + 63) tk ((tk.1 : Nat) : Int) := hP1.put2 hM2a hM2o
                have hT2 : FrT (o + 63) M M2 := fun a9 j9 h9 => hM2o _ _ (by omega)
                have hE2 := hE1.fr hT2
                have hY2 := hY1.t hT2
                have hF2 := hF1.tr (FrZ.t hT2)
                refine J_vret hx hr dX4_readStatement_150 ?_
                rw [stR_n (fun w9 h9 => by
                  rcases (show w9 = 0 ∨ w9 = 1 ∨ w9 = 2 ∨ w9 = 3 ∨ w9 = 4 ∨ w9 = 5 ∨ w9 = 6 by omega) with rfl | rfl | rfl | rfl | rfl | rfl | rfl
                  · exact hn0
                  · exact hn1
                  · exact hn2
                  · exact hn3
                  · exact hn4
                  · exact hn5
                  · exact hn6)] at hQ
                exact hQ M2 hP2.1 (fun h9 => absurd h9 (show ((_ : Nat) : Int) ≠ -1 by omega)) hF2
              · have hwd : wdP B tk 6 := by
                  rcases hv6 with h9 | h9
                  · exact h9.2
                  · exfalso; omega
                have eR : stR B z A tk = sAsk B z A tk 4 1 99 := by rw [stR_w hwd (by decide)]; rfl
                refine J_aload_n hx dX4_readStatement_128 (i := 1) rfl rfl ?_
                refine J_aload_n hx dX4_readStatement_129 (i := 0) rfl rfl ?_
                refine J_iconst (v := 1) hx dX4_readStatement_130 (by decide) ?_
                refine J_bipush (v := 99) hx dX4_readStatement_131 (by decide) ?_
                refine J_invV (As := [vI (1), vI (99)]) (st := [vR (o + 23)]) hx lk_X4_59 okX4_numberBehindWord dX4_readStatement_133 hC.k63 (by decide) rfl rfl rfl (Nat.le_of_ble_eq_true rfl) (Nat.zero_add _).symm (Nat.zero_add _).symm rfl (c_X4_numberBehindWord hE1 hwt hP1 (lo := 1) (hi := 99) (by decide) (fun hk M2 hP2 hT2 => ?_) (fun hk M2 hP2 hT2 => ?_))
                · have rv := (okT_t hk).2
                  replace rv : (1 : Int) ≤ vk B z 1 tk ∧ vk B z 1 tk ≤ 99 := rv
                  refine J_putI hx fl_X4_77 cl_X5 dX4_readStatement_136 hC.y2.o (by decide) rfl (Or.inl rfl) (by decide) ?_
                  have hWx : WFY (A.setS 4 (vk B z 1 tk)) := setS_wf hWA (by omega)
                  have hYx : YN (up2 M2 (o + 23) 12 (vk B z 1 tk)) (o + 23) (A.setS 4 (vk B z 1 tk)) := (((hY1.t hT2).toP hWA).setS (q := 4) _ (by decide)).toN hWx
                  have hYf : FrY (o + 23) M2 (up2 M2 (o + 23) 12 (vk B z 1 tk)) := FrY.rf.up (k := 0) (by decide) _
                  refine J_goto (tgt := 150) hx dX4_readStatement_139 (by decide) ?_
                  refine J_vret hx hr dX4_readStatement_150 ?_
                  have eS : sAsk B z A tk 4 1 99 = (-1, A.setS 4 (vk B z 1 tk), nk B z 2 tk) := by unfold sAsk; rw [if_neg (by rw [hk]; decide)]
                  rw [eR, eS] at hQ
                  have hP3 := hP2.y hYf
                  exact hQ _ hP3.1 (fun _ => ⟨hYx, hP3⟩) ((FrZ.t hT2).tr (FrZ.y hYf))
                · refine J_putI hx fl_X4_77 cl_X5 dX4_readStatement_136 hC.y2.o (by decide) rfl (Or.inl rfl) (by decide) ?_
                  have hYf : FrY (o + 23) M2 (up2 M2 (o + 23) 12 (-1)) := FrY.rf.up (k := 0) (by decide) _
                  refine J_goto (tgt := 150) hx dX4_readStatement_139 (by decide) ?_
                  refine J_vret hx hr dX4_readStatement_150 ?_
                  have eS : sAsk B z A tk 4 1 99 = ((((nk B z 1 tk).1 : Nat) : Int), A, tk) := by unfold sAsk; rw [if_pos hk]
                  rw [eR, eS] at hQ
                  have hP3 := hP2.y hYf
                  exact hQ _ hP3.1 (fun h9 => absurd h9 (show ((_ : Nat) : Int) ≠ -1 by omega)) ((FrZ.t hT2).tr (FrZ.y hYf))
            · have hwd : wdP B tk 5 := by
                rcases hv5 with h9 | h9
                · exact h9.2
                · exfalso; omega
              have eR : stR B z A tk = sAsk B z A tk 3 0 1 := by rw [stR_w hwd (by decide)]; rfl
              refine J_aload_n hx dX4_readStatement_106 (i := 1) rfl rfl ?_
              refine J_aload_n hx dX4_readStatement_107 (i := 0) rfl rfl ?_
              refine J_iconst (v := 0) hx dX4_readStatement_108 (by decide) ?_
              refine J_iconst (v := 1) hx dX4_readStatement_109 (by decide) ?_
              refine J_invV (As := [vI (0), vI (1)]) (st := [vR (o + 23)]) hx lk_X4_59 okX4_numberBehindWord dX4_readStatement_110 hC.k63 (by decide) rfl rfl rfl (Nat.le_of_ble_eq_true rfl) (Nat.zero_add _).symm (Nat.zero_add _).symm rfl (c_X4_numberBehindWord hE1 hwt hP1 (lo := 0) (hi := 1) (by decide) (fun hk M2 hP2 hT2 => ?_) (fun hk M2 hP2 hT2 => ?_))
              · have rv := (okT_t hk).2
                replace rv : (0 : Int) ≤ vk B z 1 tk ∧ vk B z 1 tk ≤ 1 := rv
                refine J_putI hx fl_X4_73 cl_X5 dX4_readStatement_113 hC.y2.o (by decide) rfl (Or.inl rfl) (by decide) ?_
                have hWx : WFY (A.setS 3 (vk B z 1 tk)) := setS_wf hWA (by omega)
                have hYx : YN (up2 M2 (o + 23) 11 (vk B z 1 tk)) (o + 23) (A.setS 3 (vk B z 1 tk)) := (((hY1.t hT2).toP hWA).setS (q := 3) _ (by decide)).toN hWx
                have hYf : FrY (o + 23) M2 (up2 M2 (o + 23) 11 (vk B z 1 tk)) := FrY.rf.up (k := 0) (by decide) _
                refine J_goto (tgt := 150) hx dX4_readStatement_116 (by decide) ?_
                refine J_vret hx hr dX4_readStatement_150 ?_
                have eS : sAsk B z A tk 3 0 1 = (-1, A.setS 3 (vk B z 1 tk), nk B z 2 tk) := by unfold sAsk; rw [if_neg (by rw [hk]; decide)]
                rw [eR, eS] at hQ
                have hP3 := hP2.y hYf
                exact hQ _ hP3.1 (fun _ => ⟨hYx, hP3⟩) ((FrZ.t hT2).tr (FrZ.y hYf))
              · refine J_putI hx fl_X4_73 cl_X5 dX4_readStatement_113 hC.y2.o (by decide) rfl (Or.inl rfl) (by decide) ?_
                have hYf : FrY (o + 23) M2 (up2 M2 (o + 23) 11 (-1)) := FrY.rf.up (k := 0) (by decide) _
                refine J_goto (tgt := 150) hx dX4_readStatement_116 (by decide) ?_
                refine J_vret hx hr dX4_readStatement_150 ?_
                have eS : sAsk B z A tk 3 0 1 = ((((nk B z 1 tk).1 : Nat) : Int), A, tk) := by unfold sAsk; rw [if_pos hk]
                rw [eR, eS] at hQ
                have hP3 := hP2.y hYf
                exact hQ _ hP3.1 (fun h9 => absurd h9 (show ((_ : Nat) : Int) ≠ -1 by omega)) ((FrZ.t hT2).tr (FrZ.y hYf))
          · have hwd : wdP B tk 4 := by
              rcases hv4 with h9 | h9
              · exact h9.2
              · exfalso; omega
            have eR : stR B z A tk = sAsk B z A tk 2 1 10 := by rw [stR_w hwd (by decide)]; rfl
            refine J_aload_n hx dX4_readStatement_83 (i := 1) rfl rfl ?_
            refine J_aload_n hx dX4_readStatement_84 (i := 0) rfl rfl ?_
            refine J_iconst (v := 1) hx dX4_readStatement_85 (by decide) ?_
            refine J_bipush (v := 10) hx dX4_readStatement_86 (by decide) ?_
            refine J_invV (As := [vI (1), vI (10)]) (st := [vR (o + 23)]) hx lk_X4_59 okX4_numberBehindWord dX4_readStatement_88 hC.k63 (by decide) rfl rfl rfl (Nat.le_of_ble_eq_true rfl) (Nat.zero_add _).symm (Nat.zero_add _).symm rfl (c_X4_numberBehindWord hE1 hwt hP1 (lo := 1) (hi := 10) (by decide) (fun hk M2 hP2 hT2 => ?_) (fun hk M2 hP2 hT2 => ?_))
            · have rv := (okT_t hk).2
              replace rv : (1 : Int) ≤ vk B z 1 tk ∧ vk B z 1 tk ≤ 10 := rv
              refine J_putI hx fl_X4_69 cl_X5 dX4_readStatement_91 hC.y2.o (by decide) rfl (Or.inl rfl) (by decide) ?_
              have hWx : WFY (A.setS 2 (vk B z 1 tk)) := setS_wf hWA (by omega)
              have hYx : YN (up2 M2 (o + 23) 10 (vk B z 1 tk)) (o + 23) (A.setS 2 (vk B z 1 tk)) := (((hY1.t hT2).toP hWA).setS (q := 2) _ (by decide)).toN hWx
              have hYf : FrY (o + 23) M2 (up2 M2 (o + 23) 10 (vk B z 1 tk)) := FrY.rf.up (k := 0) (by decide) _
              refine J_goto (tgt := 150) hx dX4_readStatement_94 (by decide) ?_
              refine J_vret hx hr dX4_readStatement_150 ?_
              have eS : sAsk B z A tk 2 1 10 = (-1, A.setS 2 (vk B z 1 tk), nk B z 2 tk) := by unfold sAsk; rw [if_neg (by rw [hk]; decide)]
              rw [eR, eS] at hQ
              have hP3 := hP2.y hYf
              exact hQ _ hP3.1 (fun _ => ⟨hYx, hP3⟩) ((FrZ.t hT2).tr (FrZ.y hYf))
            · refine J_putI hx fl_X4_69 cl_X5 dX4_readStatement_91 hC.y2.o (by decide) rfl (Or.inl rfl) (by decide) ?_
              have hYf : FrY (o + 23) M2 (up2 M2 (o + 23) 10 (-1)) := FrY.rf.up (k := 0) (by decide) _
              refine J_goto (tgt := 150) hx dX4_readStatement_94 (by decide) ?_
              refine J_vret hx hr dX4_readStatement_150 ?_
              have eS : sAsk B z A tk 2 1 10 = ((((nk B z 1 tk).1 : Nat) : Int), A, tk) := by unfold sAsk; rw [if_pos hk]
              rw [eR, eS] at hQ
              have hP3 := hP2.y hYf
              exact hQ _ hP3.1 (fun h9 => absurd h9 (show ((_ : Nat) : Int) ≠ -1 by omega)) ((FrZ.t hT2).tr (FrZ.y hYf))
        · have hwd : wdP B tk 3 := by
            rcases hv3 with h9 | h9
            · exact h9.2
            · exfalso; omega
          have eR : stR B z A tk = sAsk B z A tk 1 0 30 := by rw [stR_w hwd (by decide)]; rfl
          refine J_aload_n hx dX4_readStatement_60 (i := 1) rfl rfl ?_
          refine J_aload_n hx dX4_readStatement_61 (i := 0) rfl rfl ?_
          refine J_iconst (v := 0) hx dX4_readStatement_62 (by decide) ?_
          refine J_bipush (v := 30) hx dX4_readStatement_63 (by decide) ?_
          refine J_invV (As := [vI (0), vI (30)]) (st := [vR (o + 23)]) hx lk_X4_59 okX4_numberBehindWord dX4_readStatement_65 hC.k63 (by decide) rfl rfl rfl (Nat.le_of_ble_eq_true rfl) (Nat.zero_add _).symm (Nat.zero_add _).symm rfl (c_X4_numberBehindWord hE1 hwt hP1 (lo := 0) (hi := 30) (by decide) (fun hk M2 hP2 hT2 => ?_) (fun hk M2 hP2 hT2 => ?_))
          · have rv := (okT_t hk).2
            replace rv : (0 : Int) ≤ vk B z 1 tk ∧ vk B z 1 tk ≤ 30 := rv
            refine J_putI hx fl_X4_63 cl_X5 dX4_readStatement_68 hC.y2.o (by decide) rfl (Or.inl rfl) (by decide) ?_
            have hWx : WFY (A.setS 1 (vk B z 1 tk)) := setS_wf hWA (by omega)
            have hYx : YN (up2 M2 (o + 23) 9 (vk B z 1 tk)) (o + 23) (A.setS 1 (vk B z 1 tk)) := (((hY1.t hT2).toP hWA).setS (q := 1) _ (by decide)).toN hWx
            have hYf : FrY (o + 23) M2 (up2 M2 (o + 23) 9 (vk B z 1 tk)) := FrY.rf.up (k := 0) (by decide) _
            refine J_goto (tgt := 150) hx dX4_readStatement_71 (by decide) ?_
            refine J_vret hx hr dX4_readStatement_150 ?_
            have eS : sAsk B z A tk 1 0 30 = (-1, A.setS 1 (vk B z 1 tk), nk B z 2 tk) := by unfold sAsk; rw [if_neg (by rw [hk]; decide)]
            rw [eR, eS] at hQ
            have hP3 := hP2.y hYf
            exact hQ _ hP3.1 (fun _ => ⟨hYx, hP3⟩) ((FrZ.t hT2).tr (FrZ.y hYf))
          · refine J_putI hx fl_X4_63 cl_X5 dX4_readStatement_68 hC.y2.o (by decide) rfl (Or.inl rfl) (by decide) ?_
            have hYf : FrY (o + 23) M2 (up2 M2 (o + 23) 9 (-1)) := FrY.rf.up (k := 0) (by decide) _
            refine J_goto (tgt := 150) hx dX4_readStatement_71 (by decide) ?_
            refine J_vret hx hr dX4_readStatement_150 ?_
            have eS : sAsk B z A tk 1 0 30 = ((((nk B z 1 tk).1 : Nat) : Int), A, tk) := by unfold sAsk; rw [if_pos hk]
            rw [eR, eS] at hQ
            have hP3 := hP2.y hYf
            exact hQ _ hP3.1 (fun h9 => absurd h9 (show ((_ : Nat) : Int) ≠ -1 by omega)) ((FrZ.t hT2).tr (FrZ.y hYf))
      · have hwd : wdP B tk 2 := by
          rcases hv2 with h9 | h9
          · exact h9.2
          · exfalso; omega
        have eR : stR B z A tk = sRun B z A tk := by rw [stR_w hwd (by decide)]; rfl
        refine J_aload_n hx dX4_readStatement_43 (i := 0) rfl rfl ?_
        refine J_aload_n hx dX4_readStatement_44 (i := 1) rfl rfl ?_
        refine J_invVv (As := [vR (o + 23)]) (st := []) hx lk_X4_54 okX4_readRun dX4_readStatement_45 hC.k63 (by decide) rfl rfl rfl (Nat.le_of_ble_eq_true rfl) (Nat.zero_add _).symm (Nat.zero_add _).symm rfl (c_X4_readRun hC hE1 hwt hP1 hY1 hWA ?_)
        intro M2 h2 h3 hF2
        refine J_goto (tgt := 150) hx dX4_readStatement_48 (by decide) ?_
        refine J_vret hx hr dX4_readStatement_150 ?_
        rw [eR] at hQ
        exact hQ M2 h2 h3 hF2
    · have hwd : wdP B tk 1 := by
        rcases hv1 with h9 | h9
        · exact h9.2
        · exfalso; omega
      have eR : stR B z A tk = sTir B z A tk := by rw [stR_w hwd (by decide)]; rfl
      refine J_aload_n hx dX4_readStatement_26 (i := 0) rfl rfl ?_
      refine J_aload_n hx dX4_readStatement_27 (i := 1) rfl rfl ?_
      refine J_invVv (As := [vR (o + 23)]) (st := []) hx lk_X4_49 okX4_readTired dX4_readStatement_28 hC.k63 (by decide) rfl rfl rfl (Nat.le_of_ble_eq_true rfl) (Nat.zero_add _).symm (Nat.zero_add _).symm rfl (c_X4_readTired hC hE1 hwt hP1 hY1 hWA ?_)
      intro M2 h2 h3 hF2
      refine J_goto (tgt := 150) hx dX4_readStatement_31 (by decide) ?_
      refine J_vret hx hr dX4_readStatement_150 ?_
      rw [eR] at hQ
      exact hQ M2 h2 h3 hF2
  · have hwd : wdP B tk 0 := by
      rcases hv0 with h9 | h9
      · exact h9.2
      · exfalso; omega
    have eR : stR B z A tk = sOne B z A tk := by rw [stR_w hwd (by decide)]; rfl
    refine J_aload_n hx dX4_readStatement_9 (i := 0) rfl rfl ?_
    refine J_aload_n hx dX4_readStatement_10 (i := 1) rfl rfl ?_
    refine J_invVv (As := [vR (o + 23)]) (st := []) hx lk_X4_44 okX4_readOne dX4_readStatement_11 hC.k63 (by decide) rfl rfl rfl (Nat.le_of_ble_eq_true rfl) (Nat.zero_add _).symm (Nat.zero_add _).symm rfl (c_X4_readOne hC hE1 hwt hP1 hY1 hWA ?_)
    intro M2 h2 h3 hF2
    refine J_goto (tgt := 150) hx dX4_readStatement_14 (by decide) ?_
    refine J_vret hx hr dX4_readStatement_150 ?_
    rw [eR] at hQ
    exact hQ M2 h2 h3 hF2

set_option maxHeartbeats 4000000 in
theorem lp_X4_readInto {g : WG} {d : Nat} {T : TT} {M : MM} {o sz z : Nat} {B : Nat → Int} {Q : MVal → TT → MM → Nat → Prop} (hC : CT T o) {x : CX} (hx : OKx g x RX4 cX4_readInto (d + 7)) (hr : RTx g x (some .int) Q) {A : YA} {tk : TK} (k n : Nat) (M1 : MM) (hkn : k + n = 251) (hE1 : TPE T M1 (o + 63) z B) (hwt : wfT B z tk) (hP1 : TPc M1 (o + 63) tk (-1)) (hY1 : YN M1 (o + 23) A) (hWA : WFY A) (hpos : 2 * (n - 1) ≤ tk.1) (hF1 : FrZ o M M1) (hQ : ∀ M', M' (o + 63) 2 = (rdZ B z k n A tk).1 → ((rdZ B z k n A tk).1 = -1 → YN M' (o + 23) (rdZ B z k n A tk).2.1) → FrZ o M M' → Q (vI (((rdZ B z k n A tk).2.2 : Nat) : Int)) T M' sz) : Jd g x 16 [vR (o + 63), vR (o + 23), vI (((n : Nat) : Int))] [] T M1 sz 0 0 := by
  have hz2 := hE1.z2
  refine J_iload_n hx dX4_readInto_16 (i := 2) rfl rfl ?_
  refine J_sipush (v := 250) hx dX4_readInto_17 (by decide) ?_
  refine J_icmp_gt (tgt := 73) hx dX4_readInto_20 (by decide) (fun c1 => ?_) (fun c1 => ?_)
  · refine J_iconst (v := 0) hx dX4_readInto_73 (by decide) ?_
    refine J_iret hx hr dX4_readInto_74 ?_
    exfalso
    have := hwt.1
    omega
  · refine J_aload_n hx dX4_readInto_23 (i := 0) rfl rfl ?_
    refine J_aload_n hx dX4_readInto_24 (i := 1) rfl rfl ?_
    refine J_invVv (As := [vR (o + 23)]) (st := []) hx lk_X4_28 okX4_readStatement dX4_readInto_25 hC.k63 (by decide) rfl rfl rfl (Nat.le_of_ble_eq_true rfl) (Nat.zero_add _).symm (Nat.zero_add _).symm rfl (c_X4_readStatement hC hE1 hwt hP1 hY1 hWA ?_)
    intro M2 h2 h3 hF2
    have hok := stR_ok hWA hwt hz2
    obtain ⟨k, rfl⟩ : ∃ k9, k = k9 + 1 := ⟨k - 1, by omega⟩
    rw [rdZ_s] at hQ
    refine J_aload_n hx dX4_readInto_28 (i := 0) rfl rfl ?_
    refine J_getI2 (v := (stR B z A tk).1) hx fl_X4_15 cl_X4 dX4_readInto_29 hC.k63 (by decide) rfl h2 ?_
    refine J_iconst (v := -1) hx dX4_readInto_32 (by decide) ?_
    refine J_icmp_ne (tgt := 43) hx dX4_readInto_33 (by decide) (fun c2 => ?_) (fun c2 => ?_)
    · refine J_iload_n hx dX4_readInto_43 (i := 2) rfl rfl ?_
      refine J_iret hx hr dX4_readInto_44 ?_
      rw [if_pos (by omega)] at hQ
      exact hQ M2 h2 (fun h9 => absurd h9 (by assumption)) (hF1.tr hF2)
    · have e1 : (stR B z A tk).1 = -1 := by omega
      replace hok : WFY (stR B z A tk).2.1 ∧ wfT B z (stR B z A tk).2.2 ∧ tk.2.2 ≤ (stR B z A tk).2.2.1 := by
        rcases hok with h9 | h9
        · exfalso; omega
        · exact h9.2
      have hR := h3 e1
      have hE2 : TPE T M2 (o + 63) z B := ⟨hE1.1, by rw [hF2 _ _ (by omega) (by omega)]; exact hE1.z, hE1.z2, fun j9 h9 => by rw [hF2 _ _ (by omega) (by omega)]; exact hE1.2.2.2 j9 h9⟩
      rw [if_neg (fun q9 => q9 e1)] at hQ
      have hty := stR_1 e1
      have hlt := hwt.2.2.2.2.2.1 (by omega)
      refine J_aload_n hx dX4_readInto_36 (i := 0) rfl rfl ?_
      refine J_getI2 (v := (stR B z A tk).2.2.2.1) hx fl_X4_32 cl_X4 dX4_readInto_37 hC.k63 (by decide) rfl hR.2.2.1 ?_
      refine J_if_ne (tgt := 45) hx dX4_readInto_40 (by decide) (fun c3 => ?_) (fun c3 => ?_)
      · refine J_aload_n hx dX4_readInto_45 (i := 0) rfl rfl ?_
        refine J_getI2 (v := (stR B z A tk).2.2.2.1) hx fl_X4_32 cl_X4 dX4_readInto_46 hC.k63 (by decide) rfl hR.2.2.1 ?_
        refine J_iconst (v := 3) hx dX4_readInto_49 (by decide) ?_
        refine J_icmp_eq (tgt := 63) hx dX4_readInto_50 (by decide) (fun c4 => ?_) (fun c4 => ?_)
        · refine J_aload_n hx dX4_readInto_63 (i := 0) rfl rfl ?_
          refine J_invVv (As := []) (st := []) hx lk_X4_25 okX4_toNextToken dX4_readInto_64 hC.k63 (by decide) rfl rfl rfl (Nat.le_of_ble_eq_true rfl) (Nat.zero_add _).symm (Nat.zero_add _).symm rfl (c_X4_toNextToken hE2 (e := (stR B z A tk).2.2.2.2) (f := -1) hok.2.1.2.2.1 hR.2.1 hR.2.2.2.2 ?_)
          intro M3 hP3 hT3
          refine J_iinc (v := ((n : Nat) : Int) + 1) (lsn := [vR (o + 63), vR (o + 23), vI (((n : Nat) : Int) + 1)]) hx dX4_readInto_67 rfl (jinc1 (by omega) (by omega)) rfl rfl ?_
          refine J_goto (tgt := 16) hx dX4_readInto_70 (by decide) ?_
          rw [if_neg (by omega), if_neg (fun q9 => q9 (by omega))] at hQ
          have hlt3 := hok.2.1.2.2.2.2.2.1 (by omega)
          have hnw := tkN_wf B (e := (stR B z A tk).2.2.2.2) hok.2.1.2.2.1
          exact lp_X4_readInto hC hx hr k (n + 1) M3 (by omega) (hE2.fr hT3) hnw.1 hP3 (hR.1.t hT3) hok.1 (by have := hnw.2; show 2 * (n + 1 - 1) ≤ (tkN B z (stR B z A tk).2.2.2.2).1; omega) ((hF1.tr hF2).tr (FrZ.t hT3)) hQ
        · refine J_aload_n hx dX4_readInto_53 (i := 0) rfl rfl ?_
          refine J_aload_n hx dX4_readInto_54 (i := 0) rfl rfl ?_
          refine J_getI2 (v := (((stR B z A tk).2.2.1 : Nat) : Int)) hx fl_X4_35 cl_X4 dX4_readInto_55 hC.k63 (by decide) rfl hR.2.2.2.1 ?_
          refine J_putI hx fl_X4_15 cl_X4 dX4_readInto_58 hC.k63 (by decide) rfl (Or.inl rfl) (by decide) ?_
          generalize eM3 : up2 M2 (o + 63) 2 (((stR B z A tk).2.2.1 : Nat) : Int) = M3
          have hM3a : M3 (o + 63) 2 = (((stR B z A tk).2.2.1 : Nat) : Int) := by rw [← eM3]; exact up2_at
          have hM3o : ∀ b9 j9, (b9 ≠ o + 63 ∨ j9 ≠ 2) → M3 b9 j9 = M2 b9 j9 := fun b9 j9 h9 => by rw [← eM3]; exact up2_ne h9
          have hM3r : ∀ b9, b9 ≠ o + 63 → M3 b9 = M2 b9 := fun b9 h9 => by rw [← eM3]; exact up2_row h9
          refine J_iload_n hx dX4_readInto_61 (i := 2) rfl rfl ?_
          refine J_iret hx hr dX4_readInto_62 ?_
          rw [if_neg (by omega), if_pos (by omega)] at hQ
          exact hQ M3 hM3a (fun h9 => absurd h9 (show ((_ : Nat) : Int) ≠ -1 by omega)) ((hF1.tr hF2).tr (fun a9 j9 h8 h9 => hM3o _ _ (by omega)))
      · refine J_iload_n hx dX4_readInto_43 (i := 2) rfl rfl ?_
        refine J_iret hx hr dX4_readInto_44 ?_
        rw [if_pos (by omega)] at hQ
        exact hQ M2 (by rw [h2]; exact e1) (fun _ => hR.1) (hF1.tr hF2)
termination_by k
decreasing_by all_goals omega

set_option maxHeartbeats 4000000 in
theorem c_X4_readInto {g : WG} {d : Nat} {T : TT} {M : MM} {o sz z : Nat} {B : Nat → Int} {A : YA} {Q : MVal → TT → MM → Nat → Prop} (hC : CT T o) (hE : TPE T M (o + 63) z B) (hY : YN M (o + 23) A) (hWA : WFY A) (hQ : ∀ M', M' (o + 63) 2 = (rdZ B z 250 1 A (tkN B z 0)).1 → ((rdZ B z 250 1 A (tkN B z 0)).1 = -1 → YN M' (o + 23) (rdZ B z 250 1 A (tkN B z 0)).2.1) → FrZ o M M' → Q (vI (((rdZ B z 250 1 A (tkN B z 0)).2.2 : Nat) : Int)) T M' sz) : Ct g (d + 7) mX4_readInto [vR (o + 63), vR (o + 23)] T M sz 0 0 Q := by
  refine Ct_of2 (ls := [vR (o + 63), vR (o + 23), vU]) okX4_readInto rfl (Nat.le_of_ble_eq_true rfl) rfl ?_
  intro x hx hr hnm
  refine J_aload_n hx dX4_readInto_0 (i := 0) rfl rfl ?_
  refine J_iconst (v := -1) hx dX4_readInto_1 (by decide) ?_
  refine J_putI hx fl_X4_15 cl_X4 dX4_readInto_2 hC.k63 (by decide) rfl (Or.inl rfl) (by decide) ?_
  generalize eM1 : up2 M (o + 63) 2 (-1) = M1
  have hM1a : M1 (o + 63) 2 = (-1) := by rw [← eM1]; exact up2_at
  have hM1o : ∀ b9 j9, (b9 ≠ o + 63 ∨ j9 ≠ 2) → M1 b9 j9 = M b9 j9 := fun b9 j9 h9 => by rw [← eM1]; exact up2_ne h9
  have hM1r : ∀ b9, b9 ≠ o + 63 → M1 b9 = M b9 := fun b9 h9 => by rw [← eM1]; exact up2_row h9
  refine J_aload_n hx dX4_readInto_5 (i := 0) rfl rfl ?_
  refine J_iconst (v := 0) hx dX4_readInto_6 (by decide) ?_
  refine J_putI hx fl_X4_22 cl_X4 dX4_readInto_7 hC.k63 (by decide) rfl (Or.inl rfl) (by decide) ?_
  generalize eM2 : up2 M1 (o + 63) 5 0 = M2
  have hM2a : M2 (o + 63) 5 = 0 := by rw [← eM2]; exact up2_at
  have hM2o : ∀ b9 j9, (b9 ≠ o + 63 ∨ j9 ≠ 5) → M2 b9 j9 = M1 b9 j9 := fun b9 j9 h9 => by rw [← eM2]; exact up2_ne h9
  have hM2r : ∀ b9, b9 ≠ o + 63 → M2 b9 = M1 b9 := fun b9 h9 => by rw [← eM2]; exact up2_row h9
  have hT2 : FrT (o + 63) M M2 := fun a9 j9 h9 => by rw [hM2o _ _ (by omega), hM1o _ _ (by omega)]
  have hE3 := hE.fr hT2
  refine J_aload_n hx dX4_readInto_10 (i := 0) rfl rfl ?_
  refine J_invVv (As := []) (st := []) hx lk_X4_25 okX4_toNextToken dX4_readInto_11 hC.k63 (by decide) rfl rfl rfl (Nat.le_of_ble_eq_true rfl) (Nat.zero_add _).symm (Nat.zero_add _).symm rfl (c_X4_toNextToken hE3 (e := 0) (f := -1) (by omega) (by rw [hM2o _ _ (Or.inr (by decide))]; exact hM1a) hM2a ?_)
  intro M3 hP3 hT3
  refine J_iconst (v := 1) hx dX4_readInto_14 (by decide) ?_
  refine J_istore_n (lsn := [vR (o + 63), vR (o + 23), vI (1)]) hx dX4_readInto_15 (i := 2) rfl (Nat.le_of_ble_eq_true rfl) rfl rfl ?_
  have hnw := tkN_wf B (e := 0) (Nat.zero_le z)
  exact lp_X4_readInto hC hx hr 250 1 M3 (by omega) (hE3.fr hT3) hnw.1 hP3 ((hY.t hT2).t hT3) hWA (by omega) ((FrZ.t hT2).tr (FrZ.t hT3)) hQ

set_option maxHeartbeats 4000000 in
theorem c2_X4_clear {g : WG} {d : Nat} {T : TT} {M : MM} {q sz n : Nat} {Q : MVal → TT → MM → Nat → Prop} (hk : (T q).1 = 4) (hz : M q 1 = ((n : Nat) : Int)) (hQ : Q (vI ((n : Nat) : Int)) T (up2 M q 1 0) sz) : Ct g (d + 1) mX4_clear [vR (q)] T M sz 0 0 Q := by
  refine Ct_of2 (ls := [vR (q), vU]) okX4_clear rfl (Nat.le_of_ble_eq_true rfl) rfl ?_
  intro x hx hr hnm
  refine J_aload_n hx dX4_clear_0 (i := 0) rfl rfl ?_
  refine J_getI2 (v := ((n : Nat) : Int)) hx fl_X4_19 cl_X4 dX4_clear_1 hk (by decide) rfl hz ?_
  refine J_istore_n (lsn := [vR (q), vI (((n : Nat) : Int))]) hx dX4_clear_4 (i := 1) rfl (Nat.le_of_ble_eq_true rfl) rfl rfl ?_
  refine J_aload_n hx dX4_clear_5 (i := 0) rfl rfl ?_
  refine J_iconst (v := 0) hx dX4_clear_6 (by decide) ?_
  refine J_putI hx fl_X4_19 cl_X4 dX4_clear_7 hk (by decide) rfl (Or.inl rfl) (by decide) ?_
  refine J_iload_n hx dX4_clear_10 (i := 1) rfl rfl ?_
  refine J_iret hx hr dX4_clear_11 ?_
  exact hQ

set_option maxHeartbeats 4000000 in
theorem c2_X6_refuse {g : WG} {d : Nat} {T : TT} {M : MM} {o sz : Nat} {S : ST} {Q : MVal → TT → MM → Nat → Prop} (hC : CT T o) (hN : CN M o S) (hW : WFS S) (hQ : Q (vI (-2)) T (up2 M (o + 66) 0 (M (o + 66) 0 + 1)) sz) : Ct g (d + 1) mX6_refuse [vR (o), vI ((-2))] T M sz 0 0 Q := by
  refine Ct_of2 (ls := [vR (o), vI ((-2)), vU]) okX6_refuse rfl (Nat.le_of_ble_eq_true rfl) rfl ?_
  intro x hx hr hnm
  have hb := hN.rf (j := 0) (by decide)
  have hb2 := hW.r (j := 0) (by decide)
  refine J_bipush (v := -2) hx dX6_refuse_0 (by decide) ?_
  refine J_iload_n hx dX6_refuse_2 (i := 1) rfl rfl ?_
  refine J_isub (v := 0) hx dX6_refuse_3 (by decide) ?_
  refine J_istore_n (lsn := [vR (o), vI ((-2)), vI (0)]) hx dX6_refuse_4 (i := 2) rfl (Nat.le_of_ble_eq_true rfl) rfl rfl ?_
  refine J_iload_n hx dX6_refuse_5 (i := 2) rfl rfl ?_
  refine J_if_lt (tgt := 28) hx dX6_refuse_6 (by decide) (fun c9 => absurd c9 (by decide)) (fun _ => ?_)
  refine J_iload_n hx dX6_refuse_9 (i := 2) rfl rfl ?_
  refine J_aload_n hx dX6_refuse_10 (i := 0) rfl rfl ?_
  refine J_getR (b := o + 66) hx fl_X6_58 cl_X6 dX6_refuse_11 hC.o (by decide) rfl hC.r8 ?_
  refine J_alen2 (v := 5) hx dX6_refuse_14 hC.k66 (by rw [hC.n66]; decide) ?_
  refine J_icmp_ge (tgt := 28) hx dX6_refuse_15 (by decide) (fun c9 => absurd c9 (by decide)) (fun _ => ?_)
  refine J_aload_n hx dX6_refuse_18 (i := 0) rfl rfl ?_
  refine J_getR (b := o + 66) hx fl_X6_58 cl_X6 dX6_refuse_19 hC.o (by decide) rfl hC.r8 ?_
  refine J_iload_n hx dX6_refuse_22 (i := 2) rfl rfl ?_
  refine J_dup2 hx dX6_refuse_23 rfl rfl ?_
  refine J_iald2 (v := M (o + 66) 0) hx 0 dX6_refuse_24 hC.k66 (by omega) (by rw [hC.n66]; omega) rfl ?_
  refine J_iconst (v := 1) hx dX6_refuse_25 (by decide) ?_
  refine J_iadd (v := M (o + 66) 0 + 1) hx dX6_refuse_26 (w32_id (by omega) (by omega)) ?_
  refine J_iast hx 0 dX6_refuse_27 hC.k66 (by omega) (by rw [hC.n66]; omega) ?_
  refine J_iload_n hx dX6_refuse_28 (i := 1) rfl rfl ?_
  refine J_iret hx hr dX6_refuse_29 ?_
  exact hQ

set_option maxHeartbeats 4000000 in
theorem c_X6_yard {g : WG} {d : Nat} {T : TT} {M : MM} {o sz : Nat} {S : ST} {Q : MVal → TT → MM → Nat → Prop} (hC : CT T o) (hN : CN M o S) (hW : WFS S) (hQ : CQ o T M sz Q (a_yard S)) : Ct g (d + 8) mX6_yard [vR (o)] T M sz 0 0 Q := by
  refine Ct_of2 (ls := [vR (o), vU]) okX6_yard rfl (Nat.le_of_ble_eq_true rfl) rfl ?_
  intro x hx hr hnm
  refine J_aload_n hx dX6_yard_0 (i := 0) rfl rfl ?_
  refine J_getR (b := o + 23) hx fl_X6_19 cl_X6 dX6_yard_1 hC.o (by decide) rfl hC.r2 ?_
  refine J_aload_n hx dX6_yard_4 (i := 0) rfl rfl ?_
  refine J_getR (b := o + 1) hx fl_X6_10 cl_X6 dX6_yard_5 hC.o (by decide) rfl hC.r0 ?_
  refine J_invVv (As := [vR (o + 1)]) (st := []) hx lk_X6_180 okX5_becomeAs dX6_yard_8 hC.y2.o (by decide) rfl rfl rfl (Nat.le_of_ble_eq_true rfl) (Nat.zero_add _).symm (Nat.zero_add _).symm rfl (c_X5_becomeAs hC.y2 hC.y0 hN.y hW.y (by omega) ?_)
  intro M1 hY1 hF1
  have hE1 : TPE T M1 (o + 63) S.tp.1 S.tp.2 := ⟨⟨hC.k63, hC.t0, hC.k64, hC.n64⟩, by rw [hF1 _ (by omega)]; exact hN.tz, hW.t, fun j9 h9 => ⟨by rw [hF1 _ (by omega)]; exact hN.tb h9, hW.b h9⟩⟩
  refine J_aload_n hx dX6_yard_11 (i := 0) rfl rfl ?_
  refine J_getR (b := o + 63) hx fl_X6_48 cl_X6 dX6_yard_12 hC.o (by decide) rfl hC.r6 ?_
  refine J_aload_n hx dX6_yard_15 (i := 0) rfl rfl ?_
  refine J_getR (b := o + 23) hx fl_X6_19 cl_X6 dX6_yard_16 hC.o (by decide) rfl hC.r2 ?_
  refine J_invV (As := [vR (o + 23)]) (st := []) hx lk_X6_183 okX4_readInto dX6_yard_19 hC.k63 (by decide) rfl rfl rfl (Nat.le_of_ble_eq_true rfl) (Nat.zero_add _).symm (Nat.zero_add _).symm rfl (c_X4_readInto hC hE1 hY1 hW.y ?_)
  intro M2 h2 h3 hF2
  have hrg := rdZ_wf (B := S.tp.2) hW.t 250 1 hW.y (tkN_wf S.tp.2 (e := 0) (Nat.zero_le _)).1
  have hN2 : CN M2 o S := hN.same (fun a9 h9 => funext fun j9 => by rw [hF2 a9 j9 (by omega) (by omega), hF1 a9 (by omega)]) (by rw [hF2 _ _ (by omega) (by omega), hF1 _ (by omega)]) (by rw [hF2 _ _ (by omega) (by omega), hF1 _ (by omega)])
  refine J_istore_n (lsn := [vR (o), vI ((((rdZ S.tp.2 S.tp.1 250 1 S.1 (tkN S.tp.2 S.tp.1 0)).2.2 : Nat) : Int))]) hx dX6_yard_22 (i := 1) rfl (Nat.le_of_ble_eq_true rfl) rfl rfl ?_
  refine J_aload_n hx dX6_yard_23 (i := 0) rfl rfl ?_
  refine J_getR (b := o + 63) hx fl_X6_48 cl_X6 dX6_yard_24 hC.o (by decide) rfl hC.r6 ?_
  refine J_invV (As := []) (st := []) hx lk_X6_176 okX4_clear dX6_yard_27 hC.k63 (by decide) rfl rfl rfl (Nat.le_of_ble_eq_true rfl) (Nat.zero_add _).symm (Nat.zero_add _).symm rfl (c2_X4_clear hC.k63 hN2.tz ?_)
  generalize eM3 : up2 M2 (o + 63) 1 0 = M3
  have hM3a : M3 (o + 63) 1 = 0 := by rw [← eM3]; exact up2_at
  have hM3o : ∀ b9 j9, (b9 ≠ o + 63 ∨ j9 ≠ 1) → M3 b9 j9 = M2 b9 j9 := fun b9 j9 h9 => by rw [← eM3]; exact up2_ne h9
  have hN3 : CN M3 o (tpS S (0, S.tp.2)) := hN2.tape hM3a (fun j9 h9 => absurd h9 (Nat.not_lt_zero j9)) (fun a9 h8 h9 => funext fun j9 => hM3o _ _ (Or.inl h8))
  have hW3 : WFS (tpS S (0, S.tp.2)) := ⟨hW.1, hW.2.1, hW.2.2.1, ⟨Nat.zero_le _, fun j9 h9 => absurd h9 (Nat.not_lt_zero j9)⟩, hW.2.2.2.2⟩
  have hf3 : ∀ b, (b < o ∨ o + 83 ≤ b) → M3 b = M b := fun b9 h9 => funext fun j9 => by rw [hM3o _ _ (Or.inl (by omega)), hF2 _ _ (by omega) (by omega), hF1 _ (by omega)]
  refine J_pop hx dX6_yard_30 rfl ?_
  refine J_aload_n hx dX6_yard_31 (i := 0) rfl rfl ?_
  refine J_getR (b := o + 63) hx fl_X6_48 cl_X6 dX6_yard_32 hC.o (by decide) rfl hC.r6 ?_
  refine J_getI2 (v := (rdZ S.tp.2 S.tp.1 250 1 S.1 (tkN S.tp.2 S.tp.1 0)).1) hx fl_X6_187 cl_X4 dX6_yard_35 hC.k63 (by decide) rfl (by rw [hM3o _ _ (Or.inr (by decide))]; exact h2) ?_
  refine J_iconst (v := -1) hx dX6_yard_38 (by decide) ?_
  refine J_icmp_eq (tgt := 60) hx dX6_yard_39 (by decide) (fun c1 => ?_) (fun c1 => ?_)
  · refine J_aload_n hx dX6_yard_60 (i := 0) rfl rfl ?_
    refine J_getR (b := o + 1) hx fl_X6_10 cl_X6 dX6_yard_61 hC.o (by decide) rfl hC.r0 ?_
    refine J_aload_n hx dX6_yard_64 (i := 0) rfl rfl ?_
    refine J_getR (b := o + 23) hx fl_X6_19 cl_X6 dX6_yard_65 hC.o (by decide) rfl hC.r2 ?_
    refine J_invVv (As := [vR (o + 23)]) (st := []) hx lk_X6_180 okX5_becomeAs dX6_yard_68 hC.y0.o (by decide) rfl rfl rfl (Nat.le_of_ble_eq_true rfl) (Nat.zero_add _).symm (Nat.zero_add _).symm rfl (c_X5_becomeAs hC.y0 hC.y2 ((h3 (by omega)).same (fun a9 h8 h9 => funext fun j9 => hM3o _ _ (Or.inl (by omega)))) hrg.1 (by omega) ?_)
    intro M5 hY5 hF5
    refine J_iload_n hx dX6_yard_71 (i := 1) rfl rfl ?_
    refine J_iret hx hr dX6_yard_72 ?_
    exact hQ.to (v := (((rdZ S.tp.2 S.tp.1 250 1 S.1 (tkN S.tp.2 S.tp.1 0)).2.2 : Nat) : Int)) (S := yS (tpS S (0, S.tp.2)) (rdZ S.tp.2 S.tp.1 250 1 S.1 (tkN S.tp.2 S.tp.1 0)).2.1) (by unfold a_yard; rw [if_neg (by omega)]) hC (hN3.yard hY5 hF5) (fun b9 h9 => by rw [hF5 b9 (by omega)]; exact hf3 b9 h9)
  · refine J_aload_n hx dX6_yard_42 (i := 0) rfl rfl ?_
    refine J_bipush (v := -2) hx dX6_yard_43 (by decide) ?_
    refine J_invV (As := [vI ((-2))]) (st := []) hx lk_X6_67 okX6_refuse dX6_yard_45 hC.o (by decide) rfl rfl rfl (Nat.le_of_ble_eq_true rfl) (Nat.zero_add _).symm (Nat.zero_add _).symm rfl (c2_X6_refuse hC hN3 hW3 ?_)
    refine J_pop hx dX6_yard_48 rfl ?_
    refine J_bipush (v := -20) hx dX6_yard_49 (by decide) ?_
    refine J_aload_n hx dX6_yard_51 (i := 0) rfl rfl ?_
    refine J_getR (b := o + 63) hx fl_X6_48 cl_X6 dX6_yard_52 hC.o (by decide) rfl hC.r6 ?_
    refine J_getI2 (v := (rdZ S.tp.2 S.tp.1 250 1 S.1 (tkN S.tp.2 S.tp.1 0)).1) hx fl_X6_187 cl_X4 dX6_yard_55 hC.k63 (by decide) rfl (by rw [up2_row (by omega), hM3o _ _ (Or.inr (by decide))]; exact h2) ?_
    refine J_isub (v := (-20) - ((rdZ S.tp.2 S.tp.1 250 1 S.1 (tkN S.tp.2 S.tp.1 0)).1)) hx dX6_yard_58 (w32_id (by omega) (by omega)) ?_
    refine J_iret hx hr dX6_yard_59 ?_
    exact hQ.to (v := -20 - (rdZ S.tp.2 S.tp.1 250 1 S.1 (tkN S.tp.2 S.tp.1 0)).1) (S := rfS (tpS S (0, S.tp.2)) 0) (by unfold a_yard; rw [if_pos (by omega)]) hC (hN3.refuse (by decide)) (fun b9 h9 => by rw [up2_row (by omega)]; exact hf3 b9 h9)

