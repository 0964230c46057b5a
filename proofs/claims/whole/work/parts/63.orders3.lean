set_option maxHeartbeats 4000000 in
theorem lpc_X7_seekStand {g : WG} {d : Nat} {T : TT} {M : MM} {r sz c : Nat} {Q : MVal → TT → MM → Nat → Prop} {pre : List Nat} {u le : Int} (hT : MT T r) (h8 : pre.length ≤ 8) (hst : ∀ j, j < pre.length → M (r + 27) j = ((pre.getD j 0 : Nat) : Int)) {x : CX} (hx : OKx g x RX7 cX7_seekStand (d + 4)) (hr : RTx g x none Q) (hQ : ∀ M', (∀ j, j < pre.length → M' (r + 28) j = ((pre.getD j 0 : Nat) : Int)) → (∀ b, b ≠ r + 28 → M' b = M b) → Q vU T M' sz) (k : Nat) (M1 : MM) (hk : k ≤ pre.length) (h0 : ∀ j, j < k → M1 (r + 28) j = ((pre.getD j 0 : Nat) : Int)) (ho1 : ∀ b, b ≠ r + 28 → M1 b = M b) : Jd g x 47 [vR (r), vI (((c : Nat) : Int)), vI (((pre.length : Nat) : Int)), vI (u), vI (le), vI (((k : Nat) : Int))] [] T M1 sz 0 0 := by
  refine J_iload hx dX7_seekStand_47 rfl ?_
  refine J_iload_n hx dX7_seekStand_49 (i := 2) rfl rfl ?_
  refine J_icmp_ge (tgt := 73) hx dX7_seekStand_50 (by decide) (fun c1 => ?_) (fun c1 => ?_)
  · refine J_vret hx hr dX7_seekStand_73 ?_
    have ek : k = pre.length := by omega
    subst ek
    exact hQ M1 h0 ho1
  · refine J_aload_n hx dX7_seekStand_53 (i := 0) rfl rfl ?_
    refine J_getR (b := r + 28) hx fl_X7_79 cl_X7 dX7_seekStand_54 hT.o (by decide) rfl hT.r35 ?_
    refine J_iload hx dX7_seekStand_57 rfl ?_
    refine J_aload_n hx dX7_seekStand_59 (i := 0) rfl rfl ?_
    refine J_getR (b := r + 27) hx fl_X7_76 cl_X7 dX7_seekStand_60 hT.o (by decide) rfl hT.r34 ?_
    refine J_iload hx dX7_seekStand_63 rfl ?_
    refine J_iald2 (v := ((pre.getD k 0 : Nat) : Int)) hx k dX7_seekStand_65 hT.k27 (by omega) (hT.l27 (by omega)) (by rw [ho1 _ (by omega)]; exact hst k (by omega)) ?_
    refine J_iast hx k dX7_seekStand_66 hT.k28 (by omega) (hT.l28 (by omega)) ?_
    generalize eM2 : up2 M1 (r + 28) k ((pre.getD k 0 : Nat) : Int) = M2
    have hM2a : M2 (r + 28) k = ((pre.getD k 0 : Nat) : Int) := by rw [← eM2]; exact up2_at
    have hM2o : ∀ b9 j9, (b9 ≠ r + 28 ∨ j9 ≠ k) → M2 b9 j9 = M1 b9 j9 := fun b9 j9 h9 => by rw [← eM2]; exact up2_ne h9
    have hM2r : ∀ b9, b9 ≠ r + 28 → M2 b9 = M1 b9 := fun b9 h9 => by rw [← eM2]; exact up2_row h9
    refine J_iinc (v := ((k : Nat) : Int) + 1) (lsn := [vR (r), vI (((c : Nat) : Int)), vI (((pre.length : Nat) : Int)), vI (u), vI (le), vI (((k : Nat) : Int) + 1)]) hx dX7_seekStand_67 rfl (jinc1 (by omega) (by omega)) rfl rfl ?_
    refine J_goto (tgt := 47) hx dX7_seekStand_70 (by decide) ?_
    exact lpc_X7_seekStand hT h8 hst hx hr hQ (k + 1) M2 (by omega) (fun j9 h9 => by
        by_cases e : j9 = k
        · subst e; exact hM2a
        · rw [hM2o _ _ (Or.inr e)]; exact h0 j9 (by omega)) (fun b9 h9 => by rw [hM2r _ h9]; exact ho1 b9 h9)
termination_by pre.length - k
decreasing_by all_goals omega

set_option maxHeartbeats 4000000 in
theorem sk_0 {g : WG} {d : Nat} {T : TT} {r sz c : Nat} {A : YA} (hT : MT T r) (hW : WFY A) (hc : c < 2) (h2 : 2 ≤ (A.ch c).length) : SKc g (d + 4) 0 r c sz T A := by
  intro M pre u σ Q hY1 hs hK1 hin hok hk hQ
  refine Ct_of2 (ls := [vR (r), vI (((c : Nat) : Int)), vI (((pre.length : Nat) : Int)), vI (u), vU, vU]) okX7_seekStand rfl (Nat.le_of_ble_eq_true rfl) rfl ?_
  intro x hx hr hnm
  have hl8 := hW.len8 hc
  have hokr := hok.2
  refine J_iload_n hx dX7_seekStand_0 (i := 2) rfl rfl ?_
  refine J_aload_n hx dX7_seekStand_1 (i := 0) rfl rfl ?_
  refine J_getR (b := r + 25) hx fl_X7_57 cl_X7 dX7_seekStand_2 hT.o (by decide) rfl hT.r16 ?_
  refine J_iload_n hx dX7_seekStand_5 (i := 1) rfl rfl ?_
  refine J_iald2 (v := (((A.ch c).length : Nat) : Int)) hx c dX7_seekStand_6 hT.k25 (by omega) (hT.l25 (by omega)) (hY1.sz (by omega)) ?_
  have rg1 := hW.len8 (c := c) (by omega)
  have rg2 := hW.lenN (c := c) (by omega)
  refine J_icmp_ne (tgt := 74) hx dX7_seekStand_7 (by decide) (fun c3 => ?_) (fun c3 => ?_)
  · exfalso; omega
  · refine J_aload_n hx dX7_seekStand_10 (i := 0) rfl rfl ?_
    refine J_aload_n hx dX7_seekStand_11 (i := 0) rfl rfl ?_
    refine J_getR (b := r + 27) hx fl_X7_76 cl_X7 dX7_seekStand_12 hT.o (by decide) rfl hT.r34 ?_
    refine J_iload_n hx dX7_seekStand_15 (i := 2) rfl rfl ?_
    refine J_invV (As := [vR (r + 27), vI (((pre.length : Nat) : Int))]) (st := []) hx lk_X7_270 okX7_leastOf dX7_seekStand_16 hT.o (by decide) rfl rfl rfl (Nat.le_of_ble_eq_true rfl) (Nat.zero_add _).symm (Nat.zero_add _).symm rfl (c_X7_leastOf hT hY1 hW (l := pre) (q := r + 27) hT.k27 hT.n27 hK1.2.1 (fun p9 h9 => (hin.2 p9 h9).1) (by omega) ?_)
    rw [least1_S (by omega)]
    have hlr := leastS_rg hW (l := pre) (fun q9 h9 => (hin.2 q9 h9).1)
    refine J_istore (lsn := [vR (r), vI (((c : Nat) : Int)), vI (((pre.length : Nat) : Int)), vI (u), vI (leastS A pre), vU]) hx dX7_seekStand_19 (Nat.le_of_ble_eq_true rfl) rfl rfl ?_
    refine J_aload_n hx dX7_seekStand_21 (i := 0) rfl rfl ?_
    refine J_getI2 (v := σ.1) hx fl_X7_308 cl_X7 dX7_seekStand_22 hT.o (by decide) rfl hK1.1 ?_
    refine J_iconst (v := -1) hx dX7_seekStand_25 (by decide) ?_
    refine J_icmp_eq (tgt := 38) hx dX7_seekStand_26 (by decide) (fun c4 => ?_) (fun c4 => ?_)
    · refine J_aload_n hx dX7_seekStand_38 (i := 0) rfl rfl ?_
      refine J_iload hx dX7_seekStand_39 rfl ?_
      refine J_putI hx fl_X7_308 cl_X7 dX7_seekStand_41 hT.o (by decide) rfl (Or.inl rfl) (by decide) ?_
      generalize eM1 : up2 M r 36 (leastS A pre) = M1
      have hM1a : M1 r 36 = leastS A pre := by rw [← eM1]; exact up2_at
      have hM1o : ∀ b9 j9, (b9 ≠ r ∨ j9 ≠ 36) → M1 b9 j9 = M b9 j9 := fun b9 j9 h9 => by rw [← eM1]; exact up2_ne h9
      have hM1r : ∀ b9, b9 ≠ r → M1 b9 = M b9 := fun b9 h9 => by rw [← eM1]; exact up2_row h9
      refine J_iconst (v := 0) hx dX7_seekStand_44 (by decide) ?_
      refine J_istore (lsn := [vR (r), vI (((c : Nat) : Int)), vI (((pre.length : Nat) : Int)), vI (u), vI (leastS A pre), vI (0)]) hx dX7_seekStand_45 (Nat.le_of_ble_eq_true rfl) rfl rfl ?_
      have eu : srch A c 0 pre σ = (leastS A pre, pre) := by show updS A pre σ = _; unfold updS; rw [if_pos (by omega)]
      rw [eu] at hQ
      exact lpc_X7_seekStand (pre := pre) hT (by omega) (fun j9 h9 => by rw [hM1r _ (by omega)]; exact hK1.2.1 j9 h9) hx hr (fun M9 h8 h9 => hQ M9 ⟨by rw [h9 _ (by omega), hM1a], fun j7 h7 => by rw [h9 _ (by omega), hM1r _ (by omega)]; exact hK1.2.1 j7 h7, fun _ j7 h7 => h8 j7 (by omega)⟩ (fun q7 j7 k1 k2 => by rw [h9 _ (by omega), hM1o _ _ (by omega)])) 0 M1 (by omega) (fun j h => absurd h (Nat.not_lt_zero j)) (fun _ _ => rfl)
    · refine J_iload hx dX7_seekStand_29 rfl ?_
      refine J_aload_n hx dX7_seekStand_31 (i := 0) rfl rfl ?_
      refine J_getI2 (v := σ.1) hx fl_X7_308 cl_X7 dX7_seekStand_32 hT.o (by decide) rfl hK1.1 ?_
      refine J_icmp_le (tgt := 73) hx dX7_seekStand_35 (by decide) (fun c5 => ?_) (fun c5 => ?_)
      · refine J_vret hx hr dX7_seekStand_73 ?_
        have eu : srch A c 0 pre σ = σ := by show updS A pre σ = _; unfold updS; rw [if_neg (by omega)]
        rw [eu] at hQ
        exact hQ M hK1 (fun _ _ _ _ => rfl)
      · refine J_aload_n hx dX7_seekStand_38 (i := 0) rfl rfl ?_
        refine J_iload hx dX7_seekStand_39 rfl ?_
        refine J_putI hx fl_X7_308 cl_X7 dX7_seekStand_41 hT.o (by decide) rfl (Or.inl rfl) (by decide) ?_
        generalize eM1 : up2 M r 36 (leastS A pre) = M1
        have hM1a : M1 r 36 = leastS A pre := by rw [← eM1]; exact up2_at
        have hM1o : ∀ b9 j9, (b9 ≠ r ∨ j9 ≠ 36) → M1 b9 j9 = M b9 j9 := fun b9 j9 h9 => by rw [← eM1]; exact up2_ne h9
        have hM1r : ∀ b9, b9 ≠ r → M1 b9 = M b9 := fun b9 h9 => by rw [← eM1]; exact up2_row h9
        refine J_iconst (v := 0) hx dX7_seekStand_44 (by decide) ?_
        refine J_istore (lsn := [vR (r), vI (((c : Nat) : Int)), vI (((pre.length : Nat) : Int)), vI (u), vI (leastS A pre), vI (0)]) hx dX7_seekStand_45 (Nat.le_of_ble_eq_true rfl) rfl rfl ?_
        have eu : srch A c 0 pre σ = (leastS A pre, pre) := by show updS A pre σ = _; unfold updS; rw [if_pos (by omega)]
        rw [eu] at hQ
        exact lpc_X7_seekStand (pre := pre) hT (by omega) (fun j9 h9 => by rw [hM1r _ (by omega)]; exact hK1.2.1 j9 h9) hx hr (fun M9 h8 h9 => hQ M9 ⟨by rw [h9 _ (by omega), hM1a], fun j7 h7 => by rw [h9 _ (by omega), hM1r _ (by omega)]; exact hK1.2.1 j7 h7, fun _ j7 h7 => h8 j7 (by omega)⟩ (fun q7 j7 k1 k2 => by rw [h9 _ (by omega), hM1o _ _ (by omega)])) 0 M1 (by omega) (fun j h => absurd h (Nat.not_lt_zero j)) (fun _ _ => rfl)

set_option maxHeartbeats 4000000 in
theorem lp_X7_seekStand {g : WG} {d : Nat} {T : TT} {r sz c k : Nat} {A : YA} (hT : MT T r) (hW : WFY A) (hc : c < 2) (h2 : 2 ≤ (A.ch c).length)  {x : CX} {M : MM} {Q : MVal → TT → MM → Nat → Prop} (hx : OKx g x RX7 cX7_seekStand (d + 5)) (hr : RTx g x none Q) (hI : SKc g (d + 4) k r c sz T A) {pre : List Nat} {u : Int} {σ : SG} (hs : seenL u pre) (hin : inC A c pre) (hok : okG A c σ) (hk : pre.length + (k + 1) = (A.ch c).length) (hQ : ∀ M', SKn M' r (A.ch c).length pre (srch A c (k + 1) pre σ) → FrS r M M' → Q vU T M' sz) (i : Nat) (u5 : MVal) (M1 : MM) (hY1 : MN M1 r A) (hK1 : SKn M1 r (A.ch c).length pre (srL (srF A c k pre) i σ)) (hF1 : FrS r M M1) (hi : i ≤ A.n) : Jd g x 77 [vR (r), vI (((c : Nat) : Int)), vI (((pre.length : Nat) : Int)), vI (u), vI (((i : Nat) : Int)), u5] [] T M1 sz 0 0 := by
  have hn8 := hW.n8
  have hl8 := hW.len8 hc
  refine J_iload hx dX7_seekStand_77 rfl ?_
  refine J_aload_n hx dX7_seekStand_79 (i := 0) rfl rfl ?_
  refine J_getI2 (v := ((A.n : Nat) : Int)) hx fl_X7_82 cl_X7 dX7_seekStand_80 hT.o (by decide) rfl hY1.pp ?_
  have rg1 := hW.n8
  refine J_icmp_ge (tgt := 133) hx dX7_seekStand_83 (by decide) (fun c2 => ?_) (fun c2 => ?_)
  · refine J_vret hx hr dX7_seekStand_133 ?_
    have ei : i = A.n := by omega
    subst ei
    exact hQ M1 hK1 hF1
  · refine J_iload_n hx dX7_seekStand_86 (i := 3) rfl rfl ?_
    refine J_iload hx dX7_seekStand_87 rfl ?_
    refine J_ishr (v := jshr u ((i : Nat) : Int)) hx dX7_seekStand_89 rfl ?_
    refine J_iconst (v := 1) hx dX7_seekStand_90 (by decide) ?_
    refine J_iand (v := jand (jshr u ((i : Nat) : Int)) 1) hx dX7_seekStand_91 rfl ?_
    refine J_if_ne (tgt := 127) hx dX7_seekStand_92 (by decide) (fun c3 => ?_) (fun c3 => ?_)
    · refine J_iinc (v := ((i : Nat) : Int) + 1) (lsn := [vR (r), vI (((c : Nat) : Int)), vI (((pre.length : Nat) : Int)), vI (u), vI (((i : Nat) : Int) + 1), u5]) hx dX7_seekStand_127 rfl (jinc1 (by omega) (by omega)) rfl rfl ?_
      refine J_goto (tgt := 77) hx dX7_seekStand_130 (by decide) ?_
      have et : srL (srF A c k pre) (i + 1) σ = (srL (srF A c k pre) i σ) := by
        show srF A c k pre i (srL (srF A c k pre) i σ) = (srL (srF A c k pre) i σ)
        rw [srF_n (fun z => z.1 ((hs.2 i (by omega)).mp (by assumption)))]
      exact lp_X7_seekStand hT hW hc h2 hx hr hI hs hin hok hk hQ (i + 1) _ M1 hY1 (by rw [et]; exact hK1) hF1 (by omega)
    · refine J_aload_n hx dX7_seekStand_95 (i := 0) rfl rfl ?_
      refine J_iload hx dX7_seekStand_96 rfl ?_
      refine J_invV (As := [vI (((i : Nat) : Int))]) (st := []) hx lk_X7_119 okX7_chainAt dX7_seekStand_98 hT.o (by decide) rfl rfl rfl (Nat.le_of_ble_eq_true rfl) (Nat.zero_add _).symm (Nat.zero_add _).symm rfl (c_X7_chainAt hT hY1 hW (p := i) (by omega) ?_)
      have rg4 := A.co2 i
      refine J_iload_n hx dX7_seekStand_101 (i := 1) rfl rfl ?_
      refine J_icmp_ne (tgt := 127) hx dX7_seekStand_102 (by decide) (fun c5 => ?_) (fun c5 => ?_)
      · refine J_iinc (v := ((i : Nat) : Int) + 1) (lsn := [vR (r), vI (((c : Nat) : Int)), vI (((pre.length : Nat) : Int)), vI (u), vI (((i : Nat) : Int) + 1), u5]) hx dX7_seekStand_127 rfl (jinc1 (by omega) (by omega)) rfl rfl ?_
        refine J_goto (tgt := 77) hx dX7_seekStand_130 (by decide) ?_
        have et : srL (srF A c k pre) (i + 1) σ = (srL (srF A c k pre) i σ) := by
          show srF A c k pre i (srL (srF A c k pre) i σ) = (srL (srF A c k pre) i σ)
          rw [srF_n (fun z => (by omega))]
        exact lp_X7_seekStand hT hW hc h2 hx hr hI hs hin hok hk hQ (i + 1) _ M1 hY1 (by rw [et]; exact hK1) hF1 (by omega)
      · refine J_aload_n hx dX7_seekStand_105 (i := 0) rfl rfl ?_
        refine J_getR (b := r + 27) hx fl_X7_76 cl_X7 dX7_seekStand_106 hT.o (by decide) rfl hT.r34 ?_
        refine J_iload_n hx dX7_seekStand_109 (i := 2) rfl rfl ?_
        refine J_iload hx dX7_seekStand_110 rfl ?_
        refine J_iast hx pre.length dX7_seekStand_112 hT.k27 (by omega) (hT.l27 (by omega)) ?_
        generalize eM2 : up2 M1 (r + 27) pre.length ((i : Nat) : Int) = M2
        have hM2a : M2 (r + 27) pre.length = ((i : Nat) : Int) := by rw [← eM2]; exact up2_at
        have hM2o : ∀ b9 j9, (b9 ≠ r + 27 ∨ j9 ≠ pre.length) → M2 b9 j9 = M1 b9 j9 := fun b9 j9 h9 => by rw [← eM2]; exact up2_ne h9
        have hM2r : ∀ b9, b9 ≠ r + 27 → M2 b9 = M1 b9 := fun b9 h9 => by rw [← eM2]; exact up2_row h9
        refine J_aload_n hx dX7_seekStand_113 (i := 0) rfl rfl ?_
        refine J_iload_n hx dX7_seekStand_114 (i := 1) rfl rfl ?_
        refine J_iload_n hx dX7_seekStand_115 (i := 2) rfl rfl ?_
        refine J_iconst (v := 1) hx dX7_seekStand_116 (by decide) ?_
        refine J_iadd (v := (((pre ++ [i]).length : Nat) : Int)) hx dX7_seekStand_117 (by rw [w32_id (by omega) (by omega), List.length_append, List.length_singleton]; omega) ?_
        refine J_iload_n hx dX7_seekStand_118 (i := 3) rfl rfl ?_
        refine J_iconst (v := 1) hx dX7_seekStand_119 (by decide) ?_
        refine J_iload hx dX7_seekStand_120 rfl ?_
        refine J_ishl (v := jshl 1 ((i : Nat) : Int)) hx dX7_seekStand_122 rfl ?_
        refine J_ior (v := jor u (jshl 1 ((i : Nat) : Int))) hx dX7_seekStand_123 rfl ?_
        have hnp : i ∉ pre := fun z => (hs.2 i (by omega)).mpr z (by assumption)
        have hokt := srL_ok (fun p9 τ9 h8 h9 => srF_ok hW hc hin hk p9 τ9 h8 h9) i σ (by omega) hok
        refine J_invVv (As := [vI (((c : Nat) : Int)), vI ((((pre ++ [i]).length : Nat) : Int)), vI (jor u (jshl 1 ((i : Nat) : Int)))]) (st := []) hx lk_X7_311 okX7_seekStand dX7_seekStand_124 hT.o (by decide) rfl rfl rfl (Nat.le_of_ble_eq_true rfl) (Nat.zero_add _).symm (Nat.zero_add _).symm rfl (hI M2 (pre ++ [i]) _ (srL (srF A c k pre) i σ) _ (hY1.same (fun a9 j9 h9 => hM2o _ _ (Or.inl (by omega)))) (seenL_s hs (by omega)) ⟨by rw [hM2r _ (by omega)]; exact hK1.1, fun j9 h9 => ?_, fun h8 j9 h9 => by rw [hM2r _ (by omega)]; exact hK1.2.2 h8 j9 h9⟩ (inC_app hin (by omega) hnp (by omega)) hokt.1 (by rw [List.length_append, List.length_singleton]; omega) ?_)
        · rw [List.length_append, List.length_singleton] at h9
          rw [getD_app (by omega)]
          by_cases e9 : j9 = pre.length
          · rw [if_pos e9, e9, hM2a]
          · rw [if_neg e9, hM2o _ _ (Or.inr e9)]; exact hK1.2.1 j9 (by omega)
        intro M3 hK3 hF3
        have hF4 : FrS r M1 M3 := fun q9 j9 h8 h9 => by rw [hF3 q9 j9 h8 h9, hM2r q9 (by omega)]
        refine J_iinc (v := ((i : Nat) : Int) + 1) (lsn := [vR (r), vI (((c : Nat) : Int)), vI (((pre.length : Nat) : Int)), vI (u), vI (((i : Nat) : Int) + 1), u5]) hx dX7_seekStand_127 rfl (jinc1 (by omega) (by omega)) rfl rfl ?_
        refine J_goto (tgt := 77) hx dX7_seekStand_130 (by decide) ?_
        have et : srL (srF A c k pre) (i + 1) σ = srch A c k (pre ++ [i]) (srL (srF A c k pre) i σ) := by show srF A c k pre i (srL (srF A c k pre) i σ) = _; rw [srF_y ⟨hnp, by omega⟩]
        exact lp_X7_seekStand hT hW hc h2 hx hr hI hs hin hok hk hQ (i + 1) _ M3 (hF4.mn hY1) (by rw [et]; exact ⟨hK3.1, fun j9 h9 => by
            have h8 := hK3.2.1 j9 (by rw [List.length_append, List.length_singleton]; omega)
            rw [getD_app (by omega), if_neg (by omega)] at h8
            exact h8, hK3.2.2⟩) (hF1.tr hF4) (by omega)
termination_by A.n - i
decreasing_by all_goals omega

set_option maxHeartbeats 4000000 in
theorem sk_s {g : WG} {d : Nat} {T : TT} {r sz c k : Nat} {A : YA} (hT : MT T r) (hW : WFY A) (hc : c < 2) (h2 : 2 ≤ (A.ch c).length) (hI : SKc g (d + 4) k r c sz T A) : SKc g (d + 5) (k + 1) r c sz T A := by
  intro M pre u σ Q hY1 hs hK1 hin hok hk hQ
  refine Ct_of2 (ls := [vR (r), vI (((c : Nat) : Int)), vI (((pre.length : Nat) : Int)), vI (u), vU, vU]) okX7_seekStand rfl (Nat.le_of_ble_eq_true rfl) rfl ?_
  intro x hx hr hnm
  have hl8 := hW.len8 hc
  refine J_iload_n hx dX7_seekStand_0 (i := 2) rfl rfl ?_
  refine J_aload_n hx dX7_seekStand_1 (i := 0) rfl rfl ?_
  refine J_getR (b := r + 25) hx fl_X7_57 cl_X7 dX7_seekStand_2 hT.o (by decide) rfl hT.r16 ?_
  refine J_iload_n hx dX7_seekStand_5 (i := 1) rfl rfl ?_
  refine J_iald2 (v := (((A.ch c).length : Nat) : Int)) hx c dX7_seekStand_6 hT.k25 (by omega) (hT.l25 (by omega)) (hY1.sz (by omega)) ?_
  have rg1 := hW.len8 (c := c) (by omega)
  have rg2 := hW.lenN (c := c) (by omega)
  refine J_icmp_ne (tgt := 74) hx dX7_seekStand_7 (by decide) (fun c3 => ?_) (fun c3 => ?_)
  · refine J_iconst (v := 0) hx dX7_seekStand_74 (by decide) ?_
    refine J_istore (lsn := [vR (r), vI (((c : Nat) : Int)), vI (((pre.length : Nat) : Int)), vI (u), vI (0), vU]) hx dX7_seekStand_75 (Nat.le_of_ble_eq_true rfl) rfl rfl ?_
    exact lp_X7_seekStand hT hW hc h2 hx hr hI hs hin hok hk hQ 0 _ M hY1 hK1 (fun _ _ _ _ => rfl) (by omega)
  · exfalso; omega

theorem sk_all {g : WG} {T : TT} {r sz c : Nat} {A : YA} (hT : MT T r) (hW : WFY A) (hc : c < 2) (h2 : 2 ≤ (A.ch c).length) : ∀ (k d : Nat), SKc g (d + k + 4) k r c sz T A
  | 0, d => sk_0 (d := d) hT hW hc h2
  | k + 1, d => sk_s (d := d + k) hT hW hc h2 (sk_all (sz := sz) (g := g) hT hW hc h2 k d)
set_option maxHeartbeats 4000000 in
theorem lp_X7_findStand {g : WG} {d : Nat} {T : TT} {M : MM} {r sz : Nat} {A : YA} {Q : MVal → TT → MM → Nat → Prop} (hT : MT T r) (hN : MN M r A) (hW : WFY A) {c : Nat} (hc : c < 2) (hl2 : (A.ch c).length < 2) {x : CX} (hx : OKx g x RX7 cX7_findStand (d + 12)) (hr : RTx g x none Q) (hQ : ∀ M', M' r 36 = (stdY A c).1 → (∀ j, j < (A.ch c).length → M' (r + 28) j = (((stdY A c).2.getD j 0 : Nat) : Int)) → FrS r M M' → Q vU T M' sz) (k : Nat) (M1 : MM) (hk : k ≤ (A.ch c).length) (h36 : M1 r 36 = 0) (h0 : ∀ j, j < k → M1 (r + 28) j = (((A.ch c).getD j 0 : Nat) : Int)) (ho1 : FrS r M M1) : Jd g x 22 [vR (r), vI (((c : Nat) : Int)), vI (((k : Nat) : Int))] [] T M1 sz 0 0 := by
  have hl8 := hW.len8 hc
  refine J_iload_n hx dX7_findStand_22 (i := 2) rfl rfl ?_
  refine J_aload_n hx dX7_findStand_23 (i := 0) rfl rfl ?_
  refine J_getR (b := r + 25) hx fl_X7_57 cl_X7 dX7_findStand_24 hT.o (by decide) rfl hT.r16 ?_
  refine J_iload_n hx dX7_findStand_27 (i := 1) rfl rfl ?_
  refine J_iald2 (v := (((A.ch c).length : Nat) : Int)) hx c dX7_findStand_28 hT.k25 (by omega) (hT.l25 (by omega)) (by rw [ho1 _ _ (by omega) (by omega)]; exact hN.sz hc) ?_
  refine J_icmp_ge (tgt := 52) hx dX7_findStand_29 (by decide) (fun c1 => ?_) (fun c1 => ?_)
  · refine J_goto (tgt := 62) hx dX7_findStand_52 (by decide) ?_
    refine J_vret hx hr dX7_findStand_62 ?_
    have ek : k = (A.ch c).length := by omega
    subst ek
    rw [stdY_1 hl2] at hQ
    exact hQ M1 h36 h0 ho1
  · refine J_aload_n hx dX7_findStand_32 (i := 0) rfl rfl ?_
    refine J_getR (b := r + 28) hx fl_X7_79 cl_X7 dX7_findStand_33 hT.o (by decide) rfl hT.r35 ?_
    refine J_iload_n hx dX7_findStand_36 (i := 2) rfl rfl ?_
    refine J_aload_n hx dX7_findStand_37 (i := 0) rfl rfl ?_
    refine J_getR (b := r + 22) hx fl_X7_54 cl_X7 dX7_findStand_38 hT.o (by decide) rfl hT.r15 ?_
    refine J_iload_n hx dX7_findStand_41 (i := 1) rfl rfl ?_
    refine J_aald (b := r + 23 + c) hx c dX7_findStand_42 hT.k22 (by decide) (by omega) (hT.l22 (by omega)) (hT.f22 (by omega)) ?_
    refine J_iload_n hx dX7_findStand_43 (i := 2) rfl rfl ?_
    refine J_iald2 (v := (((A.ch c).getD k 0 : Nat) : Int)) hx k dX7_findStand_44 (hT.kl (by omega)) (by omega) (hT.ll (by omega) (by omega)) (by rw [ho1 _ _ (by omega) (by omega)]; exact hN.ln hc (by omega)) ?_
    refine J_iast hx k dX7_findStand_45 hT.k28 (by omega) (hT.l28 (by omega)) ?_
    generalize eM2 : up2 M1 (r + 28) k (((A.ch c).getD k 0 : Nat) : Int) = M2
    have hM2a : M2 (r + 28) k = (((A.ch c).getD k 0 : Nat) : Int) := by rw [← eM2]; exact up2_at
    have hM2o : ∀ b9 j9, (b9 ≠ r + 28 ∨ j9 ≠ k) → M2 b9 j9 = M1 b9 j9 := fun b9 j9 h9 => by rw [← eM2]; exact up2_ne h9
    have hM2r : ∀ b9, b9 ≠ r + 28 → M2 b9 = M1 b9 := fun b9 h9 => by rw [← eM2]; exact up2_row h9
    refine J_iinc (v := ((k : Nat) : Int) + 1) (lsn := [vR (r), vI (((c : Nat) : Int)), vI (((k : Nat) : Int) + 1)]) hx dX7_findStand_46 rfl (jinc1 (by omega) (by omega)) rfl rfl ?_
    refine J_goto (tgt := 22) hx dX7_findStand_49 (by decide) ?_
    exact lp_X7_findStand hT hN hW hc hl2 hx hr hQ (k + 1) M2 (by omega) (by rw [hM2r _ (by omega)]; exact h36) (fun j9 h9 => by
        by_cases e : j9 = k
        · subst e; exact hM2a
        · rw [hM2o _ _ (Or.inr e)]; exact h0 j9 (by omega)) (fun q9 j9 h8 h9 => by rw [hM2r _ (by omega)]; exact ho1 q9 j9 h8 h9)
termination_by (A.ch c).length - k
decreasing_by all_goals omega

set_option maxHeartbeats 4000000 in
theorem c_X7_findStand {g : WG} {d : Nat} {T : TT} {M : MM} {r sz : Nat} {A : YA} {Q : MVal → TT → MM → Nat → Prop} (hT : MT T r) (hN : MN M r A) (hW : WFY A) {c : Nat} (hc : c < 2) (h7 : (A.ch c).length ≤ 7) (hQ : ∀ M', M' r 36 = (stdY A c).1 → (∀ j, j < (A.ch c).length → M' (r + 28) j = (((stdY A c).2.getD j 0 : Nat) : Int)) → FrS r M M' → Q vU T M' sz) : Ct g (d + 12) mX7_findStand [vR (r), vI (((c : Nat) : Int))] T M sz 0 0 Q := by
  refine Ct_of2 (ls := [vR (r), vI (((c : Nat) : Int)), vU]) okX7_findStand rfl (Nat.le_of_ble_eq_true rfl) rfl ?_
  intro x hx hr hnm
  have hl8 := hW.len8 hc
  refine J_aload_n hx dX7_findStand_0 (i := 0) rfl rfl ?_
  refine J_iconst (v := -1) hx dX7_findStand_1 (by decide) ?_
  refine J_putI hx fl_X7_308 cl_X7 dX7_findStand_2 hT.o (by decide) rfl (Or.inl rfl) (by decide) ?_
  generalize eM1 : up2 M r 36 (-1) = M1
  have hM1a : M1 r 36 = (-1) := by rw [← eM1]; exact up2_at
  have hM1o : ∀ b9 j9, (b9 ≠ r ∨ j9 ≠ 36) → M1 b9 j9 = M b9 j9 := fun b9 j9 h9 => by rw [← eM1]; exact up2_ne h9
  have hM1r : ∀ b9, b9 ≠ r → M1 b9 = M b9 := fun b9 h9 => by rw [← eM1]; exact up2_row h9
  refine J_aload_n hx dX7_findStand_5 (i := 0) rfl rfl ?_
  refine J_getR (b := r + 25) hx fl_X7_57 cl_X7 dX7_findStand_6 hT.o (by decide) rfl hT.r16 ?_
  refine J_iload_n hx dX7_findStand_9 (i := 1) rfl rfl ?_
  refine J_iald2 (v := (((A.ch c).length : Nat) : Int)) hx c dX7_findStand_10 hT.k25 (by omega) (hT.l25 (by omega)) (by rw [hM1r _ (by omega)]; exact hN.sz hc) ?_
  refine J_iconst (v := 2) hx dX7_findStand_11 (by decide) ?_
  refine J_icmp_ge (tgt := 55) hx dX7_findStand_12 (by decide) (fun c1 => ?_) (fun c1 => ?_)
  · refine J_aload_n hx dX7_findStand_55 (i := 0) rfl rfl ?_
    refine J_iload_n hx dX7_findStand_56 (i := 1) rfl rfl ?_
    refine J_iconst (v := 0) hx dX7_findStand_57 (by decide) ?_
    refine J_iconst (v := 0) hx dX7_findStand_58 (by decide) ?_
    have h2 : 2 ≤ (A.ch c).length := by omega
    have hx9 := hx
    rw [show d + 12 = (d + 11) + 1 from rfl, show d + 11 = (d + 7 - (A.ch c).length) + (A.ch c).length + 4 by omega] at hx9
    refine J_invVv (As := [vI ((c : Nat) : Int), vI 0, vI 0]) (st := []) hx9 lk_X7_311 okX7_seekStand dX7_findStand_59 hT.o (by decide) rfl rfl rfl (Nat.le_of_ble_eq_true rfl) (Nat.zero_add _).symm (Nat.zero_add _).symm rfl (sk_all (g := g) (sz := sz) hT hW hc h2 (A.ch c).length (d + 7 - (A.ch c).length) M1 [] 0 (-1, A.ch c) _ (hN.same (fun a9 j9 h9 => hM1o _ _ (by omega))) seenL_0 ⟨hM1a, fun j9 h9 => absurd h9 (Nat.not_lt_zero j9), fun h9 => absurd rfl h9⟩ ⟨List.nodup_nil, fun q9 h9 => by cases h9⟩ ⟨List.Perm.refl _, Int.le_refl _, (show (-1 : Int) ≤ 71 by decide)⟩ (by simp) ?_)
    intro M3 hK3 hF3
    rw [← stdY_2 h2] at hK3
    refine J_vret hx hr dX7_findStand_62 ?_
    have hsd := stdY_ok hW hc
    exact hQ M3 hK3.1 (hK3.2.2 (by omega)) (fun q9 j9 h8 h9 => by rw [hF3 q9 j9 h8 h9, hM1o _ _ (by omega)])
  · refine J_aload_n hx dX7_findStand_15 (i := 0) rfl rfl ?_
    refine J_iconst (v := 0) hx dX7_findStand_16 (by decide) ?_
    refine J_putI hx fl_X7_308 cl_X7 dX7_findStand_17 hT.o (by decide) rfl (Or.inl rfl) (by decide) ?_
    generalize eM2 : up2 M1 r 36 0 = M2
    have hM2a : M2 r 36 = 0 := by rw [← eM2]; exact up2_at
    have hM2o : ∀ b9 j9, (b9 ≠ r ∨ j9 ≠ 36) → M2 b9 j9 = M1 b9 j9 := fun b9 j9 h9 => by rw [← eM2]; exact up2_ne h9
    have hM2r : ∀ b9, b9 ≠ r → M2 b9 = M1 b9 := fun b9 h9 => by rw [← eM2]; exact up2_row h9
    refine J_iconst (v := 0) hx dX7_findStand_20 (by decide) ?_
    refine J_istore_n (lsn := [vR (r), vI (((c : Nat) : Int)), vI (0)]) hx dX7_findStand_21 (i := 2) rfl (Nat.le_of_ble_eq_true rfl) rfl rfl ?_
    exact lp_X7_findStand hT hN hW hc (by omega) hx hr hQ 0 M2 (by omega) hM2a (fun j h => absurd h (Nat.not_lt_zero j)) (fun q9 j9 h8 h9 => by rw [hM2o _ _ (by omega), hM1o _ _ (by omega)])

set_option maxHeartbeats 4000000 in
theorem c_X7_stand {g : WG} {d : Nat} {T : TT} {M : MM} {r sz : Nat} {S : ST} {Q : MVal → TT → MM → Nat → Prop} (hT : MT T r) (hN : RN M r S) (hW : WFS S) {c i : Int} (h_c : -2147483648 ≤ c ∧ c ≤ 2147483647) (h_i : -2147483648 ≤ i ∧ i ≤ 2147483647) (hQ : RQ r T M sz Q (a_stand S c i)) : Ct g (d + 13) mX7_stand [vR (r), vI (c), vI (i)] T M sz 0 0 Q := by
  refine Ct_of2 (ls := [vR (r), vI (c), vI (i)]) okX7_stand rfl (Nat.le_of_ble_eq_true rfl) rfl ?_
  intro x hx hr hnm
  refine J_iload_n hx dX7_stand_0 (i := 1) rfl rfl ?_
  refine J_i2l hx dX7_stand_1 ?_
  refine J_lconst (v := 0) hx dX7_stand_2 (by decide) ?_
  refine J_lconst (v := 1) hx dX7_stand_3 (by decide) ?_
  refine J_invS (As := [vL (c), vL (0), vL (1)]) (st := []) hx lk_X7_85 okX7_in dX7_stand_4 rfl rfl (Nat.le_of_ble_eq_true rfl) (Nat.zero_add _).symm (Nat.zero_add _).symm rfl (c_X7_in (a := c) (lo := 0) (hi := 1) ?_)
  intro v1 hv1
  refine J_if_eq (tgt := 30) hx dX7_stand_7 (by decide) (fun c2 => ?_) (fun c2 => ?_)
  · refine J_aload_n hx dX7_stand_30 (i := 0) rfl rfl ?_
    refine J_bipush (v := -2) hx dX7_stand_31 (by decide) ?_
    refine J_invV (As := [vI ((-2))]) (st := []) hx lk_X7_99 okX7_refuse dX7_stand_33 hT.o (by decide) rfl rfl rfl (Nat.le_of_ble_eq_true rfl) (Nat.zero_add _).symm (Nat.zero_add _).symm rfl (c_X7_refuseS hT hN hW (k := 0) (by decide) ?_)
    intro M1 hN1 hf1
    refine J_iret hx hr dX7_stand_36 ?_
    exact hQ.to (v := -((0 + 2 : Nat) : Int)) (S := rfS S 0) (by
      unfold a_stand
      all_goals (try unfold overY at *)
      all_goals (try unfold mayQ at *)
      all_goals (try simp only [Int.toNat_natCast] at *)
      all_goals ((repeat' split) <;> first | rfl | (exfalso; omega) | (congr 1; omega))) hN1 hf1
  · obtain ⟨cN, rfl⟩ : ∃ z : Nat, c = ((z : Nat) : Int) := ⟨c.toNat, by omega⟩
    have hl8 := hW.y.len8 (c := cN) (by omega)
    refine J_iload_n hx dX7_stand_10 (i := 2) rfl rfl ?_
    refine J_i2l hx dX7_stand_11 ?_
    refine J_ldc2 (v := -1) hx ct_X7_261 dX7_stand_12 (by decide) ?_
    refine J_aload_n hx dX7_stand_15 (i := 0) rfl rfl ?_
    refine J_getR (b := r + 25) hx fl_X7_57 cl_X7 dX7_stand_16 hT.o (by decide) rfl hT.r16 ?_
    refine J_iload_n hx dX7_stand_19 (i := 1) rfl rfl ?_
    refine J_iald2 (v := (((S.1.ch cN).length : Nat) : Int)) hx cN dX7_stand_20 hT.k25 (by omega) (hT.l25 (by omega)) (hN.y.sz (by omega)) ?_
    have rg3 := hW.y.len8 (c := cN) (by omega)
    have rg4 := hW.y.lenN (c := cN) (by omega)
    refine J_iconst (v := 1) hx dX7_stand_21 (by decide) ?_
    refine J_isub (v := (((S.1.ch cN).length : Nat) : Int) - 1) hx dX7_stand_22 (w32_id (by omega) (by omega)) ?_
    refine J_i2l hx dX7_stand_23 ?_
    refine J_invS (As := [vL (i), vL (-1), vL ((((S.1.ch cN).length : Nat) : Int) - 1)]) (st := []) hx lk_X7_85 okX7_in dX7_stand_24 rfl rfl (Nat.le_of_ble_eq_true rfl) (Nat.zero_add _).symm (Nat.zero_add _).symm rfl (c_X7_in (a := i) (lo := -1) (hi := (((S.1.ch cN).length : Nat) : Int) - 1) ?_)
    intro v5 hv5
    refine J_if_ne (tgt := 37) hx dX7_stand_27 (by decide) (fun c6 => ?_) (fun c6 => ?_)
    · refine J_aload_n hx dX7_stand_37 (i := 0) rfl rfl ?_
      refine J_getR (b := r + 25) hx fl_X7_57 cl_X7 dX7_stand_38 hT.o (by decide) rfl hT.r16 ?_
      refine J_iload_n hx dX7_stand_41 (i := 1) rfl rfl ?_
      refine J_iald2 (v := (((S.1.ch cN).length : Nat) : Int)) hx cN dX7_stand_42 hT.k25 (by omega) (hT.l25 (by omega)) (hN.y.sz (by omega)) ?_
      have rg7 := hW.y.len8 (c := cN) (by omega)
      have rg8 := hW.y.lenN (c := cN) (by omega)
      refine J_bipush (v := 7) hx dX7_stand_43 (by decide) ?_
      refine J_icmp_le (tgt := 55) hx dX7_stand_45 (by decide) (fun c9 => ?_) (fun c9 => ?_)
      · refine J_aload_n hx dX7_stand_55 (i := 0) rfl rfl ?_
        refine J_iload_n hx dX7_stand_56 (i := 1) rfl rfl ?_
        refine J_invVv (As := [vI (((cN : Nat) : Int))]) (st := []) hx lk_X7_314 okX7_findStand dX7_stand_57 hT.o (by decide) rfl rfl rfl (Nat.le_of_ble_eq_true rfl) (Nat.zero_add _).symm (Nat.zero_add _).symm rfl (c_X7_findStand hT hN.y hW.y (c := cN) (by omega) (by omega) ?_)
        intro M2 h36 hbs hF2
        have hN2 := hF2.rn hN
        have hsd := stdY_ok hW.y (c := cN) (by omega)
        refine J_iload_n hx dX7_stand_60 (i := 2) rfl rfl ?_
        refine J_iconst (v := -1) hx dX7_stand_61 (by decide) ?_
        refine J_icmp_ne (tgt := 72) hx dX7_stand_62 (by decide) (fun c10 => ?_) (fun c10 => ?_)
        · obtain ⟨iN, rfl⟩ : ∃ z : Nat, i = ((z : Nat) : Int) := ⟨i.toNat, by omega⟩
          refine J_aload_n hx dX7_stand_72 (i := 0) rfl rfl ?_
          refine J_getR (b := r + 28) hx fl_X7_79 cl_X7 dX7_stand_73 hT.o (by decide) rfl hT.r35 ?_
          refine J_iload_n hx dX7_stand_76 (i := 2) rfl rfl ?_
          refine J_iald2 (v := (((stdY S.1 cN).2.getD iN 0 : Nat) : Int)) hx iN dX7_stand_77 hT.k28 (by omega) (hT.l28 (by omega)) (hbs iN (by omega)) ?_
          refine J_iret hx hr dX7_stand_78 ?_
          exact hQ.to (v := (((stdY S.1 cN).2.getD iN 0 : Nat) : Int)) (S := S) (by
            unfold a_stand
            all_goals (try unfold overY at *)
            all_goals (try unfold mayQ at *)
            all_goals (try simp only [Int.toNat_natCast] at *)
            all_goals ((repeat' split) <;> first | rfl | (exfalso; omega) | (congr 1; omega))) hN2 (fun b9 h9 => funext fun j9 => hF2 b9 j9 (by omega) (by omega))
        · refine J_aload_n hx dX7_stand_65 (i := 0) rfl rfl ?_
          refine J_getI2 (v := (stdY S.1 cN).1) hx fl_X7_308 cl_X7 dX7_stand_66 hT.o (by decide) rfl h36 ?_
          refine J_goto (tgt := 78) hx dX7_stand_69 (by decide) ?_
          refine J_iret hx hr dX7_stand_78 ?_
          exact hQ.to (v := (stdY S.1 cN).1) (S := S) (by
            unfold a_stand
            all_goals (try unfold overY at *)
            all_goals (try unfold mayQ at *)
            all_goals (try simp only [Int.toNat_natCast] at *)
            all_goals ((repeat' split) <;> first | rfl | (exfalso; omega) | (congr 1; omega))) hN2 (fun b9 h9 => funext fun j9 => hF2 b9 j9 (by omega) (by omega))
      · refine J_aload_n hx dX7_stand_48 (i := 0) rfl rfl ?_
        refine J_bipush (v := -6) hx dX7_stand_49 (by decide) ?_
        refine J_invV (As := [vI ((-6))]) (st := []) hx lk_X7_99 okX7_refuse dX7_stand_51 hT.o (by decide) rfl rfl rfl (Nat.le_of_ble_eq_true rfl) (Nat.zero_add _).symm (Nat.zero_add _).symm rfl (c_X7_refuseS hT hN hW (k := 4) (by decide) ?_)
        intro M1 hN1 hf1
        refine J_iret hx hr dX7_stand_54 ?_
        exact hQ.to (v := -((4 + 2 : Nat) : Int)) (S := rfS S 4) (by
          unfold a_stand
          all_goals (try unfold overY at *)
          all_goals (try unfold mayQ at *)
          all_goals (try simp only [Int.toNat_natCast] at *)
          all_goals ((repeat' split) <;> first | rfl | (exfalso; omega) | (congr 1; omega))) hN1 hf1
    · refine J_aload_n hx dX7_stand_30 (i := 0) rfl rfl ?_
      refine J_bipush (v := -2) hx dX7_stand_31 (by decide) ?_
      refine J_invV (As := [vI ((-2))]) (st := []) hx lk_X7_99 okX7_refuse dX7_stand_33 hT.o (by decide) rfl rfl rfl (Nat.le_of_ble_eq_true rfl) (Nat.zero_add _).symm (Nat.zero_add _).symm rfl (c_X7_refuseS hT hN hW (k := 0) (by decide) ?_)
      intro M1 hN1 hf1
      refine J_iret hx hr dX7_stand_36 ?_
      exact hQ.to (v := -((0 + 2 : Nat) : Int)) (S := rfS S 0) (by
        unfold a_stand
        all_goals (try unfold overY at *)
        all_goals (try unfold mayQ at *)
        all_goals (try simp only [Int.toNat_natCast] at *)
        all_goals ((repeat' split) <;> first | rfl | (exfalso; omega) | (congr 1; omega))) hN1 hf1

set_option maxHeartbeats 4000000 in
theorem c_X7_worth {g : WG} {d : Nat} {T : TT} {M : MM} {r sz : Nat} {S : ST} {Q : MVal → TT → MM → Nat → Prop} (hT : MT T r) (hN : RN M r S) (hW : WFS S) {c : Int} (h_c : -2147483648 ≤ c ∧ c ≤ 2147483647) (hQ : RQ r T M sz Q (a_worth S c)) : Ct g (d + 13) mX7_worth [vR (r), vI (c)] T M sz 0 0 Q := by
  refine Ct_of2 (ls := [vR (r), vI (c)]) okX7_worth rfl (Nat.le_of_ble_eq_true rfl) rfl ?_
  intro x hx hr hnm
  refine J_iload_n hx dX7_worth_0 (i := 1) rfl rfl ?_
  refine J_i2l hx dX7_worth_1 ?_
  refine J_lconst (v := 0) hx dX7_worth_2 (by decide) ?_
  refine J_lconst (v := 1) hx dX7_worth_3 (by decide) ?_
  refine J_invS (As := [vL (c), vL (0), vL (1)]) (st := []) hx lk_X7_85 okX7_in dX7_worth_4 rfl rfl (Nat.le_of_ble_eq_true rfl) (Nat.zero_add _).symm (Nat.zero_add _).symm rfl (c_X7_in (a := c) (lo := 0) (hi := 1) ?_)
  intro v1 hv1
  refine J_if_ne (tgt := 17) hx dX7_worth_7 (by decide) (fun c2 => ?_) (fun c2 => ?_)
  · obtain ⟨cN, rfl⟩ : ∃ z : Nat, c = ((z : Nat) : Int) := ⟨c.toNat, by omega⟩
    have hl8 := hW.y.len8 (c := cN) (by omega)
    refine J_aload_n hx dX7_worth_17 (i := 0) rfl rfl ?_
    refine J_getR (b := r + 25) hx fl_X7_57 cl_X7 dX7_worth_18 hT.o (by decide) rfl hT.r16 ?_
    refine J_iload_n hx dX7_worth_21 (i := 1) rfl rfl ?_
    refine J_iald2 (v := (((S.1.ch cN).length : Nat) : Int)) hx cN dX7_worth_22 hT.k25 (by omega) (hT.l25 (by omega)) (hN.y.sz (by omega)) ?_
    have rg3 := hW.y.len8 (c := cN) (by omega)
    have rg4 := hW.y.lenN (c := cN) (by omega)
    refine J_bipush (v := 7) hx dX7_worth_23 (by decide) ?_
    refine J_icmp_le (tgt := 35) hx dX7_worth_25 (by decide) (fun c5 => ?_) (fun c5 => ?_)
    · refine J_aload_n hx dX7_worth_35 (i := 0) rfl rfl ?_
      refine J_getR (b := r + 25) hx fl_X7_57 cl_X7 dX7_worth_36 hT.o (by decide) rfl hT.r16 ?_
      refine J_iload_n hx dX7_worth_39 (i := 1) rfl rfl ?_
      refine J_iald2 (v := (((S.1.ch cN).length : Nat) : Int)) hx cN dX7_worth_40 hT.k25 (by omega) (hT.l25 (by omega)) (hN.y.sz (by omega)) ?_
      have rg6 := hW.y.len8 (c := cN) (by omega)
      have rg7 := hW.y.lenN (c := cN) (by omega)
      refine J_iconst (v := 2) hx dX7_worth_41 (by decide) ?_
      refine J_icmp_ge (tgt := 47) hx dX7_worth_42 (by decide) (fun c8 => ?_) (fun c8 => ?_)
      · refine J_aload_n hx dX7_worth_47 (i := 0) rfl rfl ?_
        refine J_iload_n hx dX7_worth_48 (i := 1) rfl rfl ?_
        refine J_invVv (As := [vI (((cN : Nat) : Int))]) (st := []) hx lk_X7_314 okX7_findStand dX7_worth_49 hT.o (by decide) rfl rfl rfl (Nat.le_of_ble_eq_true rfl) (Nat.zero_add _).symm (Nat.zero_add _).symm rfl (c_X7_findStand hT hN.y hW.y (c := cN) (by omega) (by omega) ?_)
        intro M2 h36 hbs hF2
        have hN2 := hF2.rn hN
        have hsd := stdY_ok hW.y (c := cN) (by omega)
        refine J_aload_n hx dX7_worth_52 (i := 0) rfl rfl ?_
        refine J_getI2 (v := (stdY S.1 cN).1) hx fl_X7_308 cl_X7 dX7_worth_53 hT.o (by decide) rfl h36 ?_
        refine J_aload_n hx dX7_worth_56 (i := 0) rfl rfl ?_
        refine J_aload_n hx dX7_worth_57 (i := 0) rfl rfl ?_
        refine J_getR (b := r + 22) hx fl_X7_54 cl_X7 dX7_worth_58 hT.o (by decide) rfl hT.r15 ?_
        refine J_iload_n hx dX7_worth_61 (i := 1) rfl rfl ?_
        refine J_aald (b := r + 23 + cN) hx cN dX7_worth_62 hT.k22 (by decide) (by omega) (hT.l22 (by omega)) (hT.f22 (by omega)) ?_
        refine J_aload_n hx dX7_worth_63 (i := 0) rfl rfl ?_
        refine J_getR (b := r + 25) hx fl_X7_57 cl_X7 dX7_worth_64 hT.o (by decide) rfl hT.r16 ?_
        refine J_iload_n hx dX7_worth_67 (i := 1) rfl rfl ?_
        refine J_iald2 (v := (((S.1.ch cN).length : Nat) : Int)) hx cN dX7_worth_68 hT.k25 (by omega) (hT.l25 (by omega)) (hN2.y.sz (by omega)) ?_
        have rg9 := hW.y.len8 (c := cN) (by omega)
        have rg10 := hW.y.lenN (c := cN) (by omega)
        refine J_invV (As := [vR (r + 23 + cN), vI ((((S.1.ch cN).length : Nat) : Int))]) (st := [vI ((stdY S.1 cN).1)]) hx lk_X7_270 okX7_leastOf dX7_worth_69 hT.o (by decide) rfl rfl rfl (Nat.le_of_ble_eq_true rfl) (Nat.zero_add _).symm (Nat.zero_add _).symm rfl (c_X7_leastOf hT hN2.y hW.y (l := S.1.ch cN) (q := r + 23 + cN) (hT.kl (by omega)) (hT.nl (by omega)) (fun k9 h9 => hN2.y.ln (by omega) h9) (fun p9 h9 => hW.y.lt (by omega) h9) (by omega) ?_)
        rw [least1_S (by omega)]
        have rgL := leastS_rg hW.y (l := S.1.ch cN) (fun p9 h9 => hW.y.lt (by omega) h9)
        refine J_isub (v := (stdY S.1 cN).1 - (leastS S.1 (S.1.ch cN))) hx dX7_worth_72 (w32_id (by omega) (by omega)) ?_
        refine J_iret hx hr dX7_worth_73 ?_
        exact hQ.to (v := (stdY S.1 cN).1 - (leastS S.1 (S.1.ch cN))) (S := S) (by
          unfold a_worth
          all_goals (try unfold overY at *)
          all_goals (try unfold mayQ at *)
          all_goals (try simp only [Int.toNat_natCast] at *)
          all_goals ((repeat' split) <;> first | rfl | (exfalso; omega) | (congr 1; omega))) hN2 (fun b9 h9 => funext fun j9 => hF2 b9 j9 (by omega) (by omega))
      · refine J_iconst (v := 0) hx dX7_worth_45 (by decide) ?_
        refine J_iret hx hr dX7_worth_46 ?_
        have e1 := stdY_1 (A := S.1) (c := cN) (by omega)
        have e2 : leastS S.1 (S.1.ch cN) = 0 := by unfold leastS; rw [if_pos (by omega)]
        have e3 : (stdY S.1 cN).1 = 0 := by rw [e1]
        exact hQ.same (v := 0) (S := S) (by
          unfold a_worth
          all_goals (try unfold overY at *)
          all_goals (try unfold mayQ at *)
          all_goals (try simp only [Int.toNat_natCast] at *)
          all_goals ((repeat' split) <;> first | rfl | (exfalso; omega) | (congr 1; omega))) hN
    · refine J_aload_n hx dX7_worth_28 (i := 0) rfl rfl ?_
      refine J_bipush (v := -6) hx dX7_worth_29 (by decide) ?_
      refine J_invV (As := [vI ((-6))]) (st := []) hx lk_X7_99 okX7_refuse dX7_worth_31 hT.o (by decide) rfl rfl rfl (Nat.le_of_ble_eq_true rfl) (Nat.zero_add _).symm (Nat.zero_add _).symm rfl (c_X7_refuseS hT hN hW (k := 4) (by decide) ?_)
      intro M1 hN1 hf1
      refine J_iret hx hr dX7_worth_34 ?_
      exact hQ.to (v := -((4 + 2 : Nat) : Int)) (S := rfS S 4) (by
        unfold a_worth
        all_goals (try unfold overY at *)
        all_goals (try unfold mayQ at *)
        all_goals (try simp only [Int.toNat_natCast] at *)
        all_goals ((repeat' split) <;> first | rfl | (exfalso; omega) | (congr 1; omega))) hN1 hf1
  · refine J_aload_n hx dX7_worth_10 (i := 0) rfl rfl ?_
    refine J_bipush (v := -2) hx dX7_worth_11 (by decide) ?_
    refine J_invV (As := [vI ((-2))]) (st := []) hx lk_X7_99 okX7_refuse dX7_worth_13 hT.o (by decide) rfl rfl rfl (Nat.le_of_ble_eq_true rfl) (Nat.zero_add _).symm (Nat.zero_add _).symm rfl (c_X7_refuseS hT hN hW (k := 0) (by decide) ?_)
    intro M1 hN1 hf1
    refine J_iret hx hr dX7_worth_16 ?_
    exact hQ.to (v := -((0 + 2 : Nat) : Int)) (S := rfS S 0) (by
      unfold a_worth
      all_goals (try unfold overY at *)
      all_goals (try unfold mayQ at *)
      all_goals (try simp only [Int.toNat_natCast] at *)
      all_goals ((repeat' split) <;> first | rfl | (exfalso; omega) | (congr 1; omega))) hN1 hf1

set_option maxHeartbeats 4000000 in
theorem lp_X7_best {g : WG} {d : Nat} {T : TT} {M : MM} {r sz : Nat} {S : ST} {Q : MVal → TT → MM → Nat → Prop} (hT : MT T r) (hN : RN M r S) (hW : WFS S) {M2 : MM} {c : Nat} (hc : c < 2) (h7 : (S.1.ch c).length ≤ 7) (h36 : M2 r 36 = (stdY S.1 c).1) (hbs : ∀ j, j < (S.1.ch c).length → M2 (r + 28) j = (((stdY S.1 c).2.getD j 0 : Nat) : Int)) (hF2 : FrS r M M2) (hN2 : RN M2 r S) {x : CX} (hx : OKx g x RX7 cX7_best (d + 13)) (hr : RTx g x (some .int) Q) (hQ : RQ r T M sz Q (a_best S ((c : Nat) : Int))) (k : Nat) (M1 : MM) (hk : k ≤ (S.1.ch c).length) (hrow : (∀ j, j < k → M1 (r + 23 + c) j = (((stdY S.1 c).2.getD j 0 : Nat) : Int)) ∧ ∀ b, b ≠ r + 23 + c → M1 b = M2 b) : Jd g x 42 [vR (r), vI (((c : Nat) : Int)), vI (((k : Nat) : Int))] [] T M1 sz 0 0 := by
  have hl8 := hW.y.len8 hc
  refine J_iload_n hx dX7_best_42 (i := 2) rfl rfl ?_
  refine J_aload_n hx dX7_best_43 (i := 0) rfl rfl ?_
  refine J_getR (b := r + 25) hx fl_X7_57 cl_X7 dX7_best_44 hT.o (by decide) rfl hT.r16 ?_
  refine J_iload_n hx dX7_best_47 (i := 1) rfl rfl ?_
  refine J_iald2 (v := (((S.1.ch c).length : Nat) : Int)) hx c dX7_best_48 hT.k25 (by omega) (hT.l25 (by omega)) (by rw [hrow.2 _ (by omega)]; exact hN2.y.sz hc) ?_
  refine J_icmp_ge (tgt := 72) hx dX7_best_49 (by decide) (fun c1 => ?_) (fun c1 => ?_)
  · refine J_aload_n hx dX7_best_72 (i := 0) rfl rfl ?_
    refine J_getI2 (v := (stdY S.1 c).1) hx fl_X7_308 cl_X7 dX7_best_73 hT.o (by decide) rfl (by rw [hrow.2 _ (by omega)]; exact h36) ?_
    refine J_iret hx hr dX7_best_76 ?_
    have ek : k = (S.1.ch c).length := by omega
    subst ek
    have hsd := stdY_ok hW.y hc
    have hlen : (stdY S.1 c).2.length = (S.1.ch c).length := hsd.1.length_eq
    have hP := MN.setC hN2.y (M' := M1) (c := c) (l := (stdY S.1 c).2) hc (fun k9 h9 => hrow.1 k9 (by omega)) (by rw [hrow.2 _ (by omega), hlen]; exact hN2.y.sz hc) (by rw [hrow.2 _ (by omega)]) (fun a9 h8 h9 => hrow.2 a9 h8)
    exact hQ.to (v := (stdY S.1 c).1) (S := yS S (S.1.setC c (stdY S.1 c).2)) (by
      unfold a_best
      all_goals (try unfold overY at *)
      all_goals (try unfold mayQ at *)
      all_goals (try simp only [Int.toNat_natCast] at *)
      all_goals ((repeat' split) <;> first | rfl | (exfalso; omega) | (congr 1; omega))) (hN2.yard hP (fun a9 j9 h8 h9 => by rw [hrow.2 a9 (by omega)])) (fun b9 h9 => by rw [hrow.2 b9 (by omega)]; exact funext fun j9 => hF2 b9 j9 (by omega) (by omega))
  · refine J_aload_n hx dX7_best_52 (i := 0) rfl rfl ?_
    refine J_getR (b := r + 22) hx fl_X7_54 cl_X7 dX7_best_53 hT.o (by decide) rfl hT.r15 ?_
    refine J_iload_n hx dX7_best_56 (i := 1) rfl rfl ?_
    refine J_aald (b := r + 23 + c) hx c dX7_best_57 hT.k22 (by decide) (by omega) (hT.l22 (by omega)) (hT.f22 (by omega)) ?_
    refine J_iload_n hx dX7_best_58 (i := 2) rfl rfl ?_
    refine J_aload_n hx dX7_best_59 (i := 0) rfl rfl ?_
    refine J_getR (b := r + 28) hx fl_X7_79 cl_X7 dX7_best_60 hT.o (by decide) rfl hT.r35 ?_
    refine J_iload_n hx dX7_best_63 (i := 2) rfl rfl ?_
    refine J_iald2 (v := (((stdY S.1 c).2.getD k 0 : Nat) : Int)) hx k dX7_best_64 hT.k28 (by omega) (hT.l28 (by omega)) (by rw [hrow.2 _ (by omega)]; exact hbs k (by omega)) ?_
    refine J_iast hx k dX7_best_65 (hT.kl (by omega)) (by omega) (hT.ll (by omega) (by omega)) ?_
    generalize eM3 : up2 M1 (r + 23 + c) k (((stdY S.1 c).2.getD k 0 : Nat) : Int) = M3
    have hM3a : M3 (r + 23 + c) k = (((stdY S.1 c).2.getD k 0 : Nat) : Int) := by rw [← eM3]; exact up2_at
    have hM3o : ∀ b9 j9, (b9 ≠ r + 23 + c ∨ j9 ≠ k) → M3 b9 j9 = M1 b9 j9 := fun b9 j9 h9 => by rw [← eM3]; exact up2_ne h9
    have hM3r : ∀ b9, b9 ≠ r + 23 + c → M3 b9 = M1 b9 := fun b9 h9 => by rw [← eM3]; exact up2_row h9
    refine J_iinc (v := ((k : Nat) : Int) + 1) (lsn := [vR (r), vI (((c : Nat) : Int)), vI (((k : Nat) : Int) + 1)]) hx dX7_best_66 rfl (jinc1 (by omega) (by omega)) rfl rfl ?_
    refine J_goto (tgt := 42) hx dX7_best_69 (by decide) ?_
    exact lp_X7_best hT hN hW hc h7 h36 hbs hF2 hN2 hx hr hQ (k + 1) M3 (by omega) ⟨fun j9 h9 => by
        by_cases e : j9 = k
        · subst e; exact hM3a
        · rw [hM3o _ _ (Or.inr e)]; exact hrow.1 j9 (by omega), fun b9 h9 => by rw [hM3r _ h9]; exact hrow.2 b9 h9⟩
termination_by (S.1.ch c).length - k
decreasing_by all_goals omega

set_option maxHeartbeats 4000000 in
theorem c_X7_best {g : WG} {d : Nat} {T : TT} {M : MM} {r sz : Nat} {S : ST} {Q : MVal → TT → MM → Nat → Prop} (hT : MT T r) (hN : RN M r S) (hW : WFS S) {c : Int} (h_c : -2147483648 ≤ c ∧ c ≤ 2147483647) (hQ : RQ r T M sz Q (a_best S c)) : Ct g (d + 13) mX7_best [vR (r), vI (c)] T M sz 0 0 Q := by
  refine Ct_of2 (ls := [vR (r), vI (c), vU]) okX7_best rfl (Nat.le_of_ble_eq_true rfl) rfl ?_
  intro x hx hr hnm
  refine J_iload_n hx dX7_best_0 (i := 1) rfl rfl ?_
  refine J_i2l hx dX7_best_1 ?_
  refine J_lconst (v := 0) hx dX7_best_2 (by decide) ?_
  refine J_lconst (v := 1) hx dX7_best_3 (by decide) ?_
  refine J_invS (As := [vL (c), vL (0), vL (1)]) (st := []) hx lk_X7_85 okX7_in dX7_best_4 rfl rfl (Nat.le_of_ble_eq_true rfl) (Nat.zero_add _).symm (Nat.zero_add _).symm rfl (c_X7_in (a := c) (lo := 0) (hi := 1) ?_)
  intro v1 hv1
  refine J_if_ne (tgt := 17) hx dX7_best_7 (by decide) (fun c2 => ?_) (fun c2 => ?_)
  · obtain ⟨cN, rfl⟩ : ∃ z : Nat, c = ((z : Nat) : Int) := ⟨c.toNat, by omega⟩
    have hl8 := hW.y.len8 (c := cN) (by omega)
    refine J_aload_n hx dX7_best_17 (i := 0) rfl rfl ?_
    refine J_getR (b := r + 25) hx fl_X7_57 cl_X7 dX7_best_18 hT.o (by decide) rfl hT.r16 ?_
    refine J_iload_n hx dX7_best_21 (i := 1) rfl rfl ?_
    refine J_iald2 (v := (((S.1.ch cN).length : Nat) : Int)) hx cN dX7_best_22 hT.k25 (by omega) (hT.l25 (by omega)) (hN.y.sz (by omega)) ?_
    have rg3 := hW.y.len8 (c := cN) (by omega)
    have rg4 := hW.y.lenN (c := cN) (by omega)
    refine J_bipush (v := 7) hx dX7_best_23 (by decide) ?_
    refine J_icmp_le (tgt := 35) hx dX7_best_25 (by decide) (fun c5 => ?_) (fun c5 => ?_)
    · refine J_aload_n hx dX7_best_35 (i := 0) rfl rfl ?_
      refine J_iload_n hx dX7_best_36 (i := 1) rfl rfl ?_
      refine J_invVv (As := [vI (((cN : Nat) : Int))]) (st := []) hx lk_X7_314 okX7_findStand dX7_best_37 hT.o (by decide) rfl rfl rfl (Nat.le_of_ble_eq_true rfl) (Nat.zero_add _).symm (Nat.zero_add _).symm rfl (c_X7_findStand hT hN.y hW.y (c := cN) (by omega) (by omega) ?_)
      intro M2 h36 hbs hF2
      have hN2 := hF2.rn hN
      have hsd := stdY_ok hW.y (c := cN) (by omega)
      refine J_iconst (v := 0) hx dX7_best_40 (by decide) ?_
      refine J_istore_n (lsn := [vR (r), vI (((cN : Nat) : Int)), vI (0)]) hx dX7_best_41 (i := 2) rfl (Nat.le_of_ble_eq_true rfl) rfl rfl ?_
      exact lp_X7_best hT hN hW (c := cN) (by omega) (by omega) h36 hbs hF2 hN2 hx hr hQ 0 M2 (by omega) ⟨fun j h => absurd h (Nat.not_lt_zero j), fun _ _ => rfl⟩
    · refine J_aload_n hx dX7_best_28 (i := 0) rfl rfl ?_
      refine J_bipush (v := -6) hx dX7_best_29 (by decide) ?_
      refine J_invV (As := [vI ((-6))]) (st := []) hx lk_X7_99 okX7_refuse dX7_best_31 hT.o (by decide) rfl rfl rfl (Nat.le_of_ble_eq_true rfl) (Nat.zero_add _).symm (Nat.zero_add _).symm rfl (c_X7_refuseS hT hN hW (k := 4) (by decide) ?_)
      intro M1 hN1 hf1
      refine J_iret hx hr dX7_best_34 ?_
      exact hQ.to (v := -((4 + 2 : Nat) : Int)) (S := rfS S 4) (by
        unfold a_best
        all_goals (try unfold overY at *)
        all_goals (try unfold mayQ at *)
        all_goals (try simp only [Int.toNat_natCast] at *)
        all_goals ((repeat' split) <;> first | rfl | (exfalso; omega) | (congr 1; omega))) hN1 hf1
  · refine J_aload_n hx dX7_best_10 (i := 0) rfl rfl ?_
    refine J_bipush (v := -2) hx dX7_best_11 (by decide) ?_
    refine J_invV (As := [vI ((-2))]) (st := []) hx lk_X7_99 okX7_refuse dX7_best_13 hT.o (by decide) rfl rfl rfl (Nat.le_of_ble_eq_true rfl) (Nat.zero_add _).symm (Nat.zero_add _).symm rfl (c_X7_refuseS hT hN hW (k := 0) (by decide) ?_)
    intro M1 hN1 hf1
    refine J_iret hx hr dX7_best_16 ?_
    exact hQ.to (v := -((0 + 2 : Nat) : Int)) (S := rfS S 0) (by
      unfold a_best
      all_goals (try unfold overY at *)
      all_goals (try unfold mayQ at *)
      all_goals (try simp only [Int.toNat_natCast] at *)
      all_goals ((repeat' split) <;> first | rfl | (exfalso; omega) | (congr 1; omega))) hN1 hf1

