def wonY (A : YA) : Int := if ((A.ch 0).length < 2 ∨ (A.ch 1).length < 2 ∨ A.sc 4 ≤ A.sc 6) then leadY A else -1
theorem wonY_of {A : YA} {v : Int} (h : (overY A ∧ v = leadY A) ∨ (¬ overY A ∧ v = -1)) : v = wonY A := by
  unfold wonY
  rcases h with ⟨h1, h2⟩ | ⟨h1, h2⟩
  · exact h2.trans (if_pos h1).symm
  · exact h2.trans (if_neg h1).symm
/-- a run told by a number -/
def bkP (A : YA) (v : Nat) : Prop := ¬ overY A ∧ v / 1000 < A.n ∧ A.co (v / 1000) ≠ A.tn ∧ v / 100 % 10 + 1 < (A.ch A.tn).length ∧ v % 100 ≤ 2 ∧ ((v % 100 = 0 ∧ oddsY A (v / 1000) (v / 100 % 10) < 1000000) ∨ (v % 100 ≠ 0 ∧ 0 < oddsY A (v / 1000) (v / 100 % 10)))
def bkOK (A : YA) (v : Int) : Prop := 0 ≤ v ∧ v < 8000 ∧ bkP A v.toNat
def bkN (A : YA) (v : Nat) : YA := if v % 100 = 0 then runH A (v / 1000) (v / 100 % 10) else runT A (v / 1000) (v / 100 % 10) (takenY A (v / 100 % 10) (v % 100 - 1))
theorem bkN_wf {A : YA} (h : WFY A) {v : Nat} (hv : bkP A v) : WFY (bkN A v) := by
  obtain ⟨h1, h2, h3, h4, h5, h6⟩ := hv
  unfold bkN
  split
  · exact runH_wf h h2 h3 h4 h1
  · exact runT_wf h h2 h3 h4 h1 (taken_mem h h4 (by omega))
/-- the first wrong run of a book, and the yard there -/
noncomputable def bkZ (e : Nat → Int) : Nat → Nat → YA → Int × YA
  | 0, _, A => (-1, A)
  | k + 1, i, A => @ite _ (bkOK A (e i)) (Classical.propDecidable _) (bkZ e k (i + 1) (bkN A (e i).toNat)) (((i : Nat) : Int), A)
theorem bkZ_y {e : Nat → Int} {k i : Nat} {A : YA} (h : bkOK A (e i)) : bkZ e (k + 1) i A = bkZ e k (i + 1) (bkN A (e i).toNat) := if_pos h
theorem bkZ_n {e : Nat → Int} {k i : Nat} {A : YA} (h : ¬ bkOK A (e i)) : bkZ e (k + 1) i A = (((i : Nat) : Int), A) := if_neg h
theorem bkZ_wf {e : Nat → Int} : ∀ (k i : Nat) {A : YA}, WFY A → WFY (bkZ e k i A).2
  | 0, i, A, h => h
  | k + 1, i, A, h => by
    by_cases hb : bkOK A (e i)
    · rw [bkZ_y hb]; exact bkZ_wf k (i + 1) (bkN_wf h hb.2.2)
    · rw [bkZ_n hb]; exact h
theorem bkZ_rg {e : Nat → Int} : ∀ (k i : Nat) {A : YA}, -1 ≤ (bkZ e k i A).1 ∧ (bkZ e k i A).1 ≤ ((i + k : Nat) : Int)
  | 0, i, A => ⟨Int.le_refl _, by show (-1 : Int) ≤ _; omega⟩
  | k + 1, i, A => by
    by_cases hb : bkOK A (e i)
    · rw [bkZ_y hb]; have := bkZ_rg (e := e) k (i + 1) (A := bkN A (e i).toNat); omega
    · rw [bkZ_n hb]; dsimp only; omega
theorem c_X5_comeE {g : WG} {d : Nat} {T : TT} {M : MM} {r sz : Nat} {A : YA} {Q : MVal → TT → MM → Nat → Prop} (hT : YT T r) (hN : YN M r A) (hW : WFY A) {p j e : Nat} (hp : p < A.n) (hc : A.co p ≠ A.tn) (hj : j + 1 < (A.ch A.tn).length) (ho : ¬ overY A) (he : e ≤ 2) (hQ : ∀ M', YN M' r (if e = 0 then runH A p j else runT A p j (takenY A j (e - 1))) → FrY r M M' → Q vU T M' sz) : Ct g (d + 2) mX5_comeToPass [vR r, vI ((p : Nat) : Int), vI ((j : Nat) : Int), vI ((e : Nat) : Int)] T M sz 0 0 Q := by
  rcases (show e = 0 ∨ e = 1 ∨ e = 2 by omega) with rfl | rfl | rfl
  · exact c_X5_comeToPass_held hT hN hW hp hc hj ho hQ
  · exact c_X5_comeToPass_torn1 hT hN hW hp hc hj ho hQ
  · exact c_X5_comeToPass_torn2 hT hN hW hp hc hj ho hQ
theorem bm64 {x : Int} (h : 0 ≤ x ∧ x < 9223372036854775808) : x.bmod 18446744073709551616 = x := by rw [Int.bmod_def]; omega
theorem td1 {v : Nat} (h : v < 8000) : w32 ((((v : Nat) : Int).tdiv 1000).bmod 18446744073709551616) = ((v / 1000 : Nat) : Int) := by
  rw [Int.tdiv_eq_ediv_of_nonneg (by omega), bm64 (by omega), w32_id (by omega) (by omega)]; omega
theorem td2 {v : Nat} (h : v < 8000) : w32 (((((v : Nat) : Int).tdiv 100).bmod 18446744073709551616).tmod 10) = ((v / 100 % 10 : Nat) : Int) := by
  rw [Int.tdiv_eq_ediv_of_nonneg (by omega), bm64 (by omega), Int.tmod_eq_emod_of_nonneg (by omega), w32_id (by omega) (by omega)]; omega
theorem td3 {v : Nat} (h : v < 8000) : w32 (((v : Nat) : Int).tmod 100) = ((v % 100 : Nat) : Int) := by
  rw [Int.tmod_eq_emod_of_nonneg (by omega), w32_id (by omega) (by omega)]; omega
noncomputable def a_judge (S : ST) (s n : Int) : Int × ST := if ¬ (0 ≤ s ∧ s < 8 ∧ 0 ≤ n ∧ n ≤ 40) then rA S 0 else if 10 ≤ (S.sh s.toNat).1 then rA S 1 else if (S.sh s.toNat).1 = -1 then rA S 2 else if (S.sh s.toNat).2.1 < n then rA S 0 else ((bkZ (S.sh s.toNat).2.2 n.toNat 0 S.1).1, S)
noncomputable def a_behind (S : ST) (s n w : Int) : Int × ST := if ¬ (0 ≤ w ∧ w ≤ 2) then rA S 0 else if ¬ (0 ≤ s ∧ s < 8 ∧ 0 ≤ n ∧ n ≤ 40) then rA S 0 else if 10 ≤ (S.sh s.toNat).1 then rA S 1 else if (S.sh s.toNat).1 = -1 then rA S 2 else if (S.sh s.toNat).2.1 < n then rA S 0 else if (bkZ (S.sh s.toNat).2.2 n.toNat 0 S.1).1 ≠ -1 then rA S 3 else if w = 2 then (wonY (bkZ (S.sh s.toNat).2.2 n.toNat 0 S.1).2, S) else ((((bkZ (S.sh s.toNat).2.2 n.toNat 0 S.1).2.ch w.toNat).length : Nat), S)
noncomputable def a_booked (S : ST) (s n : Int) : Int × ST := if ¬ (0 ≤ s ∧ s < 8 ∧ 0 ≤ n ∧ n ≤ 40) then rA S 0 else if 10 ≤ (S.sh s.toNat).1 then rA S 1 else if (S.sh s.toNat).1 = -1 then rA S 2 else if (S.sh s.toNat).2.1 < n then rA S 0 else if (bkZ (S.sh s.toNat).2.2 n.toNat 0 S.1).1 ≠ -1 then rA S 3 else ((bkZ (S.sh s.toNat).2.2 n.toNat 0 S.1).2.sc 6, yS S (bkZ (S.sh s.toNat).2.2 n.toNat 0 S.1).2)
set_option maxHeartbeats 4000000 in
theorem lp_X6_followBook {g : WG} {d : Nat} {T : TT} {M : MM} {o sz : Nat} {S : ST} {Q : MVal → TT → MM → Nat → Prop} (hC : CT T o) (hN : CN M o S) (hW : WFS S) {x : CX} (hx : OKx g x RX6 cX6_followBook (d + 4)) (hr : RTx g x (some .int) Q) {s n : Nat} (hs8 : s < 8) (hrw : rowH (S.sh s).1) (hn : ((n : Nat) : Int) ≤ (S.sh s).2.1) {A : YA} (k i : Nat) (M1 : MM) (hk : i + k = n) (hWA : WFY A) (hY1 : YN M1 (o + 23) A) (hF1 : FrY (o + 23) M M1) (u4 u5 u6 u7 u8 : MVal) (hQ : ∀ M', YN M' (o + 23) (bkZ (S.sh s).2.2 k i A).2 → FrY (o + 23) M M' → Q (vI (bkZ (S.sh s).2.2 k i A).1) T M' sz) : Jd g x 13 [vR (o), vR (o + 67 + 2 * s), vI (((n : Nat) : Int)), vI (((i : Nat) : Int)), u4, u5, u6, u7, u8] [] T M1 sz 0 0 := by
  have hz9 := hW.z hs8
  refine J_iload_n hx dX6_followBook_13 (i := 3) rfl rfl ?_
  refine J_iload_n hx dX6_followBook_14 (i := 2) rfl rfl ?_
  refine J_icmp_ge (tgt := 137) hx dX6_followBook_15 (by decide) (fun c1 => ?_) (fun c1 => ?_)
  · refine J_iconst (v := -1) hx dX6_followBook_137 (by decide) ?_
    refine J_iret hx hr dX6_followBook_138 ?_
    have ek : k = 0 := by omega
    subst ek
    exact hQ M1 hY1 hF1
  · refine J_iload_n hx dX6_followBook_18 (i := 3) rfl rfl ?_
    refine J_aload_n hx dX6_followBook_19 (i := 1) rfl rfl ?_
    refine J_getI2 (v := (S.sh s).2.1) hx fl_X6_79 cl_X3 dX6_followBook_20 (hC.skd hs8) (by decide) rfl (by rw [hF1 _ (by omega)]; exact hN.hz hs8 hrw) ?_
    have rg2 := hW.z (s := s) (by omega)
    refine J_icmp_ge (tgt := 137) hx dX6_followBook_23 (by decide) (fun c3 => ?_) (fun c3 => ?_)
    · refine J_iconst (v := -1) hx dX6_followBook_137 (by decide) ?_
      refine J_iret hx hr dX6_followBook_138 ?_
      have ek : k = 0 := by omega
      subst ek
      exact hQ M1 hY1 hF1
    · refine J_aload_n hx dX6_followBook_26 (i := 1) rfl rfl ?_
      refine J_getR (b := o + 67 + 2 * s + 1) hx fl_X6_98 cl_X3 dX6_followBook_27 (hC.skd (by omega)) (by decide) rfl (hC.sel (by omega)) ?_
      refine J_iload_n hx dX6_followBook_30 (i := 3) rfl rfl ?_
      refine J_lald2 (v := (S.sh s).2.2 i) hx i dX6_followBook_31 (hC.sak hs8) (by omega) (by rw [hC.san hs8]; omega) (by rw [hF1 _ (by omega)]; exact hN.he hs8 hrw (by omega)) ?_
      refine J_lstore (lsn := [vR (o), vR (o + 67 + 2 * s), vI (((n : Nat) : Int)), vI (((i : Nat) : Int)), vL ((S.sh s).2.2 i), vU, u6, u7, u8]) hx dX6_followBook_32 (Nat.le_of_ble_eq_true rfl) rfl rfl ?_
      refine J_lload hx dX6_followBook_34 rfl ?_
      refine J_lconst (v := 0) hx dX6_followBook_36 (by decide) ?_
      refine J_lc_lt (tgt := 50) hx dX6_followBook_37 dX6_followBook_38 (by decide) (fun c4 => ?_) (fun c4 => ?_)
      · refine J_iload_n hx dX6_followBook_50 (i := 3) rfl rfl ?_
        refine J_iret hx hr dX6_followBook_51 ?_
        obtain ⟨k, rfl⟩ : ∃ k9, k = k9 + 1 := ⟨k - 1, by omega⟩
        have hb : ¬ bkOK A ((S.sh s).2.2 i) := fun h9 => by
          obtain ⟨h1, h2, h3⟩ := h9
          omega
        rw [bkZ_n hb] at hQ
        exact hQ M1 hY1 hF1
      · refine J_lload hx dX6_followBook_41 rfl ?_
        refine J_ldc2 (v := 8000) hx ct_X6_333 dX6_followBook_43 (by decide) ?_
        refine J_lc_lt (tgt := 52) hx dX6_followBook_46 dX6_followBook_47 (by decide) (fun c5 => ?_) (fun c5 => ?_)
        · obtain ⟨vN, ev⟩ : ∃ z : Nat, (S.sh s).2.2 i = ((z : Nat) : Int) := ⟨((S.sh s).2.2 i).toNat, by omega⟩
          have ev2 : ((S.sh s).2.2 i).toNat = vN := by omega
          rw [ev]
          refine J_lload hx dX6_followBook_52 rfl ?_
          refine J_l2i (v := ((vN : Nat) : Int)) hx dX6_followBook_54 (w32_id (by omega) (by omega)) ?_
          refine J_sipush (v := 1000) hx dX6_followBook_55 (by decide) ?_
          refine J_idiv (v := ((vN / 1000 : Nat) : Int)) hx dX6_followBook_58 (by omega) (by rw [jdiv (by omega) (by omega) (by omega)]; omega) ?_
          refine J_istore (lsn := [vR (o), vR (o + 67 + 2 * s), vI (((n : Nat) : Int)), vI (((i : Nat) : Int)), vL (((vN : Nat) : Int)), vU, vI (((vN / 1000 : Nat) : Int)), u7, u8]) hx dX6_followBook_59 (Nat.le_of_ble_eq_true rfl) rfl rfl ?_
          refine J_lload hx dX6_followBook_61 rfl ?_
          refine J_l2i (v := ((vN : Nat) : Int)) hx dX6_followBook_63 (w32_id (by omega) (by omega)) ?_
          refine J_bipush (v := 100) hx dX6_followBook_64 (by decide) ?_
          refine J_idiv (v := ((vN / 100 : Nat) : Int)) hx dX6_followBook_66 (by omega) (by rw [jdiv (by omega) (by omega) (by omega)]; omega) ?_
          refine J_bipush (v := 10) hx dX6_followBook_67 (by decide) ?_
          refine J_irem (v := ((vN / 100 % 10 : Nat) : Int)) hx dX6_followBook_69 (by omega) (by rw [jrem (by omega) (by omega)]; omega) ?_
          refine J_istore (lsn := [vR (o), vR (o + 67 + 2 * s), vI (((n : Nat) : Int)), vI (((i : Nat) : Int)), vL (((vN : Nat) : Int)), vU, vI (((vN / 1000 : Nat) : Int)), vI (((vN / 100 % 10 : Nat) : Int)), u8]) hx dX6_followBook_70 (Nat.le_of_ble_eq_true rfl) rfl rfl ?_
          refine J_lload hx dX6_followBook_72 rfl ?_
          refine J_l2i (v := ((vN : Nat) : Int)) hx dX6_followBook_74 (w32_id (by omega) (by omega)) ?_
          refine J_bipush (v := 100) hx dX6_followBook_75 (by decide) ?_
          refine J_irem (v := ((vN % 100 : Nat) : Int)) hx dX6_followBook_77 (by omega) (by rw [jrem (by omega) (by omega)]; omega) ?_
          refine J_istore (lsn := [vR (o), vR (o + 67 + 2 * s), vI (((n : Nat) : Int)), vI (((i : Nat) : Int)), vL (((vN : Nat) : Int)), vU, vI (((vN / 1000 : Nat) : Int)), vI (((vN / 100 % 10 : Nat) : Int)), vI (((vN % 100 : Nat) : Int))]) hx dX6_followBook_78 (Nat.le_of_ble_eq_true rfl) rfl rfl ?_
          refine J_iload hx dX6_followBook_80 rfl ?_
          refine J_iconst (v := 2) hx dX6_followBook_82 (by decide) ?_
          refine J_icmp_gt (tgt := 116) hx dX6_followBook_83 (by decide) (fun c6 => ?_) (fun c6 => ?_)
          · refine J_iload_n hx dX6_followBook_116 (i := 3) rfl rfl ?_
            refine J_iret hx hr dX6_followBook_117 ?_
            obtain ⟨k, rfl⟩ : ∃ k9, k = k9 + 1 := ⟨k - 1, by omega⟩
            have hb : ¬ bkOK A ((S.sh s).2.2 i) := fun h9 => by
              obtain ⟨h1, h2, h3⟩ := h9
              rw [ev2] at h3; have := h3.2.2.2.2.1; omega
            rw [bkZ_n hb] at hQ
            exact hQ M1 hY1 hF1
          · refine J_aload_n hx dX6_followBook_86 (i := 0) rfl rfl ?_
            refine J_getR (b := o + 23) hx fl_X6_19 cl_X6 dX6_followBook_87 hC.o (by decide) rfl hC.r2 ?_
            refine J_iload hx dX6_followBook_90 rfl ?_
            refine J_iload hx dX6_followBook_92 rfl ?_
            refine J_invV (As := [vI (((vN / 1000 : Nat) : Int)), vI (((vN / 100 % 10 : Nat) : Int))]) (st := []) hx lk_X6_335 okX5_mayRun dX6_followBook_94 hC.y2.o (by decide) rfl rfl rfl (Nat.le_of_ble_eq_true rfl) (Nat.zero_add _).symm (Nat.zero_add _).symm rfl (c_X5_mayRun hC.y2 hY1 hWA (one := ((vN / 1000 : Nat) : Int)) (k := ((vN / 100 % 10 : Nat) : Int)) ?_)
            intro vm hvm
            refine J_if_eq (tgt := 116) hx dX6_followBook_97 (by decide) (fun c7 => ?_) (fun c7 => ?_)
            · refine J_iload_n hx dX6_followBook_116 (i := 3) rfl rfl ?_
              refine J_iret hx hr dX6_followBook_117 ?_
              obtain ⟨k, rfl⟩ : ∃ k9, k = k9 + 1 := ⟨k - 1, by omega⟩
              have hb : ¬ bkOK A ((S.sh s).2.2 i) := fun h9 => by
                obtain ⟨h1, h2, h3⟩ := h9
                rw [ev2] at h3
                rcases hvm with h | ⟨_, h⟩
                · exfalso; omega
                · exact h ⟨h3.1, vN / 1000, vN / 100 % 10, rfl, h3.2.1, h3.2.2.1, rfl, h3.2.2.2.1⟩
              rw [bkZ_n hb] at hQ
              exact hQ M1 hY1 hF1
            · obtain ⟨hm1, hm2, hm3, hm4⟩ : ¬ overY A ∧ vN / 1000 < A.n ∧ A.co (vN / 1000) ≠ A.tn ∧ vN / 100 % 10 + 1 < (A.ch A.tn).length := by
                rcases hvm with ⟨_, h1, p9, j9, e1, h2, h3, e2, h4⟩ | ⟨h1, _⟩
                · have e3 : p9 = vN / 1000 := by omega
                  have e4 : j9 = vN / 100 % 10 := by omega
                  subst e3; subst e4
                  exact ⟨h1, h2, h3, h4⟩
                · exfalso; omega
              refine J_aload_n hx dX6_followBook_100 (i := 0) rfl rfl ?_
              refine J_getR (b := o + 23) hx fl_X6_19 cl_X6 dX6_followBook_101 hC.o (by decide) rfl hC.r2 ?_
              refine J_iload hx dX6_followBook_104 rfl ?_
              refine J_iload hx dX6_followBook_106 rfl ?_
              refine J_iload hx dX6_followBook_108 rfl ?_
              refine J_invV (As := [vI (((vN / 1000 : Nat) : Int)), vI (((vN / 100 % 10 : Nat) : Int)), vI (((vN % 100 : Nat) : Int))]) (st := []) hx lk_X6_338 okX5_canEnd dX6_followBook_110 hC.y2.o (by decide) rfl rfl rfl (Nat.le_of_ble_eq_true rfl) (Nat.zero_add _).symm (Nat.zero_add _).symm rfl (c_X5_canEnd hC.y2 hY1 hWA (p := vN / 1000) hm2 (j := vN / 100 % 10) hm4 (e := ((vN % 100 : Nat) : Int)) ?_)
              intro vc hvc
              refine J_if_ne (tgt := 118) hx dX6_followBook_113 (by decide) (fun c8 => ?_) (fun c8 => ?_)
              · obtain ⟨k, rfl⟩ : ∃ k9, k = k9 + 1 := ⟨k - 1, by omega⟩
                have hb : bkOK A ((S.sh s).2.2 i) := ⟨by omega, by omega, by rw [ev2]; exact ⟨hm1, hm2, hm3, hm4, by omega, by omega⟩⟩
                refine J_aload_n hx dX6_followBook_118 (i := 0) rfl rfl ?_
                refine J_getR (b := o + 23) hx fl_X6_19 cl_X6 dX6_followBook_119 hC.o (by decide) rfl hC.r2 ?_
                refine J_iload hx dX6_followBook_122 rfl ?_
                refine J_iload hx dX6_followBook_124 rfl ?_
                refine J_iload hx dX6_followBook_126 rfl ?_
                refine J_invVv (As := [vI (((vN / 1000 : Nat) : Int)), vI (((vN / 100 % 10 : Nat) : Int)), vI (((vN % 100 : Nat) : Int))]) (st := []) hx lk_X6_341 okX5_comeToPass dX6_followBook_128 hC.y2.o (by decide) rfl rfl rfl (Nat.le_of_ble_eq_true rfl) (Nat.zero_add _).symm (Nat.zero_add _).symm rfl (c_X5_comeE hC.y2 hY1 hWA (p := vN / 1000) (j := vN / 100 % 10) (e := vN % 100) hm2 hm3 hm4 hm1 (by omega) ?_)
                intro M2 hY2 hF2
                refine J_iinc (v := ((i : Nat) : Int) + 1) (lsn := [vR (o), vR (o + 67 + 2 * s), vI (((n : Nat) : Int)), vI (((i : Nat) : Int) + 1), vL (((vN : Nat) : Int)), vU, vI (((vN / 1000 : Nat) : Int)), vI (((vN / 100 % 10 : Nat) : Int)), vI (((vN % 100 : Nat) : Int))]) hx dX6_followBook_131 rfl (jinc1 (by omega) (by omega)) rfl rfl ?_
                refine J_goto (tgt := 13) hx dX6_followBook_134 (by decide) ?_
                rw [bkZ_y hb, ev2] at hQ
                exact lp_X6_followBook hC hN hW hx hr hs8 hrw hn k (i + 1) M2 (by omega) (bkN_wf hWA (by rw [← ev2]; exact hb.2.2)) hY2 (hF1.tr hF2) _ _ _ _ _ hQ
              · refine J_iload_n hx dX6_followBook_116 (i := 3) rfl rfl ?_
                refine J_iret hx hr dX6_followBook_117 ?_
                obtain ⟨k, rfl⟩ : ∃ k9, k = k9 + 1 := ⟨k - 1, by omega⟩
                have hb : ¬ bkOK A ((S.sh s).2.2 i) := fun h9 => by
                  obtain ⟨h1, h2, h3⟩ := h9
                  rw [ev2] at h3
                  have h4 := h3.2.2.2.2.2
                  omega
                rw [bkZ_n hb] at hQ
                exact hQ M1 hY1 hF1
        · refine J_iload_n hx dX6_followBook_50 (i := 3) rfl rfl ?_
          refine J_iret hx hr dX6_followBook_51 ?_
          obtain ⟨k, rfl⟩ : ∃ k9, k = k9 + 1 := ⟨k - 1, by omega⟩
          have hb : ¬ bkOK A ((S.sh s).2.2 i) := fun h9 => by
            obtain ⟨h1, h2, h3⟩ := h9
            omega
          rw [bkZ_n hb] at hQ
          exact hQ M1 hY1 hF1
termination_by k
decreasing_by all_goals omega

set_option maxHeartbeats 4000000 in
theorem c_X6_followBook {g : WG} {d : Nat} {T : TT} {M : MM} {o sz : Nat} {S : ST} {Q : MVal → TT → MM → Nat → Prop} (hC : CT T o) (hN : CN M o S) (hW : WFS S) {s n : Nat} (hs8 : s < 8) (hrw : rowH (S.sh s).1) (hn : ((n : Nat) : Int) ≤ (S.sh s).2.1) (hQ : ∀ M', YN M' (o + 23) (bkZ (S.sh s).2.2 n 0 S.1).2 → FrY (o + 23) M M' → Q (vI (bkZ (S.sh s).2.2 n 0 S.1).1) T M' sz) : Ct g (d + 4) mX6_followBook [vR (o), vR (o + 67 + 2 * s), vI (((n : Nat) : Int))] T M sz 0 0 Q := by
  refine Ct_of2 (ls := [vR (o), vR (o + 67 + 2 * s), vI (((n : Nat) : Int)), vU, vU, vU, vU, vU, vU]) okX6_followBook rfl (Nat.le_of_ble_eq_true rfl) rfl ?_
  intro x hx hr hnm
  refine J_aload_n hx dX6_followBook_0 (i := 0) rfl rfl ?_
  refine J_getR (b := o + 23) hx fl_X6_19 cl_X6 dX6_followBook_1 hC.o (by decide) rfl hC.r2 ?_
  refine J_aload_n hx dX6_followBook_4 (i := 0) rfl rfl ?_
  refine J_getR (b := o + 1) hx fl_X6_10 cl_X6 dX6_followBook_5 hC.o (by decide) rfl hC.r0 ?_
  refine J_invVv (As := [vR (o + 1)]) (st := []) hx lk_X6_180 okX5_becomeAs dX6_followBook_8 hC.y2.o (by decide) rfl rfl rfl (Nat.le_of_ble_eq_true rfl) (Nat.zero_add _).symm (Nat.zero_add _).symm rfl (c_X5_becomeAs hC.y2 hC.y0 hN.y hW.y (by omega) ?_)
  intro M1 hY1 hF1
  refine J_iconst (v := 0) hx dX6_followBook_11 (by decide) ?_
  refine J_istore_n (lsn := [vR (o), vR (o + 67 + 2 * s), vI (((n : Nat) : Int)), vI (0), vU, vU, vU, vU, vU]) hx dX6_followBook_12 (i := 3) rfl (Nat.le_of_ble_eq_true rfl) rfl rfl ?_
  exact lp_X6_followBook hC hN hW hx hr hs8 hrw hn n 0 M1 (by omega) hW.y hY1 hF1 _ _ _ _ _ hQ

set_option maxHeartbeats 4000000 in
theorem c_X6_judge {g : WG} {d : Nat} {T : TT} {M : MM} {o sz : Nat} {S : ST} {Q : MVal → TT → MM → Nat → Prop} (hC : CT T o) (hN : CN M o S) (hW : WFS S) {s n : Int} (h_s : -2147483648 ≤ s ∧ s ≤ 2147483647) (h_n : -2147483648 ≤ n ∧ n ≤ 2147483647) (hQ : CQ o T M sz Q (a_judge S s n)) : Ct g (d + 5) mX6_judge [vR (o), vI (s), vI (n)] T M sz 0 0 Q := by
  refine Ct_of2 (ls := [vR (o), vI (s), vI (n), vU]) okX6_judge rfl (Nat.le_of_ble_eq_true rfl) rfl ?_
  intro x hx hr hnm
  refine J_aload_n hx dX6_judge_0 (i := 0) rfl rfl ?_
  refine J_iload_n hx dX6_judge_1 (i := 1) rfl rfl ?_
  refine J_iload_n hx dX6_judge_2 (i := 2) rfl rfl ?_
  refine J_invV (As := [vI (s), vI (n)]) (st := []) hx lk_X6_75 okX6_faultOfRow dX6_judge_3 hC.o (by decide) rfl rfl rfl (Nat.le_of_ble_eq_true rfl) (Nat.zero_add _).symm (Nat.zero_add _).symm rfl (c_X6_faultOfRow hC hN hW (s := s) (n := n) ?_)
  rintro vf (⟨rfl, hvf⟩ | ⟨rfl, hvf⟩ | ⟨rfl, hvf⟩ | ⟨rfl, hvf⟩ | ⟨rfl, hvf⟩)
  · refine J_istore_n (lsn := [vR (o), vI (s), vI (n), vI ((-2))]) hx dX6_judge_6 (i := 3) rfl (Nat.le_of_ble_eq_true rfl) rfl rfl ?_
    refine J_iload_n hx dX6_judge_7 (i := 3) rfl rfl ?_
    refine J_if_eq (tgt := 19) hx dX6_judge_8 (by decide) (fun c9 => absurd c9 (by decide)) (fun _ => ?_)
    refine J_aload_n hx dX6_judge_11 (i := 0) rfl rfl ?_
    refine J_iload_n hx dX6_judge_12 (i := 3) rfl rfl ?_
    refine J_invV (As := [vI ((-2))]) (st := []) hx lk_X6_67 okX6_refuse dX6_judge_13 hC.o (by decide) rfl rfl rfl (Nat.le_of_ble_eq_true rfl) (Nat.zero_add _).symm (Nat.zero_add _).symm rfl (c_X6_refuse hC hN hW (k := 0) (by decide) ?_)
    intro M1 hN1 hf1
    refine J_goto (tgt := 30) hx dX6_judge_16 (by decide) ?_
    refine J_iret hx hr dX6_judge_30 ?_
    exact hQ.to (v := -((0 + 2 : Nat) : Int)) (S := rfS S 0) (by
      unfold a_judge
      all_goals (try unfold overY at *)
      all_goals (try unfold mayQ at *)
      all_goals (try simp only [Int.toNat_natCast] at *)
      all_goals ((repeat' split) <;> first | rfl | (exfalso; omega) | (congr 1; omega))) hC hN1 hf1
  · refine J_istore_n (lsn := [vR (o), vI (s), vI (n), vI ((-3))]) hx dX6_judge_6 (i := 3) rfl (Nat.le_of_ble_eq_true rfl) rfl rfl ?_
    refine J_iload_n hx dX6_judge_7 (i := 3) rfl rfl ?_
    refine J_if_eq (tgt := 19) hx dX6_judge_8 (by decide) (fun c9 => absurd c9 (by decide)) (fun _ => ?_)
    refine J_aload_n hx dX6_judge_11 (i := 0) rfl rfl ?_
    refine J_iload_n hx dX6_judge_12 (i := 3) rfl rfl ?_
    refine J_invV (As := [vI ((-3))]) (st := []) hx lk_X6_67 okX6_refuse dX6_judge_13 hC.o (by decide) rfl rfl rfl (Nat.le_of_ble_eq_true rfl) (Nat.zero_add _).symm (Nat.zero_add _).symm rfl (c_X6_refuse hC hN hW (k := 1) (by decide) ?_)
    intro M1 hN1 hf1
    refine J_goto (tgt := 30) hx dX6_judge_16 (by decide) ?_
    refine J_iret hx hr dX6_judge_30 ?_
    exact hQ.to (v := -((1 + 2 : Nat) : Int)) (S := rfS S 1) (by
      unfold a_judge
      all_goals (try unfold overY at *)
      all_goals (try unfold mayQ at *)
      all_goals (try simp only [Int.toNat_natCast] at *)
      all_goals ((repeat' split) <;> first | rfl | (exfalso; omega) | (congr 1; omega))) hC hN1 hf1
  · refine J_istore_n (lsn := [vR (o), vI (s), vI (n), vI ((-4))]) hx dX6_judge_6 (i := 3) rfl (Nat.le_of_ble_eq_true rfl) rfl rfl ?_
    refine J_iload_n hx dX6_judge_7 (i := 3) rfl rfl ?_
    refine J_if_eq (tgt := 19) hx dX6_judge_8 (by decide) (fun c9 => absurd c9 (by decide)) (fun _ => ?_)
    refine J_aload_n hx dX6_judge_11 (i := 0) rfl rfl ?_
    refine J_iload_n hx dX6_judge_12 (i := 3) rfl rfl ?_
    refine J_invV (As := [vI ((-4))]) (st := []) hx lk_X6_67 okX6_refuse dX6_judge_13 hC.o (by decide) rfl rfl rfl (Nat.le_of_ble_eq_true rfl) (Nat.zero_add _).symm (Nat.zero_add _).symm rfl (c_X6_refuse hC hN hW (k := 2) (by decide) ?_)
    intro M1 hN1 hf1
    refine J_goto (tgt := 30) hx dX6_judge_16 (by decide) ?_
    refine J_iret hx hr dX6_judge_30 ?_
    exact hQ.to (v := -((2 + 2 : Nat) : Int)) (S := rfS S 2) (by
      unfold a_judge
      all_goals (try unfold overY at *)
      all_goals (try unfold mayQ at *)
      all_goals (try simp only [Int.toNat_natCast] at *)
      all_goals ((repeat' split) <;> first | rfl | (exfalso; omega) | (congr 1; omega))) hC hN1 hf1
  · refine J_istore_n (lsn := [vR (o), vI (s), vI (n), vI ((-2))]) hx dX6_judge_6 (i := 3) rfl (Nat.le_of_ble_eq_true rfl) rfl rfl ?_
    refine J_iload_n hx dX6_judge_7 (i := 3) rfl rfl ?_
    refine J_if_eq (tgt := 19) hx dX6_judge_8 (by decide) (fun c9 => absurd c9 (by decide)) (fun _ => ?_)
    refine J_aload_n hx dX6_judge_11 (i := 0) rfl rfl ?_
    refine J_iload_n hx dX6_judge_12 (i := 3) rfl rfl ?_
    refine J_invV (As := [vI ((-2))]) (st := []) hx lk_X6_67 okX6_refuse dX6_judge_13 hC.o (by decide) rfl rfl rfl (Nat.le_of_ble_eq_true rfl) (Nat.zero_add _).symm (Nat.zero_add _).symm rfl (c_X6_refuse hC hN hW (k := 0) (by decide) ?_)
    intro M1 hN1 hf1
    refine J_goto (tgt := 30) hx dX6_judge_16 (by decide) ?_
    refine J_iret hx hr dX6_judge_30 ?_
    exact hQ.to (v := -((0 + 2 : Nat) : Int)) (S := rfS S 0) (by
      unfold a_judge
      all_goals (try unfold overY at *)
      all_goals (try unfold mayQ at *)
      all_goals (try simp only [Int.toNat_natCast] at *)
      all_goals ((repeat' split) <;> first | rfl | (exfalso; omega) | (congr 1; omega))) hC hN1 hf1
  · refine J_istore_n (lsn := [vR (o), vI (s), vI (n), vI (0)]) hx dX6_judge_6 (i := 3) rfl (Nat.le_of_ble_eq_true rfl) rfl rfl ?_
    refine J_iload_n hx dX6_judge_7 (i := 3) rfl rfl ?_
    refine J_if_eq (tgt := 19) hx dX6_judge_8 (by decide) (fun _ => ?_) (fun c9 => absurd c9 (by decide))
    obtain ⟨sN, rfl⟩ : ∃ z : Nat, s = ((z : Nat) : Int) := ⟨s.toNat, by omega⟩
    obtain ⟨nN, rfl⟩ : ∃ z : Nat, n = ((z : Nat) : Int) := ⟨n.toNat, by omega⟩
    refine J_aload_n hx dX6_judge_19 (i := 0) rfl rfl ?_
    refine J_aload_n hx dX6_judge_20 (i := 0) rfl rfl ?_
    refine J_getR (b := o + 65) hx fl_X6_54 cl_X6 dX6_judge_21 hC.o (by decide) rfl hC.r7 ?_
    refine J_iload_n hx dX6_judge_24 (i := 1) rfl rfl ?_
    refine J_aald (b := o + 67 + 2 * sN) hx sN dX6_judge_25 hC.k65 (by decide) (by omega) (by rw [hC.n65]; omega) (hC.sre (by omega)) ?_
    refine J_iload_n hx dX6_judge_26 (i := 2) rfl rfl ?_
    refine J_invV (As := [vR (o + 67 + 2 * sN), vI (((nN : Nat) : Int))]) (st := []) hx lk_X6_299 okX6_followBook dX6_judge_27 hC.o (by decide) rfl rfl rfl (Nat.le_of_ble_eq_true rfl) (Nat.zero_add _).symm (Nat.zero_add _).symm rfl (c_X6_followBook hC hN hW (s := sN) (n := nN) (by omega) (show rowH _ from by (try simp only [Int.toNat_natCast] at *); exact hvf.2.1) (by (try simp only [Int.toNat_natCast] at *); exact hvf.2.2) ?_)
    intro M2 hY2 hF2
    have hN2 := hN.th hF2
    have hWz : WFY (bkZ (S.sh sN).2.2 nN 0 S.1).2 := bkZ_wf nN 0 hW.y
    refine J_iret hx hr dX6_judge_30 ?_
    exact hQ.to (v := (bkZ (S.sh sN).2.2 nN 0 S.1).1) (S := S) (by
      unfold a_judge
      all_goals (try unfold overY at *)
      all_goals (try unfold mayQ at *)
      all_goals (try simp only [Int.toNat_natCast] at *)
      all_goals ((repeat' split) <;> first | rfl | (exfalso; omega) | (congr 1; omega))) hC hN2 (fun b9 h9 => hF2 b9 (by omega))

set_option maxHeartbeats 4000000 in
theorem c_X6_behind {g : WG} {d : Nat} {T : TT} {M : MM} {o sz : Nat} {S : ST} {Q : MVal → TT → MM → Nat → Prop} (hC : CT T o) (hN : CN M o S) (hW : WFS S) {s n w : Int} (h_s : -2147483648 ≤ s ∧ s ≤ 2147483647) (h_n : -2147483648 ≤ n ∧ n ≤ 2147483647) (h_w : -2147483648 ≤ w ∧ w ≤ 2147483647) (hQ : CQ o T M sz Q (a_behind S s n w)) : Ct g (d + 5) mX6_behind [vR (o), vI (s), vI (n), vI (w)] T M sz 0 0 Q := by
  refine Ct_of2 (ls := [vR (o), vI (s), vI (n), vI (w), vU]) okX6_behind rfl (Nat.le_of_ble_eq_true rfl) rfl ?_
  intro x hx hr hnm
  refine J_iload_n hx dX6_behind_0 (i := 3) rfl rfl ?_
  refine J_if_lt (tgt := 9) hx dX6_behind_1 (by decide) (fun c1 => ?_) (fun c1 => ?_)
  · refine J_bipush (v := -2) hx dX6_behind_9 (by decide) ?_
    refine J_goto (tgt := 20) hx dX6_behind_11 (by decide) ?_
    refine J_istore (lsn := [vR (o), vI (s), vI (n), vI (w), vI ((-2))]) hx dX6_behind_20 (Nat.le_of_ble_eq_true rfl) rfl rfl ?_
    refine J_iload hx dX6_behind_22 rfl ?_
    refine J_if_eq (tgt := 34) hx dX6_behind_24 (by decide) (fun c9 => absurd c9 (by decide)) (fun _ => ?_)
    refine J_aload_n hx dX6_behind_27 (i := 0) rfl rfl ?_
    refine J_iload hx dX6_behind_28 rfl ?_
    refine J_invV (As := [vI ((-2))]) (st := []) hx lk_X6_67 okX6_refuse dX6_behind_30 hC.o (by decide) rfl rfl rfl (Nat.le_of_ble_eq_true rfl) (Nat.zero_add _).symm (Nat.zero_add _).symm rfl (c_X6_refuse hC hN hW (k := 0) (by decide) ?_)
    intro M1 hN1 hf1
    refine J_iret hx hr dX6_behind_33 ?_
    exact hQ.to (v := -((0 + 2 : Nat) : Int)) (S := rfS S 0) (by
      unfold a_behind
      all_goals (try unfold overY at *)
      all_goals (try unfold mayQ at *)
      all_goals (try simp only [Int.toNat_natCast] at *)
      all_goals ((repeat' split) <;> first | rfl | (exfalso; omega) | (congr 1; omega))) hC hN1 hf1
  · refine J_iload_n hx dX6_behind_4 (i := 3) rfl rfl ?_
    refine J_iconst (v := 2) hx dX6_behind_5 (by decide) ?_
    refine J_icmp_le (tgt := 14) hx dX6_behind_6 (by decide) (fun c3 => ?_) (fun c3 => ?_)
    · refine J_aload_n hx dX6_behind_14 (i := 0) rfl rfl ?_
      refine J_iload_n hx dX6_behind_15 (i := 1) rfl rfl ?_
      refine J_iload_n hx dX6_behind_16 (i := 2) rfl rfl ?_
      refine J_invV (As := [vI (s), vI (n)]) (st := []) hx lk_X6_75 okX6_faultOfRow dX6_behind_17 hC.o (by decide) rfl rfl rfl (Nat.le_of_ble_eq_true rfl) (Nat.zero_add _).symm (Nat.zero_add _).symm rfl (c_X6_faultOfRow hC hN hW (s := s) (n := n) ?_)
      rintro vf (⟨rfl, hvf⟩ | ⟨rfl, hvf⟩ | ⟨rfl, hvf⟩ | ⟨rfl, hvf⟩ | ⟨rfl, hvf⟩)
      · refine J_istore (lsn := [vR (o), vI (s), vI (n), vI (w), vI ((-2))]) hx dX6_behind_20 (Nat.le_of_ble_eq_true rfl) rfl rfl ?_
        refine J_iload hx dX6_behind_22 rfl ?_
        refine J_if_eq (tgt := 34) hx dX6_behind_24 (by decide) (fun c9 => absurd c9 (by decide)) (fun _ => ?_)
        refine J_aload_n hx dX6_behind_27 (i := 0) rfl rfl ?_
        refine J_iload hx dX6_behind_28 rfl ?_
        refine J_invV (As := [vI ((-2))]) (st := []) hx lk_X6_67 okX6_refuse dX6_behind_30 hC.o (by decide) rfl rfl rfl (Nat.le_of_ble_eq_true rfl) (Nat.zero_add _).symm (Nat.zero_add _).symm rfl (c_X6_refuse hC hN hW (k := 0) (by decide) ?_)
        intro M1 hN1 hf1
        refine J_iret hx hr dX6_behind_33 ?_
        exact hQ.to (v := -((0 + 2 : Nat) : Int)) (S := rfS S 0) (by
          unfold a_behind
          all_goals (try unfold overY at *)
          all_goals (try unfold mayQ at *)
          all_goals (try simp only [Int.toNat_natCast] at *)
          all_goals ((repeat' split) <;> first | rfl | (exfalso; omega) | (congr 1; omega))) hC hN1 hf1
      · refine J_istore (lsn := [vR (o), vI (s), vI (n), vI (w), vI ((-3))]) hx dX6_behind_20 (Nat.le_of_ble_eq_true rfl) rfl rfl ?_
        refine J_iload hx dX6_behind_22 rfl ?_
        refine J_if_eq (tgt := 34) hx dX6_behind_24 (by decide) (fun c9 => absurd c9 (by decide)) (fun _ => ?_)
        refine J_aload_n hx dX6_behind_27 (i := 0) rfl rfl ?_
        refine J_iload hx dX6_behind_28 rfl ?_
        refine J_invV (As := [vI ((-3))]) (st := []) hx lk_X6_67 okX6_refuse dX6_behind_30 hC.o (by decide) rfl rfl rfl (Nat.le_of_ble_eq_true rfl) (Nat.zero_add _).symm (Nat.zero_add _).symm rfl (c_X6_refuse hC hN hW (k := 1) (by decide) ?_)
        intro M1 hN1 hf1
        refine J_iret hx hr dX6_behind_33 ?_
        exact hQ.to (v := -((1 + 2 : Nat) : Int)) (S := rfS S 1) (by
          unfold a_behind
          all_goals (try unfold overY at *)
          all_goals (try unfold mayQ at *)
          all_goals (try simp only [Int.toNat_natCast] at *)
          all_goals ((repeat' split) <;> first | rfl | (exfalso; omega) | (congr 1; omega))) hC hN1 hf1
      · refine J_istore (lsn := [vR (o), vI (s), vI (n), vI (w), vI ((-4))]) hx dX6_behind_20 (Nat.le_of_ble_eq_true rfl) rfl rfl ?_
        refine J_iload hx dX6_behind_22 rfl ?_
        refine J_if_eq (tgt := 34) hx dX6_behind_24 (by decide) (fun c9 => absurd c9 (by decide)) (fun _ => ?_)
        refine J_aload_n hx dX6_behind_27 (i := 0) rfl rfl ?_
        refine J_iload hx dX6_behind_28 rfl ?_
        refine J_invV (As := [vI ((-4))]) (st := []) hx lk_X6_67 okX6_refuse dX6_behind_30 hC.o (by decide) rfl rfl rfl (Nat.le_of_ble_eq_true rfl) (Nat.zero_add _).symm (Nat.zero_add _).symm rfl (c_X6_refuse hC hN hW (k := 2) (by decide) ?_)
        intro M1 hN1 hf1
        refine J_iret hx hr dX6_behind_33 ?_
        exact hQ.to (v := -((2 + 2 : Nat) : Int)) (S := rfS S 2) (by
          unfold a_behind
          all_goals (try unfold overY at *)
          all_goals (try unfold mayQ at *)
          all_goals (try simp only [Int.toNat_natCast] at *)
          all_goals ((repeat' split) <;> first | rfl | (exfalso; omega) | (congr 1; omega))) hC hN1 hf1
      · refine J_istore (lsn := [vR (o), vI (s), vI (n), vI (w), vI ((-2))]) hx dX6_behind_20 (Nat.le_of_ble_eq_true rfl) rfl rfl ?_
        refine J_iload hx dX6_behind_22 rfl ?_
        refine J_if_eq (tgt := 34) hx dX6_behind_24 (by decide) (fun c9 => absurd c9 (by decide)) (fun _ => ?_)
        refine J_aload_n hx dX6_behind_27 (i := 0) rfl rfl ?_
        refine J_iload hx dX6_behind_28 rfl ?_
        refine J_invV (As := [vI ((-2))]) (st := []) hx lk_X6_67 okX6_refuse dX6_behind_30 hC.o (by decide) rfl rfl rfl (Nat.le_of_ble_eq_true rfl) (Nat.zero_add _).symm (Nat.zero_add _).symm rfl (c_X6_refuse hC hN hW (k := 0) (by decide) ?_)
        intro M1 hN1 hf1
        refine J_iret hx hr dX6_behind_33 ?_
        exact hQ.to (v := -((0 + 2 : Nat) : Int)) (S := rfS S 0) (by
          unfold a_behind
          all_goals (try unfold overY at *)
          all_goals (try unfold mayQ at *)
          all_goals (try simp only [Int.toNat_natCast] at *)
          all_goals ((repeat' split) <;> first | rfl | (exfalso; omega) | (congr 1; omega))) hC hN1 hf1
      · refine J_istore (lsn := [vR (o), vI (s), vI (n), vI (w), vI (0)]) hx dX6_behind_20 (Nat.le_of_ble_eq_true rfl) rfl rfl ?_
        refine J_iload hx dX6_behind_22 rfl ?_
        refine J_if_eq (tgt := 34) hx dX6_behind_24 (by decide) (fun _ => ?_) (fun c9 => absurd c9 (by decide))
        obtain ⟨sN, rfl⟩ : ∃ z : Nat, s = ((z : Nat) : Int) := ⟨s.toNat, by omega⟩
        obtain ⟨nN, rfl⟩ : ∃ z : Nat, n = ((z : Nat) : Int) := ⟨n.toNat, by omega⟩
        refine J_aload_n hx dX6_behind_34 (i := 0) rfl rfl ?_
        refine J_aload_n hx dX6_behind_35 (i := 0) rfl rfl ?_
        refine J_getR (b := o + 65) hx fl_X6_54 cl_X6 dX6_behind_36 hC.o (by decide) rfl hC.r7 ?_
        refine J_iload_n hx dX6_behind_39 (i := 1) rfl rfl ?_
        refine J_aald (b := o + 67 + 2 * sN) hx sN dX6_behind_40 hC.k65 (by decide) (by omega) (by rw [hC.n65]; omega) (hC.sre (by omega)) ?_
        refine J_iload_n hx dX6_behind_41 (i := 2) rfl rfl ?_
        refine J_invV (As := [vR (o + 67 + 2 * sN), vI (((nN : Nat) : Int))]) (st := []) hx lk_X6_299 okX6_followBook dX6_behind_42 hC.o (by decide) rfl rfl rfl (Nat.le_of_ble_eq_true rfl) (Nat.zero_add _).symm (Nat.zero_add _).symm rfl (c_X6_followBook hC hN hW (s := sN) (n := nN) (by omega) (show rowH _ from by (try simp only [Int.toNat_natCast] at *); exact hvf.2.1) (by (try simp only [Int.toNat_natCast] at *); exact hvf.2.2) ?_)
        intro M2 hY2 hF2
        have hN2 := hN.th hF2
        have hWz : WFY (bkZ (S.sh sN).2.2 nN 0 S.1).2 := bkZ_wf nN 0 hW.y
        refine J_iconst (v := -1) hx dX6_behind_45 (by decide) ?_
        refine J_icmp_eq (tgt := 56) hx dX6_behind_46 (by decide) (fun c9 => ?_) (fun c9 => ?_)
        · refine J_iload_n hx dX6_behind_56 (i := 3) rfl rfl ?_
          refine J_iconst (v := 2) hx dX6_behind_57 (by decide) ?_
          refine J_icmp_ne (tgt := 71) hx dX6_behind_58 (by decide) (fun c10 => ?_) (fun c10 => ?_)
          · obtain ⟨wN, rfl⟩ : ∃ z : Nat, w = ((z : Nat) : Int) := ⟨w.toNat, by omega⟩
            refine J_aload_n hx dX6_behind_71 (i := 0) rfl rfl ?_
            refine J_getR (b := o + 23) hx fl_X6_19 cl_X6 dX6_behind_72 hC.o (by decide) rfl hC.r2 ?_
            refine J_getR (b := o + 23 + 10) hx fl_X6_199 cl_X5 dX6_behind_75 hC.y2.o (by decide) rfl hC.y2.r7 ?_
            refine J_iload_n hx dX6_behind_78 (i := 3) rfl rfl ?_
            refine J_iald2 (v := ((((bkZ (S.sh sN).2.2 nN 0 S.1).2.ch wN).length : Nat) : Int)) hx wN dX6_behind_79 hC.y2.k10 (by omega) (hC.y2.l10 (by omega)) (hY2.sz (by omega)) ?_
            have rg11 := hWz.len8 (c := wN) (by omega)
            have rg12 := hWz.lenN (c := wN) (by omega)
            refine J_iret hx hr dX6_behind_80 ?_
            exact hQ.to (v := ((((bkZ (S.sh sN).2.2 nN 0 S.1).2.ch wN).length : Nat) : Int)) (S := S) (by
              unfold a_behind
              all_goals (try unfold overY at *)
              all_goals (try unfold mayQ at *)
              all_goals (try simp only [Int.toNat_natCast] at *)
              all_goals ((repeat' split) <;> first | rfl | (exfalso; omega) | (congr 1; omega))) hC hN2 (fun b9 h9 => hF2 b9 (by omega))
          · refine J_aload_n hx dX6_behind_61 (i := 0) rfl rfl ?_
            refine J_getR (b := o + 23) hx fl_X6_19 cl_X6 dX6_behind_62 hC.o (by decide) rfl hC.r2 ?_
            refine J_invV (As := []) (st := []) hx lk_X6_241 okX5_winner dX6_behind_65 hC.y2.o (by decide) rfl rfl rfl (Nat.le_of_ble_eq_true rfl) (Nat.zero_add _).symm (Nat.zero_add _).symm rfl (c_X5_winner hC.y2 hY2 hWz ?_)
            intro vw hvw
            have ew := wonY_of hvw
            subst ew
            refine J_goto (tgt := 80) hx dX6_behind_68 (by decide) ?_
            refine J_iret hx hr dX6_behind_80 ?_
            exact hQ.to (v := wonY (bkZ (S.sh sN).2.2 nN 0 S.1).2) (S := S) (by
              unfold a_behind
              all_goals (try unfold overY at *)
              all_goals (try unfold mayQ at *)
              all_goals (try simp only [Int.toNat_natCast] at *)
              all_goals ((repeat' split) <;> first | rfl | (exfalso; omega) | (congr 1; omega))) hC hN2 (fun b9 h9 => hF2 b9 (by omega))
        · refine J_aload_n hx dX6_behind_49 (i := 0) rfl rfl ?_
          refine J_bipush (v := -5) hx dX6_behind_50 (by decide) ?_
          refine J_invV (As := [vI ((-5))]) (st := []) hx lk_X6_67 okX6_refuse dX6_behind_52 hC.o (by decide) rfl rfl rfl (Nat.le_of_ble_eq_true rfl) (Nat.zero_add _).symm (Nat.zero_add _).symm rfl (c_X6_refuse hC hN2 hW (k := 3) (by decide) ?_)
          intro M1 hN1 hf1
          have hf3 : ∀ b, (b < o ∨ o + 83 ≤ b) → M1 b = M b := fun b9 h9 => by rw [hf1 b9 h9, hF2 b9 (by omega)]
          refine J_iret hx hr dX6_behind_55 ?_
          exact hQ.to (v := -((3 + 2 : Nat) : Int)) (S := rfS S 3) (by
            unfold a_behind
            all_goals (try unfold overY at *)
            all_goals (try unfold mayQ at *)
            all_goals (try simp only [Int.toNat_natCast] at *)
            all_goals ((repeat' split) <;> first | rfl | (exfalso; omega) | (congr 1; omega))) hC hN1 hf3
    · refine J_bipush (v := -2) hx dX6_behind_9 (by decide) ?_
      refine J_goto (tgt := 20) hx dX6_behind_11 (by decide) ?_
      refine J_istore (lsn := [vR (o), vI (s), vI (n), vI (w), vI ((-2))]) hx dX6_behind_20 (Nat.le_of_ble_eq_true rfl) rfl rfl ?_
      refine J_iload hx dX6_behind_22 rfl ?_
      refine J_if_eq (tgt := 34) hx dX6_behind_24 (by decide) (fun c9 => absurd c9 (by decide)) (fun _ => ?_)
      refine J_aload_n hx dX6_behind_27 (i := 0) rfl rfl ?_
      refine J_iload hx dX6_behind_28 rfl ?_
      refine J_invV (As := [vI ((-2))]) (st := []) hx lk_X6_67 okX6_refuse dX6_behind_30 hC.o (by decide) rfl rfl rfl (Nat.le_of_ble_eq_true rfl) (Nat.zero_add _).symm (Nat.zero_add _).symm rfl (c_X6_refuse hC hN hW (k := 0) (by decide) ?_)
      intro M1 hN1 hf1
      refine J_iret hx hr dX6_behind_33 ?_
      exact hQ.to (v := -((0 + 2 : Nat) : Int)) (S := rfS S 0) (by
        unfold a_behind
        all_goals (try unfold overY at *)
        all_goals (try unfold mayQ at *)
        all_goals (try simp only [Int.toNat_natCast] at *)
        all_goals ((repeat' split) <;> first | rfl | (exfalso; omega) | (congr 1; omega))) hC hN1 hf1

set_option maxHeartbeats 4000000 in
theorem c_X6_booked {g : WG} {d : Nat} {T : TT} {M : MM} {o sz : Nat} {S : ST} {Q : MVal → TT → MM → Nat → Prop} (hC : CT T o) (hN : CN M o S) (hW : WFS S) {s n : Int} (h_s : -2147483648 ≤ s ∧ s ≤ 2147483647) (h_n : -2147483648 ≤ n ∧ n ≤ 2147483647) (hQ : CQ o T M sz Q (a_booked S s n)) : Ct g (d + 5) mX6_booked [vR (o), vI (s), vI (n)] T M sz 0 0 Q := by
  refine Ct_of2 (ls := [vR (o), vI (s), vI (n), vU]) okX6_booked rfl (Nat.le_of_ble_eq_true rfl) rfl ?_
  intro x hx hr hnm
  refine J_aload_n hx dX6_booked_0 (i := 0) rfl rfl ?_
  refine J_iload_n hx dX6_booked_1 (i := 1) rfl rfl ?_
  refine J_iload_n hx dX6_booked_2 (i := 2) rfl rfl ?_
  refine J_invV (As := [vI (s), vI (n)]) (st := []) hx lk_X6_75 okX6_faultOfRow dX6_booked_3 hC.o (by decide) rfl rfl rfl (Nat.le_of_ble_eq_true rfl) (Nat.zero_add _).symm (Nat.zero_add _).symm rfl (c_X6_faultOfRow hC hN hW (s := s) (n := n) ?_)
  rintro vf (⟨rfl, hvf⟩ | ⟨rfl, hvf⟩ | ⟨rfl, hvf⟩ | ⟨rfl, hvf⟩ | ⟨rfl, hvf⟩)
  · refine J_istore_n (lsn := [vR (o), vI (s), vI (n), vI ((-2))]) hx dX6_booked_6 (i := 3) rfl (Nat.le_of_ble_eq_true rfl) rfl rfl ?_
    refine J_iload_n hx dX6_booked_7 (i := 3) rfl rfl ?_
    refine J_if_eq (tgt := 17) hx dX6_booked_8 (by decide) (fun c9 => absurd c9 (by decide)) (fun _ => ?_)
    refine J_aload_n hx dX6_booked_11 (i := 0) rfl rfl ?_
    refine J_iload_n hx dX6_booked_12 (i := 3) rfl rfl ?_
    refine J_invV (As := [vI ((-2))]) (st := []) hx lk_X6_67 okX6_refuse dX6_booked_13 hC.o (by decide) rfl rfl rfl (Nat.le_of_ble_eq_true rfl) (Nat.zero_add _).symm (Nat.zero_add _).symm rfl (c_X6_refuse hC hN hW (k := 0) (by decide) ?_)
    intro M1 hN1 hf1
    refine J_iret hx hr dX6_booked_16 ?_
    exact hQ.to (v := -((0 + 2 : Nat) : Int)) (S := rfS S 0) (by
      unfold a_booked
      all_goals (try unfold overY at *)
      all_goals (try unfold mayQ at *)
      all_goals (try simp only [Int.toNat_natCast] at *)
      all_goals ((repeat' split) <;> first | rfl | (exfalso; omega) | (congr 1; omega))) hC hN1 hf1
  · refine J_istore_n (lsn := [vR (o), vI (s), vI (n), vI ((-3))]) hx dX6_booked_6 (i := 3) rfl (Nat.le_of_ble_eq_true rfl) rfl rfl ?_
    refine J_iload_n hx dX6_booked_7 (i := 3) rfl rfl ?_
    refine J_if_eq (tgt := 17) hx dX6_booked_8 (by decide) (fun c9 => absurd c9 (by decide)) (fun _ => ?_)
    refine J_aload_n hx dX6_booked_11 (i := 0) rfl rfl ?_
    refine J_iload_n hx dX6_booked_12 (i := 3) rfl rfl ?_
    refine J_invV (As := [vI ((-3))]) (st := []) hx lk_X6_67 okX6_refuse dX6_booked_13 hC.o (by decide) rfl rfl rfl (Nat.le_of_ble_eq_true rfl) (Nat.zero_add _).symm (Nat.zero_add _).symm rfl (c_X6_refuse hC hN hW (k := 1) (by decide) ?_)
    intro M1 hN1 hf1
    refine J_iret hx hr dX6_booked_16 ?_
    exact hQ.to (v := -((1 + 2 : Nat) : Int)) (S := rfS S 1) (by
      unfold a_booked
      all_goals (try unfold overY at *)
      all_goals (try unfold mayQ at *)
      all_goals (try simp only [Int.toNat_natCast] at *)
      all_goals ((repeat' split) <;> first | rfl | (exfalso; omega) | (congr 1; omega))) hC hN1 hf1
  · refine J_istore_n (lsn := [vR (o), vI (s), vI (n), vI ((-4))]) hx dX6_booked_6 (i := 3) rfl (Nat.le_of_ble_eq_true rfl) rfl rfl ?_
    refine J_iload_n hx dX6_booked_7 (i := 3) rfl rfl ?_
    refine J_if_eq (tgt := 17) hx dX6_booked_8 (by decide) (fun c9 => absurd c9 (by decide)) (fun _ => ?_)
    refine J_aload_n hx dX6_booked_11 (i := 0) rfl rfl ?_
    refine J_iload_n hx dX6_booked_12 (i := 3) rfl rfl ?_
    refine J_invV (As := [vI ((-4))]) (st := []) hx lk_X6_67 okX6_refuse dX6_booked_13 hC.o (by decide) rfl rfl rfl (Nat.le_of_ble_eq_true rfl) (Nat.zero_add _).symm (Nat.zero_add _).symm rfl (c_X6_refuse hC hN hW (k := 2) (by decide) ?_)
    intro M1 hN1 hf1
    refine J_iret hx hr dX6_booked_16 ?_
    exact hQ.to (v := -((2 + 2 : Nat) : Int)) (S := rfS S 2) (by
      unfold a_booked
      all_goals (try unfold overY at *)
      all_goals (try unfold mayQ at *)
      all_goals (try simp only [Int.toNat_natCast] at *)
      all_goals ((repeat' split) <;> first | rfl | (exfalso; omega) | (congr 1; omega))) hC hN1 hf1
  · refine J_istore_n (lsn := [vR (o), vI (s), vI (n), vI ((-2))]) hx dX6_booked_6 (i := 3) rfl (Nat.le_of_ble_eq_true rfl) rfl rfl ?_
    refine J_iload_n hx dX6_booked_7 (i := 3) rfl rfl ?_
    refine J_if_eq (tgt := 17) hx dX6_booked_8 (by decide) (fun c9 => absurd c9 (by decide)) (fun _ => ?_)
    refine J_aload_n hx dX6_booked_11 (i := 0) rfl rfl ?_
    refine J_iload_n hx dX6_booked_12 (i := 3) rfl rfl ?_
    refine J_invV (As := [vI ((-2))]) (st := []) hx lk_X6_67 okX6_refuse dX6_booked_13 hC.o (by decide) rfl rfl rfl (Nat.le_of_ble_eq_true rfl) (Nat.zero_add _).symm (Nat.zero_add _).symm rfl (c_X6_refuse hC hN hW (k := 0) (by decide) ?_)
    intro M1 hN1 hf1
    refine J_iret hx hr dX6_booked_16 ?_
    exact hQ.to (v := -((0 + 2 : Nat) : Int)) (S := rfS S 0) (by
      unfold a_booked
      all_goals (try unfold overY at *)
      all_goals (try unfold mayQ at *)
      all_goals (try simp only [Int.toNat_natCast] at *)
      all_goals ((repeat' split) <;> first | rfl | (exfalso; omega) | (congr 1; omega))) hC hN1 hf1
  · refine J_istore_n (lsn := [vR (o), vI (s), vI (n), vI (0)]) hx dX6_booked_6 (i := 3) rfl (Nat.le_of_ble_eq_true rfl) rfl rfl ?_
    refine J_iload_n hx dX6_booked_7 (i := 3) rfl rfl ?_
    refine J_if_eq (tgt := 17) hx dX6_booked_8 (by decide) (fun _ => ?_) (fun c9 => absurd c9 (by decide))
    obtain ⟨sN, rfl⟩ : ∃ z : Nat, s = ((z : Nat) : Int) := ⟨s.toNat, by omega⟩
    obtain ⟨nN, rfl⟩ : ∃ z : Nat, n = ((z : Nat) : Int) := ⟨n.toNat, by omega⟩
    refine J_aload_n hx dX6_booked_17 (i := 0) rfl rfl ?_
    refine J_aload_n hx dX6_booked_18 (i := 0) rfl rfl ?_
    refine J_getR (b := o + 65) hx fl_X6_54 cl_X6 dX6_booked_19 hC.o (by decide) rfl hC.r7 ?_
    refine J_iload_n hx dX6_booked_22 (i := 1) rfl rfl ?_
    refine J_aald (b := o + 67 + 2 * sN) hx sN dX6_booked_23 hC.k65 (by decide) (by omega) (by rw [hC.n65]; omega) (hC.sre (by omega)) ?_
    refine J_iload_n hx dX6_booked_24 (i := 2) rfl rfl ?_
    refine J_invV (As := [vR (o + 67 + 2 * sN), vI (((nN : Nat) : Int))]) (st := []) hx lk_X6_299 okX6_followBook dX6_booked_25 hC.o (by decide) rfl rfl rfl (Nat.le_of_ble_eq_true rfl) (Nat.zero_add _).symm (Nat.zero_add _).symm rfl (c_X6_followBook hC hN hW (s := sN) (n := nN) (by omega) (show rowH _ from by (try simp only [Int.toNat_natCast] at *); exact hvf.2.1) (by (try simp only [Int.toNat_natCast] at *); exact hvf.2.2) ?_)
    intro M2 hY2 hF2
    have hN2 := hN.th hF2
    have hWz : WFY (bkZ (S.sh sN).2.2 nN 0 S.1).2 := bkZ_wf nN 0 hW.y
    refine J_iconst (v := -1) hx dX6_booked_28 (by decide) ?_
    refine J_icmp_eq (tgt := 39) hx dX6_booked_29 (by decide) (fun c6 => ?_) (fun c6 => ?_)
    · refine J_aload_n hx dX6_booked_39 (i := 0) rfl rfl ?_
      refine J_getR (b := o + 1) hx fl_X6_10 cl_X6 dX6_booked_40 hC.o (by decide) rfl hC.r0 ?_
      refine J_aload_n hx dX6_booked_43 (i := 0) rfl rfl ?_
      refine J_getR (b := o + 23) hx fl_X6_19 cl_X6 dX6_booked_44 hC.o (by decide) rfl hC.r2 ?_
      refine J_invVv (As := [vR (o + 23)]) (st := []) hx lk_X6_180 okX5_becomeAs dX6_booked_47 hC.y0.o (by decide) rfl rfl rfl (Nat.le_of_ble_eq_true rfl) (Nat.zero_add _).symm (Nat.zero_add _).symm rfl (c_X5_becomeAs hC.y0 hC.y2 hY2 hWz (by omega) ?_)
      intro M4 hY4 hF4
      refine J_aload_n hx dX6_booked_50 (i := 0) rfl rfl ?_
      refine J_getR (b := o + 1) hx fl_X6_10 cl_X6 dX6_booked_51 hC.o (by decide) rfl hC.r0 ?_
      refine J_getI2 (v := (bkZ (S.sh sN).2.2 nN 0 S.1).2.sc 6) hx fl_X6_303 cl_X5 dX6_booked_54 hC.y0.o (by decide) rfl hY4.s6 ?_
      have rg7 := hWz.s6
      refine J_iret hx hr dX6_booked_57 ?_
      exact hQ.to (v := (bkZ (S.sh sN).2.2 nN 0 S.1).2.sc 6) (S := yS S (bkZ (S.sh sN).2.2 nN 0 S.1).2) (by
        unfold a_booked
        all_goals (try unfold overY at *)
        all_goals (try unfold mayQ at *)
        all_goals (try simp only [Int.toNat_natCast] at *)
        all_goals ((repeat' split) <;> first | rfl | (exfalso; omega) | (congr 1; omega))) hC (hN2.yard hY4 hF4) (fun b9 h9 => by rw [hF4 b9 (by omega), hF2 b9 (by omega)])
    · refine J_aload_n hx dX6_booked_32 (i := 0) rfl rfl ?_
      refine J_bipush (v := -5) hx dX6_booked_33 (by decide) ?_
      refine J_invV (As := [vI ((-5))]) (st := []) hx lk_X6_67 okX6_refuse dX6_booked_35 hC.o (by decide) rfl rfl rfl (Nat.le_of_ble_eq_true rfl) (Nat.zero_add _).symm (Nat.zero_add _).symm rfl (c_X6_refuse hC hN2 hW (k := 3) (by decide) ?_)
      intro M1 hN1 hf1
      have hf3 : ∀ b, (b < o ∨ o + 83 ≤ b) → M1 b = M b := fun b9 h9 => by rw [hf1 b9 h9, hF2 b9 (by omega)]
      refine J_iret hx hr dX6_booked_38 ?_
      exact hQ.to (v := -((3 + 2 : Nat) : Int)) (S := rfS S 3) (by
        unfold a_booked
        all_goals (try unfold overY at *)
        all_goals (try unfold mayQ at *)
        all_goals (try simp only [Int.toNat_natCast] at *)
        all_goals ((repeat' split) <;> first | rfl | (exfalso; omega) | (congr 1; omega))) hC hN1 hf3

