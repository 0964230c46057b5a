def prR (b m : Int) (s : Int × Int) : Prop := (b = -1 ∧ s.2 = -1) ∨ (b ≠ -1 ∧ b = s.1 ∧ m = s.2 ∧ 0 ≤ s.2)
set_option maxHeartbeats 4000000 in
theorem lp2_X7_pair {g : WG} {d : Nat} {T : TT} {M : MM} {r sz : Nat} {A : YA} {Q : MVal → TT → MM → Nat → Prop} (hT : MT T r) (hN : MN M r A) (hW : WFY A) {x : CX} (hx : OKx g x RX7 cX7_pair (d + 2)) (hr : RTx g x (some .int) Q) {i : Nat} (hi : i < A.n) {s : Int × Int} (hs : -1 ≤ s.2 ∧ s.2 ≤ 68 ∧ 0 ≤ s.1 ∧ s.1 ≤ 100) (hK : ∀ (b m : Int) (u4 u : MVal), prR b m (prJ A i (A.n - (i + 1)) s) → Jd g x 88 [vR r, vI b, vI m, vI ((i : Nat) : Int), u4, u] [] T M sz 0 0) (k : Nat) (b m : Int) (u : MVal) (hk : i + k < A.n) (hp : prR b m (prJ A i k s)) : Jd g x 34 [vR (r), vI (b), vI (m), vI (((i : Nat) : Int)), vI (((i + 1 + k : Nat) : Int)), u] [] T M sz 0 0 := by
  have hn8 := hW.n8
  have rgj := prJ_rg hW hi hs hk
  refine J_iload hx dX7_pair_34 rfl ?_
  refine J_aload_n hx dX7_pair_36 (i := 0) rfl rfl ?_
  refine J_getI2 (v := ((A.n : Nat) : Int)) hx fl_X7_82 cl_X7 dX7_pair_37 hT.o (by decide) rfl hN.pp ?_
  have rg1 := hW.n8
  refine J_icmp_ge (tgt := 88) hx dX7_pair_40 (by decide) (fun c2 => ?_) (fun c2 => ?_)
  · have ek : k = A.n - (i + 1) := by omega
    subst ek
    exact hK _ _ _ _ hp
  · refine J_aload_n hx dX7_pair_43 (i := 0) rfl rfl ?_
    refine J_iload_n hx dX7_pair_44 (i := 3) rfl rfl ?_
    refine J_iload hx dX7_pair_45 rfl ?_
    refine J_invV (As := [vI (((i : Nat) : Int)), vI (((i + 1 + k : Nat) : Int))]) (st := []) hx lk_X7_122 okX7_hold dX7_pair_47 hT.o (by decide) rfl rfl rfl (Nat.le_of_ble_eq_true rfl) (Nat.zero_add _).symm (Nat.zero_add _).symm rfl (c_X7_hold hT hN hW (p := i) (by omega) (b := ((i + 1 + k : Nat) : Int)) (by omega) ?_)
    have rg3 := hold_rg hW (p := i) (by omega) ((i + 1 + k : Nat) : Int)
    refine J_aload_n hx dX7_pair_50 (i := 0) rfl rfl ?_
    refine J_iload hx dX7_pair_51 rfl ?_
    refine J_iload_n hx dX7_pair_53 (i := 3) rfl rfl ?_
    refine J_invV (As := [vI (((i + 1 + k : Nat) : Int)), vI (((i : Nat) : Int))]) (st := [vI (hold A i ((i + 1 + k : Nat) : Int))]) hx lk_X7_122 okX7_hold dX7_pair_54 hT.o (by decide) rfl rfl rfl (Nat.le_of_ble_eq_true rfl) (Nat.zero_add _).symm (Nat.zero_add _).symm rfl (c_X7_hold hT hN hW (p := i + 1 + k) (by omega) (b := ((i : Nat) : Int)) (by omega) ?_)
    have rg4 := hold_rg hW (p := i + 1 + k) (by omega) ((i : Nat) : Int)
    refine J_iadd (v := hold A i ((i + 1 + k : Nat) : Int) + (hold A (i + 1 + k) ((i : Nat) : Int))) hx dX7_pair_57 (w32_id (by omega) (by omega)) ?_
    refine J_istore (lsn := [vR (r), vI (b), vI (m), vI (((i : Nat) : Int)), vI (((i + 1 + k : Nat) : Int)), vI (hold A i ((i + 1 + k : Nat) : Int) + (hold A (i + 1 + k) ((i : Nat) : Int)))]) hx dX7_pair_58 (Nat.le_of_ble_eq_true rfl) rfl rfl ?_
    refine J_iload_n hx dX7_pair_60 (i := 1) rfl rfl ?_
    refine J_iconst (v := -1) hx dX7_pair_61 (by decide) ?_
    refine J_icmp_eq (tgt := 71) hx dX7_pair_62 (by decide) (fun c5 => ?_) (fun c5 => ?_)
    · refine J_bipush (v := 10) hx dX7_pair_71 (by decide) ?_
      refine J_iload_n hx dX7_pair_73 (i := 3) rfl rfl ?_
      refine J_imul (v := 10 * ((i : Nat) : Int)) hx dX7_pair_74 (w32_id (by omega) (by omega)) ?_
      refine J_iload hx dX7_pair_75 rfl ?_
      refine J_iadd (v := 10 * ((i : Nat) : Int) + ((i + 1 + k : Nat) : Int)) hx dX7_pair_77 (w32_id (by omega) (by omega)) ?_
      refine J_istore_n (lsn := [vR (r), vI (10 * ((i : Nat) : Int) + ((i + 1 + k : Nat) : Int)), vI (m), vI (((i : Nat) : Int)), vI (((i + 1 + k : Nat) : Int)), vI (hold A i ((i + 1 + k : Nat) : Int) + (hold A (i + 1 + k) ((i : Nat) : Int)))]) hx dX7_pair_78 (i := 1) rfl (Nat.le_of_ble_eq_true rfl) rfl rfl ?_
      refine J_iload hx dX7_pair_79 rfl ?_
      refine J_istore_n (lsn := [vR (r), vI (10 * ((i : Nat) : Int) + ((i + 1 + k : Nat) : Int)), vI (hold A i ((i + 1 + k : Nat) : Int) + (hold A (i + 1 + k) ((i : Nat) : Int))), vI (((i : Nat) : Int)), vI (((i + 1 + k : Nat) : Int)), vI (hold A i ((i + 1 + k : Nat) : Int) + (hold A (i + 1 + k) ((i : Nat) : Int)))]) hx dX7_pair_81 (i := 2) rfl (Nat.le_of_ble_eq_true rfl) rfl rfl ?_
      refine J_iinc (v := ((i + 1 + (k + 1) : Nat) : Int)) (lsn := [vR (r), vI (10 * ((i : Nat) : Int) + ((i + 1 + k : Nat) : Int)), vI (hold A i ((i + 1 + k : Nat) : Int) + (hold A (i + 1 + k) ((i : Nat) : Int))), vI (((i : Nat) : Int)), vI (((i + 1 + (k + 1) : Nat) : Int)), vI (hold A i ((i + 1 + k : Nat) : Int) + (hold A (i + 1 + k) ((i : Nat) : Int)))]) hx dX7_pair_82 rfl (by rw [jinc1 (by omega) (by omega)]; omega) rfl rfl ?_
      refine J_goto (tgt := 34) hx dX7_pair_85 (by decide) ?_
      have e9 : prJ A i (k + 1) s = (10 * ((i : Nat) : Int) + ((i + 1 + k : Nat) : Int), hold A i (((i + 1 + k : Nat)) : Int) + hold A (i + 1 + k) ((i : Nat) : Int)) := by
          show (if _ then _ else _) = _
          rw [if_pos (by unfold prR at hp; omega)]
      exact lp2_X7_pair hT hN hW hx hr hi hs hK (k + 1) _ _ _ (by omega) (by rw [e9]; unfold prR; dsimp only; omega)
    · refine J_iload hx dX7_pair_65 rfl ?_
      refine J_iload_n hx dX7_pair_67 (i := 2) rfl rfl ?_
      refine J_icmp_le (tgt := 82) hx dX7_pair_68 (by decide) (fun c6 => ?_) (fun c6 => ?_)
      · refine J_iinc (v := ((i + 1 + (k + 1) : Nat) : Int)) (lsn := [vR (r), vI (b), vI (m), vI (((i : Nat) : Int)), vI (((i + 1 + (k + 1) : Nat) : Int)), vI (hold A i ((i + 1 + k : Nat) : Int) + (hold A (i + 1 + k) ((i : Nat) : Int)))]) hx dX7_pair_82 rfl (by rw [jinc1 (by omega) (by omega)]; omega) rfl rfl ?_
        refine J_goto (tgt := 34) hx dX7_pair_85 (by decide) ?_
        have e9 : prJ A i (k + 1) s = prJ A i k s := by
            show (if _ then _ else _) = _
            rw [if_neg (by unfold prR at hp; omega)]
        exact lp2_X7_pair hT hN hW hx hr hi hs hK (k + 1) _ _ _ (by omega) (by rw [e9]; exact hp)
      · refine J_bipush (v := 10) hx dX7_pair_71 (by decide) ?_
        refine J_iload_n hx dX7_pair_73 (i := 3) rfl rfl ?_
        refine J_imul (v := 10 * ((i : Nat) : Int)) hx dX7_pair_74 (w32_id (by omega) (by omega)) ?_
        refine J_iload hx dX7_pair_75 rfl ?_
        refine J_iadd (v := 10 * ((i : Nat) : Int) + ((i + 1 + k : Nat) : Int)) hx dX7_pair_77 (w32_id (by omega) (by omega)) ?_
        refine J_istore_n (lsn := [vR (r), vI (10 * ((i : Nat) : Int) + ((i + 1 + k : Nat) : Int)), vI (m), vI (((i : Nat) : Int)), vI (((i + 1 + k : Nat) : Int)), vI (hold A i ((i + 1 + k : Nat) : Int) + (hold A (i + 1 + k) ((i : Nat) : Int)))]) hx dX7_pair_78 (i := 1) rfl (Nat.le_of_ble_eq_true rfl) rfl rfl ?_
        refine J_iload hx dX7_pair_79 rfl ?_
        refine J_istore_n (lsn := [vR (r), vI (10 * ((i : Nat) : Int) + ((i + 1 + k : Nat) : Int)), vI (hold A i ((i + 1 + k : Nat) : Int) + (hold A (i + 1 + k) ((i : Nat) : Int))), vI (((i : Nat) : Int)), vI (((i + 1 + k : Nat) : Int)), vI (hold A i ((i + 1 + k : Nat) : Int) + (hold A (i + 1 + k) ((i : Nat) : Int)))]) hx dX7_pair_81 (i := 2) rfl (Nat.le_of_ble_eq_true rfl) rfl rfl ?_
        refine J_iinc (v := ((i + 1 + (k + 1) : Nat) : Int)) (lsn := [vR (r), vI (10 * ((i : Nat) : Int) + ((i + 1 + k : Nat) : Int)), vI (hold A i ((i + 1 + k : Nat) : Int) + (hold A (i + 1 + k) ((i : Nat) : Int))), vI (((i : Nat) : Int)), vI (((i + 1 + (k + 1) : Nat) : Int)), vI (hold A i ((i + 1 + k : Nat) : Int) + (hold A (i + 1 + k) ((i : Nat) : Int)))]) hx dX7_pair_82 rfl (by rw [jinc1 (by omega) (by omega)]; omega) rfl rfl ?_
        refine J_goto (tgt := 34) hx dX7_pair_85 (by decide) ?_
        have e9 : prJ A i (k + 1) s = (10 * ((i : Nat) : Int) + ((i + 1 + k : Nat) : Int), hold A i (((i + 1 + k : Nat)) : Int) + hold A (i + 1 + k) ((i : Nat) : Int)) := by
            show (if _ then _ else _) = _
            rw [if_pos (by unfold prR at hp; omega)]
        exact lp2_X7_pair hT hN hW hx hr hi hs hK (k + 1) _ _ _ (by omega) (by rw [e9]; unfold prR; dsimp only; omega)
termination_by A.n - k
decreasing_by all_goals omega

set_option maxHeartbeats 4000000 in
theorem lp_X7_pair {g : WG} {d : Nat} {T : TT} {M : MM} {r sz : Nat} {A : YA} {Q : MVal → TT → MM → Nat → Prop} (hT : MT T r) (hN : MN M r A) (hW : WFY A) {x : CX} (hx : OKx g x RX7 cX7_pair (d + 2)) (hr : RTx g x (some .int) Q) (hQ : ∀ b m : Int, prR b m (prI A A.n) → Q (vI b) T M sz) (i : Nat) (b m : Int) (u4 u : MVal) (hi : i ≤ A.n) (hp : prR b m (prI A i)) : Jd g x 21 [vR (r), vI (b), vI (m), vI (((i : Nat) : Int)), u4, u] [] T M sz 0 0 := by
  have hn8 := hW.n8
  refine J_iload_n hx dX7_pair_21 (i := 3) rfl rfl ?_
  refine J_aload_n hx dX7_pair_22 (i := 0) rfl rfl ?_
  refine J_getI2 (v := ((A.n : Nat) : Int)) hx fl_X7_82 cl_X7 dX7_pair_23 hT.o (by decide) rfl hN.pp ?_
  have rg1 := hW.n8
  refine J_icmp_ge (tgt := 94) hx dX7_pair_26 (by decide) (fun c2 => ?_) (fun c2 => ?_)
  · refine J_iload_n hx dX7_pair_94 (i := 1) rfl rfl ?_
    refine J_iret hx hr dX7_pair_95 ?_
    have ei : i = A.n := by omega
    subst ei
    exact hQ b m hp
  · refine J_iload_n hx dX7_pair_29 (i := 3) rfl rfl ?_
    refine J_iconst (v := 1) hx dX7_pair_30 (by decide) ?_
    refine J_iadd (v := ((i + 1 + 0 : Nat) : Int)) hx dX7_pair_31 (by rw [w32_id (by omega) (by omega)]; omega) ?_
    refine J_istore (lsn := [vR (r), vI (b), vI (m), vI (((i : Nat) : Int)), vI (((i + 1 + 0 : Nat) : Int)), u]) hx dX7_pair_32 (Nat.le_of_ble_eq_true rfl) rfl rfl ?_
    refine lp2_X7_pair hT hN hW hx hr (i := i) (by omega) (s := prI A i) (prI_rg hW (by omega)) (fun b9 m9 u4 u5 h9 => ?_) 0 _ _ _ (by omega) hp
    refine J_iinc (v := ((i + 1 : Nat) : Int)) (lsn := [vR r, vI b9, vI m9, vI ((i + 1 : Nat) : Int), u4, u5]) hx dX7_pair_88 rfl (by rw [jinc1 (by omega) (by omega)]; omega) rfl rfl ?_
    refine J_goto (tgt := 21) hx dX7_pair_91 (by decide) ?_
    exact lp_X7_pair hT hN hW hx hr hQ (i + 1) _ _ _ _ (by omega) h9
termination_by A.n - i
decreasing_by all_goals omega

theorem prJ_ge {A : YA} {i : Nat} {s : Int × Int} (hs : 0 ≤ s.2) : ∀ k, 0 ≤ (prJ A i k s).2
  | 0 => hs
  | k + 1 => by
    have ih := prJ_ge (A := A) (i := i) hs k
    show 0 ≤ (if (prJ A i k s).2 < _ then _ else _ : Int × Int).2
    split
    · dsimp only; omega
    · exact ih
theorem prI_ge {A : YA} (h : WFY A) : ∀ i, 1 ≤ i → i ≤ A.n → 2 ≤ A.n → 0 ≤ (prI A i).2
  | 0, h1, _, _ => absurd h1 (by decide)
  | 1, _, h2, h3 => by
    have e : prI A 1 = prJ A 0 (A.n - 1) (0, -1) := rfl
    rw [e, show A.n - 1 = (A.n - 2) + 1 by omega]
    have r1 := hold_rg h (show 0 < A.n by omega) (((0 + 1 + (A.n - 2) : Nat)) : Int)
    have r2 := hold_rg h (show 0 + 1 + (A.n - 2) < A.n by omega) ((0 : Nat) : Int)
    show 0 ≤ (if (prJ A 0 (A.n - 2) (0, -1)).2 < _ then _ else _ : Int × Int).2
    split
    · dsimp only; omega
    · omega
  | i + 2, _, h2, h3 => prJ_ge (prI_ge h (i + 1) (by omega) (by omega) h3) _
set_option maxHeartbeats 4000000 in
theorem c_X7_pair {g : WG} {d : Nat} {T : TT} {M : MM} {r sz : Nat} {S : ST} {Q : MVal → TT → MM → Nat → Prop} (hT : MT T r) (hN : RN M r S) (hW : WFS S) (hQ : RQ r T M sz Q (a_pair S)) : Ct g (d + 2) mX7_pair [vR (r)] T M sz 0 0 Q := by
  refine Ct_of2 (ls := [vR (r), vU, vU, vU, vU, vU]) okX7_pair rfl (Nat.le_of_ble_eq_true rfl) rfl ?_
  intro x hx hr hnm
  have hn8 := hW.y.n8
  refine J_aload_n hx dX7_pair_0 (i := 0) rfl rfl ?_
  refine J_getI2 (v := ((S.1.n : Nat) : Int)) hx fl_X7_82 cl_X7 dX7_pair_1 hT.o (by decide) rfl hN.y.pp ?_
  have rg1 := hW.y.n8
  refine J_iconst (v := 2) hx dX7_pair_4 (by decide) ?_
  refine J_icmp_ge (tgt := 15) hx dX7_pair_5 (by decide) (fun c2 => ?_) (fun c2 => ?_)
  · refine J_iconst (v := -1) hx dX7_pair_15 (by decide) ?_
    refine J_istore_n (lsn := [vR (r), vI ((-1)), vU, vU, vU, vU]) hx dX7_pair_16 (i := 1) rfl (Nat.le_of_ble_eq_true rfl) rfl rfl ?_
    refine J_iconst (v := 0) hx dX7_pair_17 (by decide) ?_
    refine J_istore_n (lsn := [vR (r), vI ((-1)), vI (0), vU, vU, vU]) hx dX7_pair_18 (i := 2) rfl (Nat.le_of_ble_eq_true rfl) rfl rfl ?_
    refine J_iconst (v := 0) hx dX7_pair_19 (by decide) ?_
    refine J_istore_n (lsn := [vR (r), vI ((-1)), vI (0), vI (0), vU, vU]) hx dX7_pair_20 (i := 3) rfl (Nat.le_of_ble_eq_true rfl) rfl rfl ?_
    refine lp_X7_pair hT hN.y hW.y hx hr (fun b9 m9 h9 => ?_) 0 _ _ _ _ (by omega) (Or.inl ⟨rfl, rfl⟩)
    have h8 := prI_ge hW.y S.1.n (by omega) (Nat.le_refl _) (by omega)
    have h7 : b9 = (prI S.1 S.1.n).1 := by unfold prR at h9; omega
    subst h7
    exact hQ.same (S := S) (by
      unfold a_pair
      all_goals (try unfold overY at *)
      all_goals (try unfold mayQ at *)
      all_goals (try simp only [Int.toNat_natCast] at *)
      all_goals ((repeat' split) <;> first | rfl | (exfalso; omega) | (congr 1; omega))) hN
  · refine J_aload_n hx dX7_pair_8 (i := 0) rfl rfl ?_
    refine J_bipush (v := -5) hx dX7_pair_9 (by decide) ?_
    refine J_invV (As := [vI ((-5))]) (st := []) hx lk_X7_99 okX7_refuse dX7_pair_11 hT.o (by decide) rfl rfl rfl (Nat.le_of_ble_eq_true rfl) (Nat.zero_add _).symm (Nat.zero_add _).symm rfl (c_X7_refuseS hT hN hW (k := 3) (by decide) ?_)
    intro M1 hN1 hf1
    refine J_iret hx hr dX7_pair_14 ?_
    exact hQ.to (v := -((3 + 2 : Nat) : Int)) (S := rfS S 3) (by
      unfold a_pair
      all_goals (try unfold overY at *)
      all_goals (try unfold mayQ at *)
      all_goals (try simp only [Int.toNat_natCast] at *)
      all_goals ((repeat' split) <;> first | rfl | (exfalso; omega) | (congr 1; omega))) hN1 hf1

