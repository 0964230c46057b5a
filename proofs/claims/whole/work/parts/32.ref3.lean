set_option maxHeartbeats 4000000 in
theorem lp_X7_tiredest {g : WG} {d : Nat} {T : TT} {M : MM} {r sz : Nat} {A : YA} {Q : MVal → TT → MM → Nat → Prop} (hT : MT T r) (hN : MN M r A) (hW : WFY A) {x : CX} (hx : OKx g x RX7 cX7_tiredest (d + 1)) (hr : RTx g x (some .int) Q) (hQ : Q (vI ((tirY A : Nat) : Int)) T M sz) (j w : Nat) (h1 : 1 ≤ j) (hj : j ≤ A.n) (hwj : w < j) (hw : w = pkN tt_ (fun p => - A.att 3 p) j) : Jd g x 18 [vR (r), vI (((w : Nat) : Int)), vI (((j : Nat) : Int))] [] T M sz 0 0 := by
  have hn8 := hW.n8
  refine J_iload_n hx dX7_tiredest_18 (i := 2) rfl rfl ?_
  refine J_aload_n hx dX7_tiredest_19 (i := 0) rfl rfl ?_
  refine J_getI2 (v := ((A.n : Nat) : Int)) hx fl_X7_82 cl_X7 dX7_tiredest_20 hT.o (by decide) rfl hN.pp ?_
  have rg1 := hW.n8
  refine J_icmp_ge (tgt := 53) hx dX7_tiredest_23 (by decide) (fun c2 => ?_) (fun c2 => ?_)
  · refine J_iload_n hx dX7_tiredest_53 (i := 1) rfl rfl ?_
    refine J_iret hx hr dX7_tiredest_54 ?_
    exact Qv hQ (by rw [hw]; unfold tirY; rw [show A.n = j by omega])
  · refine J_aload_n hx dX7_tiredest_26 (i := 0) rfl rfl ?_
    refine J_getR (b := r + 20) hx fl_X7_46 cl_X7 dX7_tiredest_27 hT.o (by decide) rfl hT.r13 ?_
    refine J_iload_n hx dX7_tiredest_30 (i := 2) rfl rfl ?_
    refine J_iald2 (v := A.att 3 j) hx j dX7_tiredest_31 hT.k20 (by omega) (hT.l20 (by omega)) (hN.ti (by omega)) ?_
    have rg3 := hW.ti (p := j) (by omega)
    refine J_aload_n hx dX7_tiredest_32 (i := 0) rfl rfl ?_
    refine J_getR (b := r + 20) hx fl_X7_46 cl_X7 dX7_tiredest_33 hT.o (by decide) rfl hT.r13 ?_
    refine J_iload_n hx dX7_tiredest_36 (i := 1) rfl rfl ?_
    refine J_iald2 (v := A.att 3 w) hx w dX7_tiredest_37 hT.k20 (by omega) (hT.l20 (by omega)) (hN.ti (by omega)) ?_
    have rg4 := hW.ti (p := w) (by omega)
    refine J_icmp_le (tgt := 45) hx dX7_tiredest_38 (by decide) (fun c5 => ?_) (fun c5 => ?_)
    · refine J_iload_n hx dX7_tiredest_45 (i := 1) rfl rfl ?_
      refine J_istore_n (lsn := [vR (r), vI (((w : Nat) : Int)), vI (((j : Nat) : Int))]) hx dX7_tiredest_46 (i := 1) rfl (Nat.le_of_ble_eq_true rfl) rfl rfl ?_
      refine J_iinc (v := ((j : Nat) : Int) + 1) (lsn := [vR (r), vI (((w : Nat) : Int)), vI (((j : Nat) : Int) + 1)]) hx dX7_tiredest_47 rfl (jinc1 (by omega) (by omega)) rfl rfl ?_
      refine J_goto (tgt := 18) hx dX7_tiredest_50 (by decide) ?_
      have hp9 := qn_ge (k := (fun p => - A.att 3 p)) (j := j) (by omega) (by rw [← hw]; omega)
      exact lp_X7_tiredest hT hN hW hx hr hQ (j + 1) w (by omega) (by omega) (by omega) (by rw [hp9]; exact hw)
    · refine J_iload_n hx dX7_tiredest_41 (i := 2) rfl rfl ?_
      refine J_goto (tgt := 46) hx dX7_tiredest_42 (by decide) ?_
      refine J_istore_n (lsn := [vR (r), vI (((j : Nat) : Int)), vI (((j : Nat) : Int))]) hx dX7_tiredest_46 (i := 1) rfl (Nat.le_of_ble_eq_true rfl) rfl rfl ?_
      refine J_iinc (v := ((j : Nat) : Int) + 1) (lsn := [vR (r), vI (((j : Nat) : Int)), vI (((j : Nat) : Int) + 1)]) hx dX7_tiredest_47 rfl (jinc1 (by omega) (by omega)) rfl rfl ?_
      refine J_goto (tgt := 18) hx dX7_tiredest_50 (by decide) ?_
      have hp9 := qn_lt (k := (fun p => - A.att 3 p)) (j := j) (by omega) (by rw [← hw]; omega)
      exact lp_X7_tiredest hT hN hW hx hr hQ (j + 1) j (by omega) (by omega) (by omega) (by rw [hp9])
termination_by A.n - j
decreasing_by all_goals omega

set_option maxHeartbeats 4000000 in
theorem c_X7_tiredest {g : WG} {d : Nat} {T : TT} {M : MM} {r sz : Nat} {S : ST} {Q : MVal → TT → MM → Nat → Prop} (hT : MT T r) (hN : RN M r S) (hW : WFS S)  (hQ : RQ r T M sz Q (a_tiredest S)) : Ct g (d + 2) mX7_tiredest [vR (r)] T M sz 0 0 Q := by
  refine Ct_of2 (ls := [vR (r), vU, vU]) okX7_tiredest rfl (Nat.le_of_ble_eq_true rfl) rfl ?_
  intro x hx hr hnm
  have hn8 := hW.y.n8
  refine J_aload_n hx dX7_tiredest_0 (i := 0) rfl rfl ?_
  refine J_getI2 (v := ((S.1.n : Nat) : Int)) hx fl_X7_82 cl_X7 dX7_tiredest_1 hT.o (by decide) rfl hN.y.pp ?_
  have rg1 := hW.y.n8
  refine J_if_ne (tgt := 14) hx dX7_tiredest_4 (by decide) (fun c2 => ?_) (fun c2 => ?_)
  · refine J_iconst (v := 0) hx dX7_tiredest_14 (by decide) ?_
    refine J_istore_n (lsn := [vR (r), vI (0), vU]) hx dX7_tiredest_15 (i := 1) rfl (Nat.le_of_ble_eq_true rfl) rfl rfl ?_
    refine J_iconst (v := 1) hx dX7_tiredest_16 (by decide) ?_
    refine J_istore_n (lsn := [vR (r), vI (0), vI (1)]) hx dX7_tiredest_17 (i := 2) rfl (Nat.le_of_ble_eq_true rfl) rfl rfl ?_
    exact lp_X7_tiredest hT hN.y hW.y hx hr (hQ.same (S := S) (by
      unfold a_tiredest
      all_goals (try unfold overY at *)
      all_goals (try unfold mayQ at *)
      all_goals (try simp only [Int.toNat_natCast] at *)
      all_goals ((repeat' split) <;> first | rfl | (exfalso; omega) | (congr 1; omega))) hN) 1 0 (by omega) (by omega) (by omega) rfl
  · refine J_aload_n hx dX7_tiredest_7 (i := 0) rfl rfl ?_
    refine J_bipush (v := -5) hx dX7_tiredest_8 (by decide) ?_
    refine J_invV (As := [vI ((-5))]) (st := []) hx lk_X7_99 okX7_refuse dX7_tiredest_10 hT.o (by decide) rfl rfl rfl (Nat.le_of_ble_eq_true rfl) (Nat.zero_add _).symm (Nat.zero_add _).symm rfl (c_X7_refuseS hT hN hW (k := 3) (by decide) ?_)
    intro M1 hN1 hf1
    refine J_iret hx hr dX7_tiredest_13 ?_
    exact hQ.to (v := -((3 + 2 : Nat) : Int)) (S := rfS S 3) (by
      unfold a_tiredest
      all_goals (try unfold overY at *)
      all_goals (try unfold mayQ at *)
      all_goals (try simp only [Int.toNat_natCast] at *)
      all_goals ((repeat' split) <;> first | rfl | (exfalso; omega) | (congr 1; omega))) hN1 hf1

set_option maxHeartbeats 4000000 in
theorem lp_X7_strongest {g : WG} {d : Nat} {T : TT} {M : MM} {r sz : Nat} {A : YA} {Q : MVal → TT → MM → Nat → Prop} (hT : MT T r) (hN : MN M r A) (hW : WFY A) {x : CX} (hx : OKx g x RX7 cX7_strongest (d + 3)) (hr : RTx g x (some .int) Q) {c : Nat} (hc : c < 2) (hQ : Q (vI ((stroY A (A.ch c) : Nat) : Int)) T M sz) (j w : Nat) (h1 : 1 ≤ j) (hj : j + 1 ≤ (A.ch c).length) (hwj : w < j) (hw : w = pkN tt_ (fun j => - strl A (A.ch c) j) j) : Jd g x 38 [vR (r), vI (((c : Nat) : Int)), vI (((w : Nat) : Int)), vI (((j : Nat) : Int))] [] T M sz 0 0 := by
  have hn8 := hW.n8
  have hl8 := hW.len8 hc
  refine J_iload_n hx dX7_strongest_38 (i := 3) rfl rfl ?_
  refine J_aload_n hx dX7_strongest_39 (i := 0) rfl rfl ?_
  refine J_getR (b := r + 25) hx fl_X7_57 cl_X7 dX7_strongest_40 hT.o (by decide) rfl hT.r16 ?_
  refine J_iload_n hx dX7_strongest_43 (i := 1) rfl rfl ?_
  refine J_iald2 (v := (((A.ch c).length : Nat) : Int)) hx c dX7_strongest_44 hT.k25 (by omega) (hT.l25 (by omega)) (hN.sz (by omega)) ?_
  have rg1 := hW.len8 (c := c) (by omega)
  have rg2 := hW.lenN (c := c) (by omega)
  refine J_iconst (v := 1) hx dX7_strongest_45 (by decide) ?_
  refine J_isub (v := (((A.ch c).length : Nat) : Int) - 1) hx dX7_strongest_46 (w32_id (by omega) (by omega)) ?_
  refine J_icmp_ge (tgt := 99) hx dX7_strongest_47 (by decide) (fun c3 => ?_) (fun c3 => ?_)
  · refine J_iload_n hx dX7_strongest_99 (i := 2) rfl rfl ?_
    refine J_iret hx hr dX7_strongest_100 ?_
    exact Qv hQ (by rw [hw]; unfold stroY; rw [show (A.ch c).length - 1 = j by omega])
  · refine J_aload_n hx dX7_strongest_50 (i := 0) rfl rfl ?_
    refine J_aload_n hx dX7_strongest_51 (i := 0) rfl rfl ?_
    refine J_getR (b := r + 22) hx fl_X7_54 cl_X7 dX7_strongest_52 hT.o (by decide) rfl hT.r15 ?_
    refine J_iload_n hx dX7_strongest_55 (i := 1) rfl rfl ?_
    refine J_aald (b := r + 23 + c) hx c dX7_strongest_56 hT.k22 (by decide) (by omega) (hT.l22 (by omega)) (hT.f22 (by omega)) ?_
    refine J_aload_n hx dX7_strongest_57 (i := 0) rfl rfl ?_
    refine J_getR (b := r + 25) hx fl_X7_57 cl_X7 dX7_strongest_58 hT.o (by decide) rfl hT.r16 ?_
    refine J_iload_n hx dX7_strongest_61 (i := 1) rfl rfl ?_
    refine J_iald2 (v := (((A.ch c).length : Nat) : Int)) hx c dX7_strongest_62 hT.k25 (by omega) (hT.l25 (by omega)) (hN.sz (by omega)) ?_
    have rg4 := hW.len8 (c := c) (by omega)
    have rg5 := hW.lenN (c := c) (by omega)
    refine J_iload_n hx dX7_strongest_63 (i := 3) rfl rfl ?_
    refine J_invV (As := [vR (r + 23 + c), vI ((((A.ch c).length : Nat) : Int)), vI (((j : Nat) : Int))]) (st := []) hx lk_X7_266 okX7_strengthOf dX7_strongest_64 hT.o (by decide) rfl rfl rfl (Nat.le_of_ble_eq_true rfl) (Nat.zero_add _).symm (Nat.zero_add _).symm rfl (c_X7_strengthOf hT hN hW (l := A.ch c) (q := r + 23 + c) (hT.kl (by omega)) (hT.nl (by omega)) (fun k9 h9 => hN.ln (by omega) h9) (fun p9 h9 => hW.lt (by omega) h9) (by omega) (j := j) (by omega) ?_)
    have rg6 := strl_rg hW (l := A.ch c) (fun p9 h9 => hW.lt (by omega) h9) (j := j) (by omega)
    refine J_aload_n hx dX7_strongest_67 (i := 0) rfl rfl ?_
    refine J_aload_n hx dX7_strongest_68 (i := 0) rfl rfl ?_
    refine J_getR (b := r + 22) hx fl_X7_54 cl_X7 dX7_strongest_69 hT.o (by decide) rfl hT.r15 ?_
    refine J_iload_n hx dX7_strongest_72 (i := 1) rfl rfl ?_
    refine J_aald (b := r + 23 + c) hx c dX7_strongest_73 hT.k22 (by decide) (by omega) (hT.l22 (by omega)) (hT.f22 (by omega)) ?_
    refine J_aload_n hx dX7_strongest_74 (i := 0) rfl rfl ?_
    refine J_getR (b := r + 25) hx fl_X7_57 cl_X7 dX7_strongest_75 hT.o (by decide) rfl hT.r16 ?_
    refine J_iload_n hx dX7_strongest_78 (i := 1) rfl rfl ?_
    refine J_iald2 (v := (((A.ch c).length : Nat) : Int)) hx c dX7_strongest_79 hT.k25 (by omega) (hT.l25 (by omega)) (hN.sz (by omega)) ?_
    have rg7 := hW.len8 (c := c) (by omega)
    have rg8 := hW.lenN (c := c) (by omega)
    refine J_iload_n hx dX7_strongest_80 (i := 2) rfl rfl ?_
    refine J_invV (As := [vR (r + 23 + c), vI ((((A.ch c).length : Nat) : Int)), vI (((w : Nat) : Int))]) (st := [vI (strl A (A.ch c) j)]) hx lk_X7_266 okX7_strengthOf dX7_strongest_81 hT.o (by decide) rfl rfl rfl (Nat.le_of_ble_eq_true rfl) (Nat.zero_add _).symm (Nat.zero_add _).symm rfl (c_X7_strengthOf hT hN hW (l := A.ch c) (q := r + 23 + c) (hT.kl (by omega)) (hT.nl (by omega)) (fun k9 h9 => hN.ln (by omega) h9) (fun p9 h9 => hW.lt (by omega) h9) (by omega) (j := w) (by omega) ?_)
    have rg9 := strl_rg hW (l := A.ch c) (fun p9 h9 => hW.lt (by omega) h9) (j := w) (by omega)
    refine J_icmp_le (tgt := 91) hx dX7_strongest_84 (by decide) (fun c10 => ?_) (fun c10 => ?_)
    · refine J_iload_n hx dX7_strongest_91 (i := 2) rfl rfl ?_
      refine J_istore_n (lsn := [vR (r), vI (((c : Nat) : Int)), vI (((w : Nat) : Int)), vI (((j : Nat) : Int))]) hx dX7_strongest_92 (i := 2) rfl (Nat.le_of_ble_eq_true rfl) rfl rfl ?_
      refine J_iinc (v := ((j : Nat) : Int) + 1) (lsn := [vR (r), vI (((c : Nat) : Int)), vI (((w : Nat) : Int)), vI (((j : Nat) : Int) + 1)]) hx dX7_strongest_93 rfl (jinc1 (by omega) (by omega)) rfl rfl ?_
      refine J_goto (tgt := 38) hx dX7_strongest_96 (by decide) ?_
      have hp9 := qn_ge (k := (fun j => - strl A (A.ch c) j)) (j := j) (by omega) (by rw [← hw]; omega)
      exact lp_X7_strongest hT hN hW hx hr hc hQ (j + 1) w (by omega) (by omega) (by omega) (by rw [hp9]; exact hw)
    · refine J_iload_n hx dX7_strongest_87 (i := 3) rfl rfl ?_
      refine J_goto (tgt := 92) hx dX7_strongest_88 (by decide) ?_
      refine J_istore_n (lsn := [vR (r), vI (((c : Nat) : Int)), vI (((j : Nat) : Int)), vI (((j : Nat) : Int))]) hx dX7_strongest_92 (i := 2) rfl (Nat.le_of_ble_eq_true rfl) rfl rfl ?_
      refine J_iinc (v := ((j : Nat) : Int) + 1) (lsn := [vR (r), vI (((c : Nat) : Int)), vI (((j : Nat) : Int)), vI (((j : Nat) : Int) + 1)]) hx dX7_strongest_93 rfl (jinc1 (by omega) (by omega)) rfl rfl ?_
      refine J_goto (tgt := 38) hx dX7_strongest_96 (by decide) ?_
      have hp9 := qn_lt (k := (fun j => - strl A (A.ch c) j)) (j := j) (by omega) (by rw [← hw]; omega)
      exact lp_X7_strongest hT hN hW hx hr hc hQ (j + 1) j (by omega) (by omega) (by omega) (by rw [hp9])
termination_by (A.ch c).length - j
decreasing_by all_goals omega

set_option maxHeartbeats 4000000 in
theorem c_X7_strongest {g : WG} {d : Nat} {T : TT} {M : MM} {r sz : Nat} {S : ST} {Q : MVal → TT → MM → Nat → Prop} (hT : MT T r) (hN : RN M r S) (hW : WFS S) {c : Int} (h_c : -2147483648 ≤ c ∧ c ≤ 2147483647) (hQ : RQ r T M sz Q (a_strongest S c)) : Ct g (d + 4) mX7_strongest [vR (r), vI (c)] T M sz 0 0 Q := by
  refine Ct_of2 (ls := [vR (r), vI (c), vU, vU]) okX7_strongest rfl (Nat.le_of_ble_eq_true rfl) rfl ?_
  intro x hx hr hnm
  have hn8 := hW.y.n8
  refine J_iload_n hx dX7_strongest_0 (i := 1) rfl rfl ?_
  refine J_i2l hx dX7_strongest_1 ?_
  refine J_lconst (v := 0) hx dX7_strongest_2 (by decide) ?_
  refine J_lconst (v := 1) hx dX7_strongest_3 (by decide) ?_
  refine J_invS (As := [vL (c), vL (0), vL (1)]) (st := []) hx lk_X7_85 okX7_in dX7_strongest_4 rfl rfl (Nat.le_of_ble_eq_true rfl) (Nat.zero_add _).symm (Nat.zero_add _).symm rfl (c_X7_in (a := c) (lo := 0) (hi := 1) ?_)
  intro v1 hv1
  refine J_if_ne (tgt := 17) hx dX7_strongest_7 (by decide) (fun c2 => ?_) (fun c2 => ?_)
  · obtain ⟨cN, rfl⟩ : ∃ z : Nat, c = ((z : Nat) : Int) := ⟨c.toNat, by omega⟩
    refine J_aload_n hx dX7_strongest_17 (i := 0) rfl rfl ?_
    refine J_getR (b := r + 25) hx fl_X7_57 cl_X7 dX7_strongest_18 hT.o (by decide) rfl hT.r16 ?_
    refine J_iload_n hx dX7_strongest_21 (i := 1) rfl rfl ?_
    refine J_iald2 (v := (((S.1.ch cN).length : Nat) : Int)) hx cN dX7_strongest_22 hT.k25 (by omega) (hT.l25 (by omega)) (hN.y.sz (by omega)) ?_
    have rg3 := hW.y.len8 (c := cN) (by omega)
    have rg4 := hW.y.lenN (c := cN) (by omega)
    refine J_iconst (v := 2) hx dX7_strongest_23 (by decide) ?_
    refine J_icmp_ge (tgt := 34) hx dX7_strongest_24 (by decide) (fun c5 => ?_) (fun c5 => ?_)
    · refine J_iconst (v := 0) hx dX7_strongest_34 (by decide) ?_
      refine J_istore_n (lsn := [vR (r), vI (((cN : Nat) : Int)), vI (0), vU]) hx dX7_strongest_35 (i := 2) rfl (Nat.le_of_ble_eq_true rfl) rfl rfl ?_
      refine J_iconst (v := 1) hx dX7_strongest_36 (by decide) ?_
      refine J_istore_n (lsn := [vR (r), vI (((cN : Nat) : Int)), vI (0), vI (1)]) hx dX7_strongest_37 (i := 3) rfl (Nat.le_of_ble_eq_true rfl) rfl rfl ?_
      exact lp_X7_strongest hT hN.y hW.y hx hr (c := cN) (by omega) (hQ.same (S := S) (by
        unfold a_strongest
        all_goals (try unfold overY at *)
        all_goals (try unfold mayQ at *)
        all_goals (try simp only [Int.toNat_natCast] at *)
        all_goals ((repeat' split) <;> first | rfl | (exfalso; omega) | (congr 1; omega))) hN) 1 0 (by omega) (by omega) (by omega) rfl
    · refine J_aload_n hx dX7_strongest_27 (i := 0) rfl rfl ?_
      refine J_bipush (v := -5) hx dX7_strongest_28 (by decide) ?_
      refine J_invV (As := [vI ((-5))]) (st := []) hx lk_X7_99 okX7_refuse dX7_strongest_30 hT.o (by decide) rfl rfl rfl (Nat.le_of_ble_eq_true rfl) (Nat.zero_add _).symm (Nat.zero_add _).symm rfl (c_X7_refuseS hT hN hW (k := 3) (by decide) ?_)
      intro M1 hN1 hf1
      refine J_iret hx hr dX7_strongest_33 ?_
      exact hQ.to (v := -((3 + 2 : Nat) : Int)) (S := rfS S 3) (by
        unfold a_strongest
        all_goals (try unfold overY at *)
        all_goals (try unfold mayQ at *)
        all_goals (try simp only [Int.toNat_natCast] at *)
        all_goals ((repeat' split) <;> first | rfl | (exfalso; omega) | (congr 1; omega))) hN1 hf1
  · refine J_aload_n hx dX7_strongest_10 (i := 0) rfl rfl ?_
    refine J_bipush (v := -2) hx dX7_strongest_11 (by decide) ?_
    refine J_invV (As := [vI ((-2))]) (st := []) hx lk_X7_99 okX7_refuse dX7_strongest_13 hT.o (by decide) rfl rfl rfl (Nat.le_of_ble_eq_true rfl) (Nat.zero_add _).symm (Nat.zero_add _).symm rfl (c_X7_refuseS hT hN hW (k := 0) (by decide) ?_)
    intro M1 hN1 hf1
    refine J_iret hx hr dX7_strongest_16 ?_
    exact hQ.to (v := -((0 + 2 : Nat) : Int)) (S := rfS S 0) (by
      unfold a_strongest
      all_goals (try unfold overY at *)
      all_goals (try unfold mayQ at *)
      all_goals (try simp only [Int.toNat_natCast] at *)
      all_goals ((repeat' split) <;> first | rfl | (exfalso; omega) | (congr 1; omega))) hN1 hf1

set_option maxHeartbeats 4000000 in
theorem lp_X7_hardest {g : WG} {d : Nat} {T : TT} {M : MM} {r sz : Nat} {A : YA} {Q : MVal → TT → MM → Nat → Prop} (hT : MT T r) (hN : MN M r A) (hW : WFY A) {x : CX} (hx : OKx g x RX7 cX7_hardest (d + 2)) (hr : RTx g x (some .int) Q) {c : Nat} (hc : c < 2) (hQ : Q (vI (((A.ch c).getD (hardY A (A.ch c)) 0 : Nat) : Int)) T M sz) (j w : Nat) (h1 : 1 ≤ j) (hj : j ≤ (A.ch c).length) (hwj : w < j) (hw : w = pkN tt_ (fun k => - force A ((A.ch c).getD k 0)) j) : Jd g x 44 [vR (r), vI (((c : Nat) : Int)), vI ((((A.ch c).getD w 0 : Nat) : Int)), vI (((j : Nat) : Int))] [] T M sz 0 0 := by
  have hn8 := hW.n8
  have hl8 := hW.len8 hc
  have rw9 := hW.at (c := c) (k := w) hc (by omega)
  refine J_iload_n hx dX7_hardest_44 (i := 3) rfl rfl ?_
  refine J_aload_n hx dX7_hardest_45 (i := 0) rfl rfl ?_
  refine J_getR (b := r + 25) hx fl_X7_57 cl_X7 dX7_hardest_46 hT.o (by decide) rfl hT.r16 ?_
  refine J_iload_n hx dX7_hardest_49 (i := 1) rfl rfl ?_
  refine J_iald2 (v := (((A.ch c).length : Nat) : Int)) hx c dX7_hardest_50 hT.k25 (by omega) (hT.l25 (by omega)) (hN.sz (by omega)) ?_
  have rg1 := hW.len8 (c := c) (by omega)
  have rg2 := hW.lenN (c := c) (by omega)
  refine J_icmp_ge (tgt := 93) hx dX7_hardest_51 (by decide) (fun c3 => ?_) (fun c3 => ?_)
  · refine J_iload_n hx dX7_hardest_93 (i := 2) rfl rfl ?_
    refine J_iret hx hr dX7_hardest_94 ?_
    exact Qv hQ (by rw [hw]; unfold hardY; rw [show (A.ch c).length = j by omega])
  · refine J_aload_n hx dX7_hardest_54 (i := 0) rfl rfl ?_
    refine J_aload_n hx dX7_hardest_55 (i := 0) rfl rfl ?_
    refine J_getR (b := r + 22) hx fl_X7_54 cl_X7 dX7_hardest_56 hT.o (by decide) rfl hT.r15 ?_
    refine J_iload_n hx dX7_hardest_59 (i := 1) rfl rfl ?_
    refine J_aald (b := r + 23 + c) hx c dX7_hardest_60 hT.k22 (by decide) (by omega) (hT.l22 (by omega)) (hT.f22 (by omega)) ?_
    refine J_iload_n hx dX7_hardest_61 (i := 3) rfl rfl ?_
    refine J_iald2 (v := (((A.ch c).getD j 0 : Nat) : Int)) hx j dX7_hardest_62 (hT.kl (by omega)) (by omega) (hT.ll (by omega) (by omega)) (hN.ln (by omega) (by omega)) ?_
    have rg4 := hW.at (c := c) (k := j) (by omega) (by omega)
    refine J_invV (As := [vI ((((A.ch c).getD j 0 : Nat) : Int))]) (st := []) hx lk_X7_126 okX7_force dX7_hardest_63 hT.o (by decide) rfl rfl rfl (Nat.le_of_ble_eq_true rfl) (Nat.zero_add _).symm (Nat.zero_add _).symm rfl (c_X7_force hT hN hW (p := (A.ch c).getD j 0) (by omega) ?_)
    have rg5 := force_rg hW (p := (A.ch c).getD j 0) (by omega)
    refine J_aload_n hx dX7_hardest_66 (i := 0) rfl rfl ?_
    refine J_iload_n hx dX7_hardest_67 (i := 2) rfl rfl ?_
    refine J_invV (As := [vI ((((A.ch c).getD w 0 : Nat) : Int))]) (st := [vI (force A ((A.ch c).getD j 0))]) hx lk_X7_126 okX7_force dX7_hardest_68 hT.o (by decide) rfl rfl rfl (Nat.le_of_ble_eq_true rfl) (Nat.zero_add _).symm (Nat.zero_add _).symm rfl (c_X7_force hT hN hW (p := (A.ch c).getD w 0) (by omega) ?_)
    have rg6 := force_rg hW (p := (A.ch c).getD w 0) (by omega)
    refine J_icmp_le (tgt := 85) hx dX7_hardest_71 (by decide) (fun c7 => ?_) (fun c7 => ?_)
    · refine J_iload_n hx dX7_hardest_85 (i := 2) rfl rfl ?_
      refine J_istore_n (lsn := [vR (r), vI (((c : Nat) : Int)), vI ((((A.ch c).getD w 0 : Nat) : Int)), vI (((j : Nat) : Int))]) hx dX7_hardest_86 (i := 2) rfl (Nat.le_of_ble_eq_true rfl) rfl rfl ?_
      refine J_iinc (v := ((j : Nat) : Int) + 1) (lsn := [vR (r), vI (((c : Nat) : Int)), vI ((((A.ch c).getD w 0 : Nat) : Int)), vI (((j : Nat) : Int) + 1)]) hx dX7_hardest_87 rfl (jinc1 (by omega) (by omega)) rfl rfl ?_
      refine J_goto (tgt := 44) hx dX7_hardest_90 (by decide) ?_
      have hp9 := qn_ge (k := (fun k => - force A ((A.ch c).getD k 0))) (j := j) (by omega) (by rw [← hw]; omega)
      exact lp_X7_hardest hT hN hW hx hr hc hQ (j + 1) w (by omega) (by omega) (by omega) (by rw [hp9]; exact hw)
    · refine J_aload_n hx dX7_hardest_74 (i := 0) rfl rfl ?_
      refine J_getR (b := r + 22) hx fl_X7_54 cl_X7 dX7_hardest_75 hT.o (by decide) rfl hT.r15 ?_
      refine J_iload_n hx dX7_hardest_78 (i := 1) rfl rfl ?_
      refine J_aald (b := r + 23 + c) hx c dX7_hardest_79 hT.k22 (by decide) (by omega) (hT.l22 (by omega)) (hT.f22 (by omega)) ?_
      refine J_iload_n hx dX7_hardest_80 (i := 3) rfl rfl ?_
      refine J_iald2 (v := (((A.ch c).getD j 0 : Nat) : Int)) hx j dX7_hardest_81 (hT.kl (by omega)) (by omega) (hT.ll (by omega) (by omega)) (hN.ln (by omega) (by omega)) ?_
      have rg8 := hW.at (c := c) (k := j) (by omega) (by omega)
      refine J_goto (tgt := 86) hx dX7_hardest_82 (by decide) ?_
      refine J_istore_n (lsn := [vR (r), vI (((c : Nat) : Int)), vI ((((A.ch c).getD j 0 : Nat) : Int)), vI (((j : Nat) : Int))]) hx dX7_hardest_86 (i := 2) rfl (Nat.le_of_ble_eq_true rfl) rfl rfl ?_
      refine J_iinc (v := ((j : Nat) : Int) + 1) (lsn := [vR (r), vI (((c : Nat) : Int)), vI ((((A.ch c).getD j 0 : Nat) : Int)), vI (((j : Nat) : Int) + 1)]) hx dX7_hardest_87 rfl (jinc1 (by omega) (by omega)) rfl rfl ?_
      refine J_goto (tgt := 44) hx dX7_hardest_90 (by decide) ?_
      have hp9 := qn_lt (k := (fun k => - force A ((A.ch c).getD k 0))) (j := j) (by omega) (by rw [← hw]; omega)
      exact lp_X7_hardest hT hN hW hx hr hc hQ (j + 1) j (by omega) (by omega) (by omega) (by rw [hp9])
termination_by (A.ch c).length - j
decreasing_by all_goals omega

set_option maxHeartbeats 4000000 in
theorem c_X7_hardest {g : WG} {d : Nat} {T : TT} {M : MM} {r sz : Nat} {S : ST} {Q : MVal → TT → MM → Nat → Prop} (hT : MT T r) (hN : RN M r S) (hW : WFS S) {c : Int} (h_c : -2147483648 ≤ c ∧ c ≤ 2147483647) (hQ : RQ r T M sz Q (a_hardest S c)) : Ct g (d + 3) mX7_hardest [vR (r), vI (c)] T M sz 0 0 Q := by
  refine Ct_of2 (ls := [vR (r), vI (c), vU, vU]) okX7_hardest rfl (Nat.le_of_ble_eq_true rfl) rfl ?_
  intro x hx hr hnm
  have hn8 := hW.y.n8
  refine J_iload_n hx dX7_hardest_0 (i := 1) rfl rfl ?_
  refine J_i2l hx dX7_hardest_1 ?_
  refine J_lconst (v := 0) hx dX7_hardest_2 (by decide) ?_
  refine J_lconst (v := 1) hx dX7_hardest_3 (by decide) ?_
  refine J_invS (As := [vL (c), vL (0), vL (1)]) (st := []) hx lk_X7_85 okX7_in dX7_hardest_4 rfl rfl (Nat.le_of_ble_eq_true rfl) (Nat.zero_add _).symm (Nat.zero_add _).symm rfl (c_X7_in (a := c) (lo := 0) (hi := 1) ?_)
  intro v1 hv1
  refine J_if_ne (tgt := 17) hx dX7_hardest_7 (by decide) (fun c2 => ?_) (fun c2 => ?_)
  · obtain ⟨cN, rfl⟩ : ∃ z : Nat, c = ((z : Nat) : Int) := ⟨c.toNat, by omega⟩
    refine J_aload_n hx dX7_hardest_17 (i := 0) rfl rfl ?_
    refine J_getR (b := r + 25) hx fl_X7_57 cl_X7 dX7_hardest_18 hT.o (by decide) rfl hT.r16 ?_
    refine J_iload_n hx dX7_hardest_21 (i := 1) rfl rfl ?_
    refine J_iald2 (v := (((S.1.ch cN).length : Nat) : Int)) hx cN dX7_hardest_22 hT.k25 (by omega) (hT.l25 (by omega)) (hN.y.sz (by omega)) ?_
    have rg3 := hW.y.len8 (c := cN) (by omega)
    have rg4 := hW.y.lenN (c := cN) (by omega)
    refine J_if_ne (tgt := 33) hx dX7_hardest_23 (by decide) (fun c5 => ?_) (fun c5 => ?_)
    · refine J_aload_n hx dX7_hardest_33 (i := 0) rfl rfl ?_
      refine J_getR (b := r + 22) hx fl_X7_54 cl_X7 dX7_hardest_34 hT.o (by decide) rfl hT.r15 ?_
      refine J_iload_n hx dX7_hardest_37 (i := 1) rfl rfl ?_
      refine J_aald (b := r + 23 + cN) hx cN dX7_hardest_38 hT.k22 (by decide) (by omega) (hT.l22 (by omega)) (hT.f22 (by omega)) ?_
      refine J_iconst (v := 0) hx dX7_hardest_39 (by decide) ?_
      refine J_iald2 (v := (((S.1.ch cN).getD 0 0 : Nat) : Int)) hx 0 dX7_hardest_40 (hT.kl (by omega)) (by omega) (hT.ll (by omega) (by omega)) (hN.y.ln (by omega) (by omega)) ?_
      have rg6 := hW.y.at (c := cN) (k := 0) (by omega) (by omega)
      refine J_istore_n (lsn := [vR (r), vI (((cN : Nat) : Int)), vI ((((S.1.ch cN).getD 0 0 : Nat) : Int)), vU]) hx dX7_hardest_41 (i := 2) rfl (Nat.le_of_ble_eq_true rfl) rfl rfl ?_
      refine J_iconst (v := 1) hx dX7_hardest_42 (by decide) ?_
      refine J_istore_n (lsn := [vR (r), vI (((cN : Nat) : Int)), vI ((((S.1.ch cN).getD 0 0 : Nat) : Int)), vI (1)]) hx dX7_hardest_43 (i := 3) rfl (Nat.le_of_ble_eq_true rfl) rfl rfl ?_
      exact lp_X7_hardest hT hN.y hW.y hx hr (c := cN) (by omega) (hQ.same (S := S) (by
        unfold a_hardest
        all_goals (try unfold overY at *)
        all_goals (try unfold mayQ at *)
        all_goals (try simp only [Int.toNat_natCast] at *)
        all_goals ((repeat' split) <;> first | rfl | (exfalso; omega) | (congr 1; omega))) hN) 1 0 (by omega) (by omega) (by omega) rfl
    · refine J_aload_n hx dX7_hardest_26 (i := 0) rfl rfl ?_
      refine J_bipush (v := -5) hx dX7_hardest_27 (by decide) ?_
      refine J_invV (As := [vI ((-5))]) (st := []) hx lk_X7_99 okX7_refuse dX7_hardest_29 hT.o (by decide) rfl rfl rfl (Nat.le_of_ble_eq_true rfl) (Nat.zero_add _).symm (Nat.zero_add _).symm rfl (c_X7_refuseS hT hN hW (k := 3) (by decide) ?_)
      intro M1 hN1 hf1
      refine J_iret hx hr dX7_hardest_32 ?_
      exact hQ.to (v := -((3 + 2 : Nat) : Int)) (S := rfS S 3) (by
        unfold a_hardest
        all_goals (try unfold overY at *)
        all_goals (try unfold mayQ at *)
        all_goals (try simp only [Int.toNat_natCast] at *)
        all_goals ((repeat' split) <;> first | rfl | (exfalso; omega) | (congr 1; omega))) hN1 hf1
  · refine J_aload_n hx dX7_hardest_10 (i := 0) rfl rfl ?_
    refine J_bipush (v := -2) hx dX7_hardest_11 (by decide) ?_
    refine J_invV (As := [vI ((-2))]) (st := []) hx lk_X7_99 okX7_refuse dX7_hardest_13 hT.o (by decide) rfl rfl rfl (Nat.le_of_ble_eq_true rfl) (Nat.zero_add _).symm (Nat.zero_add _).symm rfl (c_X7_refuseS hT hN hW (k := 0) (by decide) ?_)
    intro M1 hN1 hf1
    refine J_iret hx hr dX7_hardest_16 ?_
    exact hQ.to (v := -((0 + 2 : Nat) : Int)) (S := rfS S 0) (by
      unfold a_hardest
      all_goals (try unfold overY at *)
      all_goals (try unfold mayQ at *)
      all_goals (try simp only [Int.toNat_natCast] at *)
      all_goals ((repeat' split) <;> first | rfl | (exfalso; omega) | (congr 1; omega))) hN1 hf1

theorem weak_at {A : YA} {l : List Nat} {j : Nat} (hj : j + 1 < l.length) (he : strl A l j = least1 A l) (hno : ∀ i, i < j → strl A l i ≠ least1 A l) : weakY A l = j := by
  have e : least1 A l = minS A l (l.length - 2) := by unfold least1; rw [if_neg (by omega)]
  rw [e] at he hno
  unfold weakY
  refine pkN_of (pick_uniq (by omega) rfl (fun i hi _ => ?_) (fun i hi _ => ?_))
  · rw [he]; exact minS_le (by omega)
  · have h1 := hno i hi
    have h2 := minS_le (A := A) (l := l) (j := l.length - 2) (k := i) (by omega)
    omega
theorem weak_no {A : YA} {l : List Nat} (hl : 2 ≤ l.length) (hno : ∀ i, i + 1 < l.length → strl A l i ≠ least1 A l) : False := by
  have e : least1 A l = minS A l (l.length - 2) := by unfold least1; rw [if_neg (by omega)]
  obtain ⟨k, h1, h2⟩ := minS_at (A := A) (l := l) (l.length - 2)
  exact hno k (by omega) (by rw [e, h2])
set_option maxHeartbeats 4000000 in
theorem lp_X7_weakest {g : WG} {d : Nat} {T : TT} {M : MM} {r sz : Nat} {A : YA} {Q : MVal → TT → MM → Nat → Prop} (hT : MT T r) (hN : MN M r A) (hW : WFY A) {x : CX} (hx : OKx g x RX7 cX7_weakest (d + 4)) (hr : RTx g x (some .int) Q) {c : Nat} (hc : c < 2) (hQ : 2 ≤ (A.ch c).length → Q (vI ((weakY A (A.ch c) : Nat) : Int)) T M sz) (hK : ∀ v : MVal, (A.ch c).length < 2 → Jd g x 75 [vR r, vI ((c : Nat) : Int), v] [] T M sz 0 0) (j : Nat) (hj : j + 1 ≤ (A.ch c).length ∨ j = 0) (hno : ∀ i, i < j → strl A (A.ch c) i ≠ least1 A (A.ch c)) : Jd g x 19 [vR (r), vI (((c : Nat) : Int)), vI (((j : Nat) : Int))] [] T M sz 0 0 := by
  have hn8 := hW.n8
  have hl8 := hW.len8 hc
  refine J_iload_n hx dX7_weakest_19 (i := 2) rfl rfl ?_
  refine J_aload_n hx dX7_weakest_20 (i := 0) rfl rfl ?_
  refine J_getR (b := r + 25) hx fl_X7_57 cl_X7 dX7_weakest_21 hT.o (by decide) rfl hT.r16 ?_
  refine J_iload_n hx dX7_weakest_24 (i := 1) rfl rfl ?_
  refine J_iald2 (v := (((A.ch c).length : Nat) : Int)) hx c dX7_weakest_25 hT.k25 (by omega) (hT.l25 (by omega)) (hN.sz (by omega)) ?_
  have rg1 := hW.len8 (c := c) (by omega)
  have rg2 := hW.lenN (c := c) (by omega)
  refine J_iconst (v := 1) hx dX7_weakest_26 (by decide) ?_
  refine J_isub (v := (((A.ch c).length : Nat) : Int) - 1) hx dX7_weakest_27 (w32_id (by omega) (by omega)) ?_
  refine J_icmp_ge (tgt := 75) hx dX7_weakest_28 (by decide) (fun c3 => ?_) (fun c3 => ?_)
  · exact hK _ (by
        by_cases e9 : (A.ch c).length < 2
        · exact e9
        · exact (weak_no (A := A) (l := A.ch c) (by omega) (fun i9 h9 => hno i9 (by omega))).elim)
  · refine J_aload_n hx dX7_weakest_31 (i := 0) rfl rfl ?_
    refine J_aload_n hx dX7_weakest_32 (i := 0) rfl rfl ?_
    refine J_getR (b := r + 22) hx fl_X7_54 cl_X7 dX7_weakest_33 hT.o (by decide) rfl hT.r15 ?_
    refine J_iload_n hx dX7_weakest_36 (i := 1) rfl rfl ?_
    refine J_aald (b := r + 23 + c) hx c dX7_weakest_37 hT.k22 (by decide) (by omega) (hT.l22 (by omega)) (hT.f22 (by omega)) ?_
    refine J_aload_n hx dX7_weakest_38 (i := 0) rfl rfl ?_
    refine J_getR (b := r + 25) hx fl_X7_57 cl_X7 dX7_weakest_39 hT.o (by decide) rfl hT.r16 ?_
    refine J_iload_n hx dX7_weakest_42 (i := 1) rfl rfl ?_
    refine J_iald2 (v := (((A.ch c).length : Nat) : Int)) hx c dX7_weakest_43 hT.k25 (by omega) (hT.l25 (by omega)) (hN.sz (by omega)) ?_
    have rg4 := hW.len8 (c := c) (by omega)
    have rg5 := hW.lenN (c := c) (by omega)
    refine J_iload_n hx dX7_weakest_44 (i := 2) rfl rfl ?_
    refine J_invV (As := [vR (r + 23 + c), vI ((((A.ch c).length : Nat) : Int)), vI (((j : Nat) : Int))]) (st := []) hx lk_X7_266 okX7_strengthOf dX7_weakest_45 hT.o (by decide) rfl rfl rfl (Nat.le_of_ble_eq_true rfl) (Nat.zero_add _).symm (Nat.zero_add _).symm rfl (c_X7_strengthOf hT hN hW (l := A.ch c) (q := r + 23 + c) (hT.kl (by omega)) (hT.nl (by omega)) (fun k9 h9 => hN.ln (by omega) h9) (fun p9 h9 => hW.lt (by omega) h9) (by omega) (j := j) (by omega) ?_)
    have rg6 := strl_rg hW (l := A.ch c) (fun p9 h9 => hW.lt (by omega) h9) (j := j) (by omega)
    refine J_aload_n hx dX7_weakest_48 (i := 0) rfl rfl ?_
    refine J_aload_n hx dX7_weakest_49 (i := 0) rfl rfl ?_
    refine J_getR (b := r + 22) hx fl_X7_54 cl_X7 dX7_weakest_50 hT.o (by decide) rfl hT.r15 ?_
    refine J_iload_n hx dX7_weakest_53 (i := 1) rfl rfl ?_
    refine J_aald (b := r + 23 + c) hx c dX7_weakest_54 hT.k22 (by decide) (by omega) (hT.l22 (by omega)) (hT.f22 (by omega)) ?_
    refine J_aload_n hx dX7_weakest_55 (i := 0) rfl rfl ?_
    refine J_getR (b := r + 25) hx fl_X7_57 cl_X7 dX7_weakest_56 hT.o (by decide) rfl hT.r16 ?_
    refine J_iload_n hx dX7_weakest_59 (i := 1) rfl rfl ?_
    refine J_iald2 (v := (((A.ch c).length : Nat) : Int)) hx c dX7_weakest_60 hT.k25 (by omega) (hT.l25 (by omega)) (hN.sz (by omega)) ?_
    have rg7 := hW.len8 (c := c) (by omega)
    have rg8 := hW.lenN (c := c) (by omega)
    refine J_invV (As := [vR (r + 23 + c), vI ((((A.ch c).length : Nat) : Int))]) (st := [vI (strl A (A.ch c) j)]) hx lk_X7_270 okX7_leastOf dX7_weakest_61 hT.o (by decide) rfl rfl rfl (Nat.le_of_ble_eq_true rfl) (Nat.zero_add _).symm (Nat.zero_add _).symm rfl (c_X7_leastOf hT hN hW (l := A.ch c) (q := r + 23 + c) (hT.kl (by omega)) (hT.nl (by omega)) (fun k9 h9 => hN.ln (by omega) h9) (fun p9 h9 => hW.lt (by omega) h9) (by omega) ?_)
    have rg9 := least1_rg hW (l := A.ch c) (fun p9 h9 => hW.lt (by omega) h9)
    refine J_icmp_ne (tgt := 69) hx dX7_weakest_64 (by decide) (fun c10 => ?_) (fun c10 => ?_)
    · refine J_iinc (v := ((j : Nat) : Int) + 1) (lsn := [vR (r), vI (((c : Nat) : Int)), vI (((j : Nat) : Int) + 1)]) hx dX7_weakest_69 rfl (jinc1 (by omega) (by omega)) rfl rfl ?_
      refine J_goto (tgt := 19) hx dX7_weakest_72 (by decide) ?_
      exact lp_X7_weakest hT hN hW hx hr hc hQ hK (j + 1) (by omega) (fun i9 h9 => by
          by_cases e9 : i9 = j
          · subst e9; omega
          · exact hno i9 (by omega))
    · refine J_iload_n hx dX7_weakest_67 (i := 2) rfl rfl ?_
      refine J_iret hx hr dX7_weakest_68 ?_
      exact Qv (hQ (by omega)) (by rw [weak_at (by omega) (by omega) hno])
termination_by (A.ch c).length - j
decreasing_by all_goals omega

set_option maxHeartbeats 4000000 in
theorem c_X7_weakest {g : WG} {d : Nat} {T : TT} {M : MM} {r sz : Nat} {S : ST} {Q : MVal → TT → MM → Nat → Prop} (hT : MT T r) (hN : RN M r S) (hW : WFS S) {c : Int} (h_c : -2147483648 ≤ c ∧ c ≤ 2147483647) (hQ : RQ r T M sz Q (a_weakest S c)) : Ct g (d + 4) mX7_weakest [vR (r), vI (c)] T M sz 0 0 Q := by
  refine Ct_of2 (ls := [vR (r), vI (c), vU]) okX7_weakest rfl (Nat.le_of_ble_eq_true rfl) rfl ?_
  intro x hx hr hnm
  have hn8 := hW.y.n8
  refine J_iload_n hx dX7_weakest_0 (i := 1) rfl rfl ?_
  refine J_i2l hx dX7_weakest_1 ?_
  refine J_lconst (v := 0) hx dX7_weakest_2 (by decide) ?_
  refine J_lconst (v := 1) hx dX7_weakest_3 (by decide) ?_
  refine J_invS (As := [vL (c), vL (0), vL (1)]) (st := []) hx lk_X7_85 okX7_in dX7_weakest_4 rfl rfl (Nat.le_of_ble_eq_true rfl) (Nat.zero_add _).symm (Nat.zero_add _).symm rfl (c_X7_in (a := c) (lo := 0) (hi := 1) ?_)
  intro v1 hv1
  refine J_if_ne (tgt := 17) hx dX7_weakest_7 (by decide) (fun c2 => ?_) (fun c2 => ?_)
  · obtain ⟨cN, rfl⟩ : ∃ z : Nat, c = ((z : Nat) : Int) := ⟨c.toNat, by omega⟩
    refine J_iconst (v := 0) hx dX7_weakest_17 (by decide) ?_
    refine J_istore_n (lsn := [vR (r), vI (((cN : Nat) : Int)), vI (0)]) hx dX7_weakest_18 (i := 2) rfl (Nat.le_of_ble_eq_true rfl) rfl rfl ?_
    refine lp_X7_weakest hT hN.y hW.y hx hr (c := cN) (by omega) (fun h2 => hQ.same (S := S) (by
      unfold a_weakest
      all_goals (try unfold overY at *)
      all_goals (try unfold mayQ at *)
      all_goals (try simp only [Int.toNat_natCast] at *)
      all_goals ((repeat' split) <;> first | rfl | (exfalso; omega) | (congr 1; omega))) hN) (fun v9 h2 => ?_) 0 (by omega) (fun i9 h9 => absurd h9 (Nat.not_lt_zero i9))
    refine J_aload_n hx dX7_weakest_75 (i := 0) rfl rfl ?_
    refine J_bipush (v := -5) hx dX7_weakest_76 (by decide) ?_
    refine J_invV (As := [vI ((-5))]) (st := []) hx lk_X7_99 okX7_refuse dX7_weakest_78 hT.o (by decide) rfl rfl rfl (Nat.le_of_ble_eq_true rfl) (Nat.zero_add _).symm (Nat.zero_add _).symm rfl (c_X7_refuseS hT hN hW (k := 3) (by decide) ?_)
    intro M1 hN1 hf1
    refine J_iret hx hr dX7_weakest_81 ?_
    exact hQ.to (v := -((3 + 2 : Nat) : Int)) (S := rfS S 3) (by
      unfold a_weakest
      all_goals (try unfold overY at *)
      all_goals (try unfold mayQ at *)
      all_goals (try simp only [Int.toNat_natCast] at *)
      all_goals ((repeat' split) <;> first | rfl | (exfalso; omega) | (congr 1; omega))) hN1 hf1
  · refine J_aload_n hx dX7_weakest_10 (i := 0) rfl rfl ?_
    refine J_bipush (v := -2) hx dX7_weakest_11 (by decide) ?_
    refine J_invV (As := [vI ((-2))]) (st := []) hx lk_X7_99 okX7_refuse dX7_weakest_13 hT.o (by decide) rfl rfl rfl (Nat.le_of_ble_eq_true rfl) (Nat.zero_add _).symm (Nat.zero_add _).symm rfl (c_X7_refuseS hT hN hW (k := 0) (by decide) ?_)
    intro M1 hN1 hf1
    refine J_iret hx hr dX7_weakest_16 ?_
    exact hQ.to (v := -((0 + 2 : Nat) : Int)) (S := rfS S 0) (by
      unfold a_weakest
      all_goals (try unfold overY at *)
      all_goals (try unfold mayQ at *)
      all_goals (try simp only [Int.toNat_natCast] at *)
      all_goals ((repeat' split) <;> first | rfl | (exfalso; omega) | (congr 1; omega))) hN1 hf1

