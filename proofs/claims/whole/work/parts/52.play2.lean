theorem YA.setS2 (A : YA) (q : Nat) (v w : Int) : (A.setS q v).setS q w = A.setS q w := by
  show (A.n, A.att, A.ch, fun q' => if q' = q then w else if q' = q then v else A.sc q') = (A.n, A.att, A.ch, fun q' => if q' = q then w else A.sc q')
  congr 3
  funext q'
  by_cases e : q' = q
  · rw [if_pos e, if_pos e]
  · rw [if_neg e, if_neg e, if_neg e]
theorem force_y (A : YA) (p : Nat) (v : Int) : force (A.setS 1 v) p = force A p - A.sc 1 / 3 + v / 3 := by
  have e : force (A.setS 1 v) p = A.att 2 p + v / 3 + (if A.att 0 p = 4 then A.att 4 p else if A.att 0 p = 5 then 2 else 0) := rfl
  rw [e]; unfold force; omega
set_option maxHeartbeats 4000000 in
theorem lp_X7_play {g : WG} {d : Nat} {T : TT} {r sz t : Nat} {A : YA} (hTt : MT T t) {M1 : MM} (hY1 : MN M1 t A) (hWA : WFY A) {x : CX} (hx : OKx g x RX7 cX7_play (d + 7)) {rule w last : Int} {c n nc ns : Nat} (hrule : rule = 0 ∨ rule = 1) (k : Nat) (hk : 99 ≤ A.sc 6 + (k : Int)) (hK : ∀ M', MN M' t (plyZ rule k A last c n).1 → FrN t M1 M' → Jd g x 49 [vR (r), vI (rule), vI (w), vR (t)] [] T M' sz nc ns) : Jd g x 34 [vR (r), vI (rule), vI (w), vR (t)] [] T M1 sz nc ns := by
  refine J_aload_n hx dX7_play_34 (i := 3) rfl rfl ?_
  refine J_invV (As := []) (st := []) hx lk_X7_208 okX7_isOver dX7_play_35 hTt.o (by decide) rfl rfl rfl (Nat.le_of_ble_eq_true rfl) (Nat.zero_add _).symm (Nat.zero_add _).symm rfl (c_X7_isOver hTt hY1 hWA  ?_)
  intro v1 hv1
  refine J_if_ne (tgt := 49) hx dX7_play_38 (by decide) (fun c2 => ?_) (fun c2 => ?_)
  · have hov : overY A := by unfold overY at *; omega
    exact hK M1 (by rw [plyZ_over hov]; exact hY1) FrN.rf
  · have ho : ¬ overY A := fun q9 => by unfold overY at *; omega
    obtain ⟨k, rfl, hk2⟩ := fuel hWA ho hk
    have hps := playY_s A rule
    refine J_aload_n hx dX7_play_41 (i := 3) rfl rfl ?_
    refine J_iload_n hx dX7_play_42 (i := 1) rfl rfl ?_
    refine J_invVv (As := [vI (rule)]) (st := []) hx lk_X7_305 okX7_plays dX7_play_43 hTt.o (by decide) rfl rfl rfl (Nat.le_of_ble_eq_true rfl) (Nat.zero_add _).symm (Nat.zero_add _).symm rfl (c_X7_plays hTt hY1 hWA (rule := rule) hrule ho ?_)
    intro M2 hY2 hF2
    refine J_goto (tgt := 34) hx dX7_play_46 (by decide) ?_
    exact lp_X7_play hTt hY2 (playY_wf hWA ho rule) hx hrule k (by rw [hps.1]; omega) (fun M9 h8 h9 => hK M9 (by rw [plyZ_go ho]; exact h8) (hF2.tr h9))
termination_by k
decreasing_by all_goals omega

set_option maxHeartbeats 4000000 in
theorem c_X7_play {g : WG} {d : Nat} {T : TT} {M : MM} {r sz : Nat} {S : ST} {Q : MVal → TT → MM → Nat → Prop} (hX : RX T M r sz S) (hW : WFS S) {rule w : Int} (h_rule : -2147483648 ≤ rule ∧ rule ≤ 2147483647) (h_w : -2147483648 ≤ w ∧ w ≤ 2147483647) (hQ : RQX r T M sz Q (a_play S rule w)) : Ct g (d + 8) mX7_play [vR (r), vI (rule), vI (w)] T M sz 29 777 Q := by
  refine Ct_of2 (ls := [vR (r), vI (rule), vI (w), vU]) okX7_play rfl (Nat.le_of_ble_eq_true rfl) rfl ?_
  intro x hx hr hnm
  have hT := hX.t
  have hN := hX.n
  have hn8 := hW.y.n8
  have ht2 := hW.y.tn2
  have hl8 := hW.y.len8 ht2
  refine J_iload_n hx dX7_play_0 (i := 1) rfl rfl ?_
  refine J_i2l hx dX7_play_1 ?_
  refine J_lconst (v := 0) hx dX7_play_2 (by decide) ?_
  refine J_lconst (v := 1) hx dX7_play_3 (by decide) ?_
  refine J_invS (As := [vL (rule), vL (0), vL (1)]) (st := []) hx lk_X7_85 okX7_in dX7_play_4 rfl rfl (Nat.le_of_ble_eq_true rfl) (Nat.zero_add _).symm (Nat.zero_add _).symm rfl (c_X7_in (a := rule) (lo := 0) (hi := 1) ?_)
  intro v1 hv1
  refine J_if_eq (tgt := 22) hx dX7_play_7 (by decide) (fun c2 => ?_) (fun c2 => ?_)
  · refine J_aload_n hx dX7_play_22 (i := 0) rfl rfl ?_
    refine J_bipush (v := -2) hx dX7_play_23 (by decide) ?_
    refine J_invV (As := [vI ((-2))]) (st := []) hx lk_X7_99 okX7_refuse dX7_play_25 hX.t.o (by decide) rfl rfl rfl (Nat.le_of_ble_eq_true rfl) (Nat.zero_add _).symm (Nat.zero_add _).symm rfl (c_X7_refuseS hT hN hW (k := 0) (by decide) ?_)
    intro M1 hN1 hf1
    refine J_iret hx hr dX7_play_28 ?_
    exact hQ.to (v := -((0 + 2 : Nat) : Int)) (S := rfS S 0) (by
      unfold a_play
      all_goals (try unfold overY at *)
      all_goals (try unfold mayQ at *)
      all_goals (try simp only [Int.toNat_natCast] at *)
      all_goals ((repeat' split) <;> first | rfl | (exfalso; omega) | (congr 1; omega))) (hX.rq rfl hN1 hf1) (fun b hb => ⟨rfl, hf1 b (Or.inl hb)⟩)
  · refine J_iload_n hx dX7_play_10 (i := 2) rfl rfl ?_
    refine J_i2l hx dX7_play_11 ?_
    refine J_lconst (v := 0) hx dX7_play_12 (by decide) ?_
    refine J_ldc2 (v := 2) hx ct_X7_137 dX7_play_13 (by decide) ?_
    refine J_invS (As := [vL (w), vL (0), vL (2)]) (st := []) hx lk_X7_85 okX7_in dX7_play_16 rfl rfl (Nat.le_of_ble_eq_true rfl) (Nat.zero_add _).symm (Nat.zero_add _).symm rfl (c_X7_in (a := w) (lo := 0) (hi := 2) ?_)
    intro v3 hv3
    refine J_if_ne (tgt := 29) hx dX7_play_19 (by decide) (fun c4 => ?_) (fun c4 => ?_)
    · refine J_aload_n hx dX7_play_29 (i := 0) rfl rfl ?_
      refine J_invV (As := []) (st := []) hx lk_X7_250 okX7_fresh dX7_play_30 hX.t.o (by decide) rfl rfl rfl (Nat.le_of_ble_eq_true rfl) (Nat.add_zero _).symm (Nat.add_zero _).symm rfl (c_X7_fresh hX hW ?_)
      intro T1 M1 sz1 t hX1 hTr hY1 hlo
      refine J_astore_n (lsn := [vR (r), vI (rule), vI (w), vR (t)]) hx dX7_play_33 (i := 3) rfl (Nat.le_of_ble_eq_true rfl) rfl rfl ?_
      have hs6 := hW.y.s6
      have hend := plyZ_end (rule := rule) 99 hW.y (by omega) (-1) 0 0
      refine lp_X7_play hTr.2.1 hY1 hW.y hx (last := -1) (c := 0) (n := 0) (by omega) 99 (by omega) (fun M2 hYe hF2 => ?_)
      have hX2 := hX1.tr hTr hF2
      have hlo2 : ∀ b, b < r → T1 b = T b ∧ M2 b = M b := fun b hb => ⟨(hlo b hb).1, by rw [hF2.out (by have := hTr.2.2.1; omega)]; exact (hlo b hb).2⟩
      refine J_iload_n hx dX7_play_49 (i := 2) rfl rfl ?_
      refine J_if_ne (tgt := 60) hx dX7_play_50 (by decide) (fun c5 => ?_) (fun c5 => ?_)
      · refine J_iload_n hx dX7_play_60 (i := 2) rfl rfl ?_
        refine J_iconst (v := 1) hx dX7_play_61 (by decide) ?_
        refine J_icmp_ne (tgt := 77) hx dX7_play_62 (by decide) (fun c6 => ?_) (fun c6 => ?_)
        · refine J_aload_n hx dX7_play_77 (i := 3) rfl rfl ?_
          refine J_getR (b := t + 25) hx fl_X7_57 cl_X7 dX7_play_78 hTr.2.1.o (by decide) rfl hTr.2.1.r16 ?_
          refine J_iconst (v := 0) hx dX7_play_81 (by decide) ?_
          refine J_iald2 (v := ((((plyZ rule 99 S.1 (-1) 0 0).1.ch 0).length : Nat) : Int)) hx 0 dX7_play_82 hTr.2.1.k25 (by omega) (hTr.2.1.l25 (by omega)) (hYe.sz (by omega)) ?_
          refine J_iret hx hr dX7_play_83 ?_
          exact hQ.to (v := ((((plyZ rule 99 S.1 (-1) 0 0).1.ch 0).length : Nat) : Int)) (S := S) (by
            unfold a_play
            all_goals (try unfold overY at *)
            all_goals (try unfold mayQ at *)
            all_goals (try simp only [Int.toNat_natCast] at *)
            all_goals ((repeat' split) <;> first | rfl | (exfalso; omega) | (congr 1; omega))) hX2 hlo2
        · refine J_aload_n hx dX7_play_65 (i := 3) rfl rfl ?_
          refine J_getI2 (v := (plyZ rule 99 S.1 (-1) 0 0).1.sc 6) hx fl_X7_274 cl_X7 dX7_play_66 hTr.2.1.o (by decide) rfl hYe.s6 ?_
          have rg7 := hend.2.1.s6
          refine J_aload_n hx dX7_play_69 (i := 0) rfl rfl ?_
          refine J_getI2 (v := S.1.sc 6) hx fl_X7_274 cl_X7 dX7_play_70 hX2.t.o (by decide) rfl hX2.n.y.s6 ?_
          have rg8 := hW.y.s6
          refine J_isub (v := (((plyZ rule 99 S.1 (-1) 0 0).2.2 : Nat) : Int)) hx dX7_play_73 (by rw [hend.2.2.1, w32_id (by omega) (by omega)]; omega) ?_
          refine J_goto (tgt := 83) hx dX7_play_74 (by decide) ?_
          refine J_iret hx hr dX7_play_83 ?_
          exact hQ.to (v := (((plyZ rule 99 S.1 (-1) 0 0).2.2 : Nat) : Int)) (S := S) (by
            unfold a_play
            all_goals (try unfold overY at *)
            all_goals (try unfold mayQ at *)
            all_goals (try simp only [Int.toNat_natCast] at *)
            all_goals ((repeat' split) <;> first | rfl | (exfalso; omega) | (congr 1; omega))) hX2 hlo2
      · refine J_aload_n hx dX7_play_53 (i := 3) rfl rfl ?_
        refine J_invV (As := []) (st := []) hx lk_X7_277 okX7_wonNow dX7_play_54 hTr.2.1.o (by decide) rfl rfl rfl (Nat.le_of_ble_eq_true rfl) (Nat.zero_add _).symm (Nat.zero_add _).symm rfl (c_X7_wonNow hTr.2.1 hYe hend.2.1 ?_)
        intro vw hvw
        have ew : vw = leadY (plyZ rule 99 S.1 (-1) 0 0).1 := by rcases hvw with h9 | h9; exact h9.2; exact absurd hend.1 h9.1
        subst ew
        refine J_goto (tgt := 83) hx dX7_play_57 (by decide) ?_
        refine J_iret hx hr dX7_play_83 ?_
        exact hQ.to (v := leadY (plyZ rule 99 S.1 (-1) 0 0).1) (S := S) (by
          unfold a_play
          all_goals (try unfold overY at *)
          all_goals (try unfold mayQ at *)
          all_goals (try simp only [Int.toNat_natCast] at *)
          all_goals ((repeat' split) <;> first | rfl | (exfalso; omega) | (congr 1; omega))) hX2 hlo2
    · refine J_aload_n hx dX7_play_22 (i := 0) rfl rfl ?_
      refine J_bipush (v := -2) hx dX7_play_23 (by decide) ?_
      refine J_invV (As := [vI ((-2))]) (st := []) hx lk_X7_99 okX7_refuse dX7_play_25 hX.t.o (by decide) rfl rfl rfl (Nat.le_of_ble_eq_true rfl) (Nat.zero_add _).symm (Nat.zero_add _).symm rfl (c_X7_refuseS hT hN hW (k := 0) (by decide) ?_)
      intro M1 hN1 hf1
      refine J_iret hx hr dX7_play_28 ?_
      exact hQ.to (v := -((0 + 2 : Nat) : Int)) (S := rfS S 0) (by
        unfold a_play
        all_goals (try unfold overY at *)
        all_goals (try unfold mayQ at *)
        all_goals (try simp only [Int.toNat_natCast] at *)
        all_goals ((repeat' split) <;> first | rfl | (exfalso; omega) | (congr 1; omega))) (hX.rq rfl hN1 hf1) (fun b hb => ⟨rfl, hf1 b (Or.inl hb)⟩)

set_option maxHeartbeats 4000000 in
theorem lp_X7_leads {g : WG} {d : Nat} {T : TT} {r sz t : Nat} {A : YA} (hTt : MT T t) {M1 : MM} (hY1 : MN M1 t A) (hWA : WFY A) {x : CX} (hx : OKx g x RX7 cX7_leads (d + 7)) {rule last : Int} {nc ns : Nat} (hrule : rule = 0 ∨ rule = 1) (k : Nat) {c n : Nat} (hk : 99 ≤ A.sc 6 + (k : Int)) (hcb : c + k ≤ 99) (hlast : -1 ≤ last ∧ last ≤ 1) (u5 : MVal) (hK : ∀ (M' : MM) (u9 : MVal) (l9 : Int), MN M' t (plyZ rule k A last c n).1 → FrN t M1 M' → Jd g x 107 [vR r, vI rule, vR t, vI l9, vI (((plyZ rule k A last c n).2.1 : Nat) : Int), u9] [] T M' sz nc ns) : Jd g x 27 [vR (r), vI (rule), vR (t), vI (last), vI (((c : Nat) : Int)), u5] [] T M1 sz nc ns := by
  refine J_aload_n hx dX7_leads_27 (i := 2) rfl rfl ?_
  refine J_invV (As := []) (st := []) hx lk_X7_208 okX7_isOver dX7_leads_28 hTt.o (by decide) rfl rfl rfl (Nat.le_of_ble_eq_true rfl) (Nat.zero_add _).symm (Nat.zero_add _).symm rfl (c_X7_isOver hTt hY1 hWA  ?_)
  intro v1 hv1
  refine J_if_ne (tgt := 107) hx dX7_leads_31 (by decide) (fun c2 => ?_) (fun c2 => ?_)
  · have hov : overY A := by unfold overY at *; omega
    rw [plyZ_over hov] at hK
    exact hK M1 _ _ hY1 FrN.rf
  · have ho : ¬ overY A := fun q9 => by unfold overY at *; omega
    obtain ⟨k, rfl, hk2⟩ := fuel hWA ho hk
    have hps := playY_s A rule
    refine J_aload_n hx dX7_leads_34 (i := 2) rfl rfl ?_
    refine J_iload_n hx dX7_leads_35 (i := 1) rfl rfl ?_
    refine J_invVv (As := [vI (rule)]) (st := []) hx lk_X7_305 okX7_plays dX7_leads_36 hTt.o (by decide) rfl rfl rfl (Nat.le_of_ble_eq_true rfl) (Nat.zero_add _).symm (Nat.zero_add _).symm rfl (c_X7_plays hTt hY1 hWA (rule := rule) hrule ho ?_)
    intro M2 hY2 hF2
    have hWB := playY_wf hWA ho rule
    refine J_aload_n hx dX7_leads_39 (i := 2) rfl rfl ?_
    refine J_getR (b := t + 25) hx fl_X7_57 cl_X7 dX7_leads_40 hTt.o (by decide) rfl hTt.r16 ?_
    refine J_iconst (v := 0) hx dX7_leads_43 (by decide) ?_
    refine J_iald2 (v := ((((playY A rule).ch 0).length : Nat) : Int)) hx 0 dX7_leads_44 hTt.k25 (by omega) (hTt.l25 (by omega)) (hY2.sz (by omega)) ?_
    have rg3 := hWB.len8 (c := 0) (by omega)
    have rg4 := hWB.lenN (c := 0) (by omega)
    refine J_aload_n hx dX7_leads_45 (i := 2) rfl rfl ?_
    refine J_getR (b := t + 25) hx fl_X7_57 cl_X7 dX7_leads_46 hTt.o (by decide) rfl hTt.r16 ?_
    refine J_iconst (v := 1) hx dX7_leads_49 (by decide) ?_
    refine J_iald2 (v := ((((playY A rule).ch 1).length : Nat) : Int)) hx 1 dX7_leads_50 hTt.k25 (by omega) (hTt.l25 (by omega)) (hY2.sz (by omega)) ?_
    have rg5 := hWB.len8 (c := 1) (by omega)
    have rg6 := hWB.lenN (c := 1) (by omega)
    refine J_icmp_ne (tgt := 58) hx dX7_leads_51 (by decide) (fun c7 => ?_) (fun c7 => ?_)
    · refine J_aload_n hx dX7_leads_58 (i := 2) rfl rfl ?_
      refine J_getR (b := t + 25) hx fl_X7_57 cl_X7 dX7_leads_59 hTt.o (by decide) rfl hTt.r16 ?_
      refine J_iconst (v := 0) hx dX7_leads_62 (by decide) ?_
      refine J_iald2 (v := ((((playY A rule).ch 0).length : Nat) : Int)) hx 0 dX7_leads_63 hTt.k25 (by omega) (hTt.l25 (by omega)) (hY2.sz (by omega)) ?_
      have rg8 := hWB.len8 (c := 0) (by omega)
      have rg9 := hWB.lenN (c := 0) (by omega)
      refine J_aload_n hx dX7_leads_64 (i := 2) rfl rfl ?_
      refine J_getR (b := t + 25) hx fl_X7_57 cl_X7 dX7_leads_65 hTt.o (by decide) rfl hTt.r16 ?_
      refine J_iconst (v := 1) hx dX7_leads_68 (by decide) ?_
      refine J_iald2 (v := ((((playY A rule).ch 1).length : Nat) : Int)) hx 1 dX7_leads_69 hTt.k25 (by omega) (hTt.l25 (by omega)) (hY2.sz (by omega)) ?_
      have rg10 := hWB.len8 (c := 1) (by omega)
      have rg11 := hWB.lenN (c := 1) (by omega)
      refine J_icmp_le (tgt := 77) hx dX7_leads_70 (by decide) (fun c12 => ?_) (fun c12 => ?_)
      · refine J_iconst (v := 1) hx dX7_leads_77 (by decide) ?_
        refine J_istore (lsn := [vR (r), vI (rule), vR (t), vI (last), vI (((c : Nat) : Int)), vI (1)]) hx dX7_leads_78 (Nat.le_of_ble_eq_true rfl) rfl rfl ?_
        refine J_iload hx dX7_leads_80 rfl ?_
        refine J_iload_n hx dX7_leads_82 (i := 3) rfl rfl ?_
        refine J_iconst (v := -1) hx dX7_leads_83 (by decide) ?_
        refine J_icmp_eq (tgt := 97) hx dX7_leads_84 (by decide) (fun c13 => ?_) (fun c13 => ?_)
        · refine J_iconst (v := 0) hx dX7_leads_97 (by decide) ?_
          refine J_iadd (v := ((c : Nat) : Int)) hx dX7_leads_98 (by rw [w32_id (by omega) (by omega)]; omega) ?_
          refine J_istore (lsn := [vR (r), vI (rule), vR (t), vI (last), vI (((c : Nat) : Int)), vI (1)]) hx dX7_leads_99 (Nat.le_of_ble_eq_true rfl) rfl rfl ?_
          refine J_iload hx dX7_leads_101 rfl ?_
          refine J_istore_n (lsn := [vR (r), vI (rule), vR (t), vI (1), vI (((c : Nat) : Int)), vI (1)]) hx dX7_leads_103 (i := 3) rfl (Nat.le_of_ble_eq_true rfl) rfl rfl ?_
          refine J_goto (tgt := 27) hx dX7_leads_104 (by decide) ?_
          have e1 : lstI (playY A rule) last = 1 := by unfold lstI leadY; (repeat' split) <;> omega
          have e2 : chgI (playY A rule) last = 0 := by unfold chgI leadY; (repeat' split) <;> omega
          rw [plyZ_go ho, e1, e2] at hK
          exact lp_X7_leads hTt hY2 hWB hx hrule k (c := c + 0) (n := n + 1) (by rw [hps.1]; omega) (by omega) (by omega) _ (fun M9 u9 l9 h8 h9 => hK M9 u9 l9 h8 (hF2.tr h9))
        · refine J_iload hx dX7_leads_87 rfl ?_
          refine J_iload_n hx dX7_leads_89 (i := 3) rfl rfl ?_
          refine J_icmp_eq (tgt := 97) hx dX7_leads_90 (by decide) (fun c14 => ?_) (fun c14 => ?_)
          · refine J_iconst (v := 0) hx dX7_leads_97 (by decide) ?_
            refine J_iadd (v := ((c : Nat) : Int)) hx dX7_leads_98 (by rw [w32_id (by omega) (by omega)]; omega) ?_
            refine J_istore (lsn := [vR (r), vI (rule), vR (t), vI (last), vI (((c : Nat) : Int)), vI (1)]) hx dX7_leads_99 (Nat.le_of_ble_eq_true rfl) rfl rfl ?_
            refine J_iload hx dX7_leads_101 rfl ?_
            refine J_istore_n (lsn := [vR (r), vI (rule), vR (t), vI (1), vI (((c : Nat) : Int)), vI (1)]) hx dX7_leads_103 (i := 3) rfl (Nat.le_of_ble_eq_true rfl) rfl rfl ?_
            refine J_goto (tgt := 27) hx dX7_leads_104 (by decide) ?_
            have e1 : lstI (playY A rule) last = 1 := by unfold lstI leadY; (repeat' split) <;> omega
            have e2 : chgI (playY A rule) last = 0 := by unfold chgI leadY; (repeat' split) <;> omega
            rw [plyZ_go ho, e1, e2] at hK
            exact lp_X7_leads hTt hY2 hWB hx hrule k (c := c + 0) (n := n + 1) (by rw [hps.1]; omega) (by omega) (by omega) _ (fun M9 u9 l9 h8 h9 => hK M9 u9 l9 h8 (hF2.tr h9))
          · refine J_iconst (v := 1) hx dX7_leads_93 (by decide) ?_
            refine J_goto (tgt := 98) hx dX7_leads_94 (by decide) ?_
            refine J_iadd (v := ((c : Nat) : Int) + 1) hx dX7_leads_98 (w32_id (by omega) (by omega)) ?_
            refine J_istore (lsn := [vR (r), vI (rule), vR (t), vI (last), vI (((c : Nat) : Int) + 1), vI (1)]) hx dX7_leads_99 (Nat.le_of_ble_eq_true rfl) rfl rfl ?_
            refine J_iload hx dX7_leads_101 rfl ?_
            refine J_istore_n (lsn := [vR (r), vI (rule), vR (t), vI (1), vI (((c : Nat) : Int) + 1), vI (1)]) hx dX7_leads_103 (i := 3) rfl (Nat.le_of_ble_eq_true rfl) rfl rfl ?_
            refine J_goto (tgt := 27) hx dX7_leads_104 (by decide) ?_
            have e1 : lstI (playY A rule) last = 1 := by unfold lstI leadY; (repeat' split) <;> omega
            have e2 : chgI (playY A rule) last = 1 := by unfold chgI leadY; (repeat' split) <;> omega
            rw [plyZ_go ho, e1, e2] at hK
            exact lp_X7_leads hTt hY2 hWB hx hrule k (c := c + 1) (n := n + 1) (by rw [hps.1]; omega) (by omega) (by omega) _ (fun M9 u9 l9 h8 h9 => hK M9 u9 l9 h8 (hF2.tr h9))
      · refine J_iconst (v := 0) hx dX7_leads_73 (by decide) ?_
        refine J_goto (tgt := 78) hx dX7_leads_74 (by decide) ?_
        refine J_istore (lsn := [vR (r), vI (rule), vR (t), vI (last), vI (((c : Nat) : Int)), vI (0)]) hx dX7_leads_78 (Nat.le_of_ble_eq_true rfl) rfl rfl ?_
        refine J_iload hx dX7_leads_80 rfl ?_
        refine J_iload_n hx dX7_leads_82 (i := 3) rfl rfl ?_
        refine J_iconst (v := -1) hx dX7_leads_83 (by decide) ?_
        refine J_icmp_eq (tgt := 97) hx dX7_leads_84 (by decide) (fun c15 => ?_) (fun c15 => ?_)
        · refine J_iconst (v := 0) hx dX7_leads_97 (by decide) ?_
          refine J_iadd (v := ((c : Nat) : Int)) hx dX7_leads_98 (by rw [w32_id (by omega) (by omega)]; omega) ?_
          refine J_istore (lsn := [vR (r), vI (rule), vR (t), vI (last), vI (((c : Nat) : Int)), vI (0)]) hx dX7_leads_99 (Nat.le_of_ble_eq_true rfl) rfl rfl ?_
          refine J_iload hx dX7_leads_101 rfl ?_
          refine J_istore_n (lsn := [vR (r), vI (rule), vR (t), vI (0), vI (((c : Nat) : Int)), vI (0)]) hx dX7_leads_103 (i := 3) rfl (Nat.le_of_ble_eq_true rfl) rfl rfl ?_
          refine J_goto (tgt := 27) hx dX7_leads_104 (by decide) ?_
          have e1 : lstI (playY A rule) last = 0 := by unfold lstI leadY; (repeat' split) <;> omega
          have e2 : chgI (playY A rule) last = 0 := by unfold chgI leadY; (repeat' split) <;> omega
          rw [plyZ_go ho, e1, e2] at hK
          exact lp_X7_leads hTt hY2 hWB hx hrule k (c := c + 0) (n := n + 1) (by rw [hps.1]; omega) (by omega) (by omega) _ (fun M9 u9 l9 h8 h9 => hK M9 u9 l9 h8 (hF2.tr h9))
        · refine J_iload hx dX7_leads_87 rfl ?_
          refine J_iload_n hx dX7_leads_89 (i := 3) rfl rfl ?_
          refine J_icmp_eq (tgt := 97) hx dX7_leads_90 (by decide) (fun c16 => ?_) (fun c16 => ?_)
          · refine J_iconst (v := 0) hx dX7_leads_97 (by decide) ?_
            refine J_iadd (v := ((c : Nat) : Int)) hx dX7_leads_98 (by rw [w32_id (by omega) (by omega)]; omega) ?_
            refine J_istore (lsn := [vR (r), vI (rule), vR (t), vI (last), vI (((c : Nat) : Int)), vI (0)]) hx dX7_leads_99 (Nat.le_of_ble_eq_true rfl) rfl rfl ?_
            refine J_iload hx dX7_leads_101 rfl ?_
            refine J_istore_n (lsn := [vR (r), vI (rule), vR (t), vI (0), vI (((c : Nat) : Int)), vI (0)]) hx dX7_leads_103 (i := 3) rfl (Nat.le_of_ble_eq_true rfl) rfl rfl ?_
            refine J_goto (tgt := 27) hx dX7_leads_104 (by decide) ?_
            have e1 : lstI (playY A rule) last = 0 := by unfold lstI leadY; (repeat' split) <;> omega
            have e2 : chgI (playY A rule) last = 0 := by unfold chgI leadY; (repeat' split) <;> omega
            rw [plyZ_go ho, e1, e2] at hK
            exact lp_X7_leads hTt hY2 hWB hx hrule k (c := c + 0) (n := n + 1) (by rw [hps.1]; omega) (by omega) (by omega) _ (fun M9 u9 l9 h8 h9 => hK M9 u9 l9 h8 (hF2.tr h9))
          · refine J_iconst (v := 1) hx dX7_leads_93 (by decide) ?_
            refine J_goto (tgt := 98) hx dX7_leads_94 (by decide) ?_
            refine J_iadd (v := ((c : Nat) : Int) + 1) hx dX7_leads_98 (w32_id (by omega) (by omega)) ?_
            refine J_istore (lsn := [vR (r), vI (rule), vR (t), vI (last), vI (((c : Nat) : Int) + 1), vI (0)]) hx dX7_leads_99 (Nat.le_of_ble_eq_true rfl) rfl rfl ?_
            refine J_iload hx dX7_leads_101 rfl ?_
            refine J_istore_n (lsn := [vR (r), vI (rule), vR (t), vI (0), vI (((c : Nat) : Int) + 1), vI (0)]) hx dX7_leads_103 (i := 3) rfl (Nat.le_of_ble_eq_true rfl) rfl rfl ?_
            refine J_goto (tgt := 27) hx dX7_leads_104 (by decide) ?_
            have e1 : lstI (playY A rule) last = 0 := by unfold lstI leadY; (repeat' split) <;> omega
            have e2 : chgI (playY A rule) last = 1 := by unfold chgI leadY; (repeat' split) <;> omega
            rw [plyZ_go ho, e1, e2] at hK
            exact lp_X7_leads hTt hY2 hWB hx hrule k (c := c + 1) (n := n + 1) (by rw [hps.1]; omega) (by omega) (by omega) _ (fun M9 u9 l9 h8 h9 => hK M9 u9 l9 h8 (hF2.tr h9))
    · refine J_iload_n hx dX7_leads_54 (i := 3) rfl rfl ?_
      refine J_goto (tgt := 78) hx dX7_leads_55 (by decide) ?_
      refine J_istore (lsn := [vR (r), vI (rule), vR (t), vI (last), vI (((c : Nat) : Int)), vI (last)]) hx dX7_leads_78 (Nat.le_of_ble_eq_true rfl) rfl rfl ?_
      refine J_iload hx dX7_leads_80 rfl ?_
      refine J_iload_n hx dX7_leads_82 (i := 3) rfl rfl ?_
      refine J_iconst (v := -1) hx dX7_leads_83 (by decide) ?_
      refine J_icmp_eq (tgt := 97) hx dX7_leads_84 (by decide) (fun c17 => ?_) (fun c17 => ?_)
      · refine J_iconst (v := 0) hx dX7_leads_97 (by decide) ?_
        refine J_iadd (v := ((c : Nat) : Int)) hx dX7_leads_98 (by rw [w32_id (by omega) (by omega)]; omega) ?_
        refine J_istore (lsn := [vR (r), vI (rule), vR (t), vI (last), vI (((c : Nat) : Int)), vI (last)]) hx dX7_leads_99 (Nat.le_of_ble_eq_true rfl) rfl rfl ?_
        refine J_iload hx dX7_leads_101 rfl ?_
        refine J_istore_n (lsn := [vR (r), vI (rule), vR (t), vI (last), vI (((c : Nat) : Int)), vI (last)]) hx dX7_leads_103 (i := 3) rfl (Nat.le_of_ble_eq_true rfl) rfl rfl ?_
        refine J_goto (tgt := 27) hx dX7_leads_104 (by decide) ?_
        have e1 : lstI (playY A rule) last = last := by unfold lstI leadY; (repeat' split) <;> omega
        have e2 : chgI (playY A rule) last = 0 := by unfold chgI leadY; (repeat' split) <;> omega
        rw [plyZ_go ho, e1, e2] at hK
        exact lp_X7_leads hTt hY2 hWB hx hrule k (c := c + 0) (n := n + 1) (by rw [hps.1]; omega) (by omega) (by omega) _ (fun M9 u9 l9 h8 h9 => hK M9 u9 l9 h8 (hF2.tr h9))
      · refine J_iload hx dX7_leads_87 rfl ?_
        refine J_iload_n hx dX7_leads_89 (i := 3) rfl rfl ?_
        refine J_icmp_eq (tgt := 97) hx dX7_leads_90 (by decide) (fun c18 => ?_) (fun c18 => ?_)
        · refine J_iconst (v := 0) hx dX7_leads_97 (by decide) ?_
          refine J_iadd (v := ((c : Nat) : Int)) hx dX7_leads_98 (by rw [w32_id (by omega) (by omega)]; omega) ?_
          refine J_istore (lsn := [vR (r), vI (rule), vR (t), vI (last), vI (((c : Nat) : Int)), vI (last)]) hx dX7_leads_99 (Nat.le_of_ble_eq_true rfl) rfl rfl ?_
          refine J_iload hx dX7_leads_101 rfl ?_
          refine J_istore_n (lsn := [vR (r), vI (rule), vR (t), vI (last), vI (((c : Nat) : Int)), vI (last)]) hx dX7_leads_103 (i := 3) rfl (Nat.le_of_ble_eq_true rfl) rfl rfl ?_
          refine J_goto (tgt := 27) hx dX7_leads_104 (by decide) ?_
          have e1 : lstI (playY A rule) last = last := by unfold lstI leadY; (repeat' split) <;> omega
          have e2 : chgI (playY A rule) last = 0 := by unfold chgI leadY; (repeat' split) <;> omega
          rw [plyZ_go ho, e1, e2] at hK
          exact lp_X7_leads hTt hY2 hWB hx hrule k (c := c + 0) (n := n + 1) (by rw [hps.1]; omega) (by omega) (by omega) _ (fun M9 u9 l9 h8 h9 => hK M9 u9 l9 h8 (hF2.tr h9))
        · refine J_iconst (v := 1) hx dX7_leads_93 (by decide) ?_
          refine J_goto (tgt := 98) hx dX7_leads_94 (by decide) ?_
          refine J_iadd (v := ((c : Nat) : Int) + 1) hx dX7_leads_98 (w32_id (by omega) (by omega)) ?_
          refine J_istore (lsn := [vR (r), vI (rule), vR (t), vI (last), vI (((c : Nat) : Int) + 1), vI (last)]) hx dX7_leads_99 (Nat.le_of_ble_eq_true rfl) rfl rfl ?_
          refine J_iload hx dX7_leads_101 rfl ?_
          refine J_istore_n (lsn := [vR (r), vI (rule), vR (t), vI (last), vI (((c : Nat) : Int) + 1), vI (last)]) hx dX7_leads_103 (i := 3) rfl (Nat.le_of_ble_eq_true rfl) rfl rfl ?_
          refine J_goto (tgt := 27) hx dX7_leads_104 (by decide) ?_
          have e1 : lstI (playY A rule) last = last := by unfold lstI leadY; (repeat' split) <;> omega
          have e2 : chgI (playY A rule) last = 1 := by unfold chgI leadY; (repeat' split) <;> omega
          rw [plyZ_go ho, e1, e2] at hK
          exact lp_X7_leads hTt hY2 hWB hx hrule k (c := c + 1) (n := n + 1) (by rw [hps.1]; omega) (by omega) (by omega) _ (fun M9 u9 l9 h8 h9 => hK M9 u9 l9 h8 (hF2.tr h9))
termination_by k
decreasing_by all_goals omega

set_option maxHeartbeats 4000000 in
theorem c_X7_leads {g : WG} {d : Nat} {T : TT} {M : MM} {r sz : Nat} {S : ST} {Q : MVal → TT → MM → Nat → Prop} (hX : RX T M r sz S) (hW : WFS S) {rule : Int} (h_rule : -2147483648 ≤ rule ∧ rule ≤ 2147483647) (hQ : RQX r T M sz Q (a_leads S rule)) : Ct g (d + 8) mX7_leads [vR (r), vI (rule)] T M sz 29 777 Q := by
  refine Ct_of2 (ls := [vR (r), vI (rule), vU, vU, vU, vU]) okX7_leads rfl (Nat.le_of_ble_eq_true rfl) rfl ?_
  intro x hx hr hnm
  have hT := hX.t
  have hN := hX.n
  have hn8 := hW.y.n8
  have ht2 := hW.y.tn2
  have hl8 := hW.y.len8 ht2
  refine J_iload_n hx dX7_leads_0 (i := 1) rfl rfl ?_
  refine J_i2l hx dX7_leads_1 ?_
  refine J_lconst (v := 0) hx dX7_leads_2 (by decide) ?_
  refine J_lconst (v := 1) hx dX7_leads_3 (by decide) ?_
  refine J_invS (As := [vL (rule), vL (0), vL (1)]) (st := []) hx lk_X7_85 okX7_in dX7_leads_4 rfl rfl (Nat.le_of_ble_eq_true rfl) (Nat.zero_add _).symm (Nat.zero_add _).symm rfl (c_X7_in (a := rule) (lo := 0) (hi := 1) ?_)
  intro v1 hv1
  refine J_if_ne (tgt := 17) hx dX7_leads_7 (by decide) (fun c2 => ?_) (fun c2 => ?_)
  · refine J_aload_n hx dX7_leads_17 (i := 0) rfl rfl ?_
    refine J_invV (As := []) (st := []) hx lk_X7_250 okX7_fresh dX7_leads_18 hX.t.o (by decide) rfl rfl rfl (Nat.le_of_ble_eq_true rfl) (Nat.add_zero _).symm (Nat.add_zero _).symm rfl (c_X7_fresh hX hW ?_)
    intro T1 M1 sz1 t hX1 hTr hY1 hlo
    refine J_astore_n (lsn := [vR (r), vI (rule), vR (t), vU, vU, vU]) hx dX7_leads_21 (i := 2) rfl (Nat.le_of_ble_eq_true rfl) rfl rfl ?_
    refine J_iconst (v := -1) hx dX7_leads_22 (by decide) ?_
    refine J_istore_n (lsn := [vR (r), vI (rule), vR (t), vI ((-1)), vU, vU]) hx dX7_leads_23 (i := 3) rfl (Nat.le_of_ble_eq_true rfl) rfl rfl ?_
    refine J_iconst (v := 0) hx dX7_leads_24 (by decide) ?_
    refine J_istore (lsn := [vR (r), vI (rule), vR (t), vI ((-1)), vI (0), vU]) hx dX7_leads_25 (Nat.le_of_ble_eq_true rfl) rfl rfl ?_
    have hs6 := hW.y.s6
    have hend := plyZ_end (rule := rule) 99 hW.y (by omega) (-1) 0 0
    refine lp_X7_leads hTr.2.1 hY1 hW.y hx (by omega) 99 (c := 0) (n := 0) (by omega) (by omega) (by omega) _ (fun M2 u9 l9 hYe hF2 => ?_)
    have hX2 := hX1.tr hTr hF2
    have hlo2 : ∀ b, b < r → T1 b = T b ∧ M2 b = M b := fun b hb => ⟨(hlo b hb).1, by rw [hF2.out (by have := hTr.2.2.1; omega)]; exact (hlo b hb).2⟩
    refine J_iload hx dX7_leads_107 rfl ?_
    refine J_iret hx hr dX7_leads_109 ?_
    exact hQ.to (v := (((plyZ rule 99 S.1 (-1) 0 0).2.1 : Nat) : Int)) (S := S) (by
      unfold a_leads
      all_goals (try unfold overY at *)
      all_goals (try unfold mayQ at *)
      all_goals (try simp only [Int.toNat_natCast] at *)
      all_goals ((repeat' split) <;> first | rfl | (exfalso; omega) | (congr 1; omega))) hX2 hlo2
  · refine J_aload_n hx dX7_leads_10 (i := 0) rfl rfl ?_
    refine J_bipush (v := -2) hx dX7_leads_11 (by decide) ?_
    refine J_invV (As := [vI ((-2))]) (st := []) hx lk_X7_99 okX7_refuse dX7_leads_13 hX.t.o (by decide) rfl rfl rfl (Nat.le_of_ble_eq_true rfl) (Nat.zero_add _).symm (Nat.zero_add _).symm rfl (c_X7_refuseS hT hN hW (k := 0) (by decide) ?_)
    intro M1 hN1 hf1
    refine J_iret hx hr dX7_leads_16 ?_
    exact hQ.to (v := -((0 + 2 : Nat) : Int)) (S := rfS S 0) (by
      unfold a_leads
      all_goals (try unfold overY at *)
      all_goals (try unfold mayQ at *)
      all_goals (try simp only [Int.toNat_natCast] at *)
      all_goals ((repeat' split) <;> first | rfl | (exfalso; omega) | (congr 1; omega))) (hX.rq rfl hN1 hf1) (fun b hb => ⟨rfl, hf1 b (Or.inl hb)⟩)

set_option maxHeartbeats 4000000 in
theorem lp_X7_yardsFor {g : WG} {d : Nat} {T : TT} {M : MM} {r sz : Nat} {S : ST} {Q : MVal → TT → MM → Nat → Prop} (hX : RX T M r sz S) (hW : WFS S) {x : CX} (hx : OKx g x RX7 cX7_yardsFor (d + 4)) (hr : RTx g x (some .int) Q) {p j : Nat} (hp : p < S.1.n) (hcp : S.1.co p ≠ S.1.tn) (hj : j + 1 < (S.1.ch S.1.tn).length) {t : Nat} (hTr : TRD T r t) {M0 : MM} {T0 : TT} {sz0 : Nat} (hQ : RQX r T0 M0 sz0 Q (a_yardsFor S ((p : Nat) : Int) ((j : Nat) : Int))) (v : Nat) (M1 : MM) (hX1 : RX T M1 r sz S) (hv : v ≤ 31) (v0 : Int) (hY1 : MN M1 t (S.1.setS 1 v0)) (hlo : ∀ b, b < r → T b = T0 b ∧ M1 b = M0 b) (hinv : v = 0 ∨ (((v : Nat) : Int) - 1) / 3 < (strl S.1 (S.1.ch S.1.tn) j + 1 - (force S.1 p - S.1.sc 1 / 3))) : Jd g x 54 [vR (r), vI (((p : Nat) : Int)), vI (((j : Nat) : Int)), vR (t), vI (((v : Nat) : Int))] [] T M1 sz 0 0 := by
  have hn8 := hW.y.n8
  have ht2 := hW.y.tn2
  have hl8 := hW.y.len8 ht2
  have hs1 := hW.y.s1
  have hfr := force_rg hW.y hp
  refine J_iload hx dX7_yardsFor_54 rfl ?_
  refine J_bipush (v := 30) hx dX7_yardsFor_56 (by decide) ?_
  refine J_icmp_gt (tgt := 107) hx dX7_yardsFor_58 (by decide) (fun c1 => ?_) (fun c1 => ?_)
  · refine J_iconst (v := -1) hx dX7_yardsFor_107 (by decide) ?_
    refine J_iret hx hr dX7_yardsFor_108 ?_
    exact hQ.to (v := (-1)) (S := S) (by
      unfold a_yardsFor
      simp only [Int.toNat_natCast]
      rw [if_neg (by omega), if_neg (by omega), if_neg hcp]
      (repeat' split) <;> first | rfl | (exfalso; omega) | (congr 1; omega)) hX1 (fun b hb => ⟨(hlo b hb).1, by exact (hlo b hb).2⟩)
  · refine J_aload_n hx dX7_yardsFor_61 (i := 3) rfl rfl ?_
    refine J_iload hx dX7_yardsFor_62 rfl ?_
    refine J_putI hx fl_X7_60 cl_X7 dX7_yardsFor_64 hTr.2.1.o (by decide) rfl (Or.inl rfl) (by decide) ?_
    have hYv : MN (up2 M1 t 17 ((v : Nat) : Int)) t (S.1.setS 1 ((v : Nat) : Int)) := by have h9 := hY1.setS (q := 1) ((v : Nat) : Int) (by decide); rw [YA.setS2] at h9; exact h9
    have hF2 : FrN t M1 (up2 M1 t 17 ((v : Nat) : Int)) := FrN.rf.up (Or.inr ⟨rfl, by decide⟩) _
    generalize up2 M1 t 17 ((v : Nat) : Int) = M2 at hYv hF2 ⊢
    have hX2 := hX1.tr hTr hF2
    have hWv : WFY (S.1.setS 1 ((v : Nat) : Int)) := setS_wf hW.y (by omega)
    refine J_aload_n hx dX7_yardsFor_67 (i := 3) rfl rfl ?_
    refine J_iload_n hx dX7_yardsFor_68 (i := 1) rfl rfl ?_
    refine J_invV (As := [vI (((p : Nat) : Int))]) (st := []) hx lk_X7_126 okX7_force dX7_yardsFor_69 hTr.2.1.o (by decide) rfl rfl rfl (Nat.le_of_ble_eq_true rfl) (Nat.zero_add _).symm (Nat.zero_add _).symm rfl (c_X7_force hTr.2.1 hYv hWv (p := p) hp ?_)
    rw [force_y]
    refine J_aload_n hx dX7_yardsFor_72 (i := 0) rfl rfl ?_
    refine J_aload_n hx dX7_yardsFor_73 (i := 0) rfl rfl ?_
    refine J_getR (b := r + 22) hx fl_X7_54 cl_X7 dX7_yardsFor_74 hX2.t.o (by decide) rfl hX2.t.r15 ?_
    refine J_aload_n hx dX7_yardsFor_77 (i := 0) rfl rfl ?_
    refine J_getI2 (v := ((S.1.tn : Nat) : Int)) hx fl_X7_148 cl_X7 dX7_yardsFor_78 hX2.t.o (by decide) rfl (hX2.n.y.tn hW.y) ?_
    have rg2 := hW.y.tn2
    refine J_aald (b := r + 23 + S.1.tn) hx S.1.tn dX7_yardsFor_81 hX2.t.k22 (by decide) (by omega) (hX2.t.l22 (by omega)) (hX2.t.f22 (by omega)) ?_
    refine J_aload_n hx dX7_yardsFor_82 (i := 0) rfl rfl ?_
    refine J_getR (b := r + 25) hx fl_X7_57 cl_X7 dX7_yardsFor_83 hX2.t.o (by decide) rfl hX2.t.r16 ?_
    refine J_aload_n hx dX7_yardsFor_86 (i := 0) rfl rfl ?_
    refine J_getI2 (v := ((S.1.tn : Nat) : Int)) hx fl_X7_148 cl_X7 dX7_yardsFor_87 hX2.t.o (by decide) rfl (hX2.n.y.tn hW.y) ?_
    have rg3 := hW.y.tn2
    refine J_iald2 (v := (((S.1.ch S.1.tn).length : Nat) : Int)) hx S.1.tn dX7_yardsFor_90 hX2.t.k25 (by omega) (hX2.t.l25 (by omega)) (hX2.n.y.sz (by omega)) ?_
    have rg4 := hW.y.len8 (c := S.1.tn) (by omega)
    have rg5 := hW.y.lenN (c := S.1.tn) (by omega)
    refine J_iload_n hx dX7_yardsFor_91 (i := 2) rfl rfl ?_
    refine J_invV (As := [vR (r + 23 + S.1.tn), vI ((((S.1.ch S.1.tn).length : Nat) : Int)), vI (((j : Nat) : Int))]) (st := [vI (force S.1 p - S.1.sc 1 / 3 + ((v : Nat) : Int) / 3)]) hx lk_X7_266 okX7_strengthOf dX7_yardsFor_92 hX2.t.o (by decide) rfl rfl rfl (Nat.le_of_ble_eq_true rfl) (Nat.zero_add _).symm (Nat.zero_add _).symm rfl (c_X7_strengthOf hX2.t hX2.n.y hW.y (l := S.1.ch S.1.tn) (q := r + 23 + S.1.tn) (hX2.t.kl (by omega)) (hX2.t.nl (by omega)) (fun k9 h9 => hX2.n.y.ln (by omega) h9) (fun p9 h9 => hW.y.lt (by omega) h9) (by omega) (j := j) (by omega) ?_)
    have rg6 := strl_rg hW.y (l := S.1.ch S.1.tn) (fun p9 h9 => hW.y.lt (by omega) h9) (j := j) (by omega)
    refine J_icmp_le (tgt := 101) hx dX7_yardsFor_95 (by decide) (fun c7 => ?_) (fun c7 => ?_)
    · refine J_iinc (v := ((v : Nat) : Int) + 1) (lsn := [vR (r), vI (((p : Nat) : Int)), vI (((j : Nat) : Int)), vR (t), vI (((v : Nat) : Int) + 1)]) hx dX7_yardsFor_101 rfl (jinc1 (by omega) (by omega)) rfl rfl ?_
      refine J_goto (tgt := 54) hx dX7_yardsFor_104 (by decide) ?_
      exact lp_X7_yardsFor hX hW hx hr hp hcp hj hTr hQ (v + 1) M2 hX2 (by omega) _ hYv (fun b hb => ⟨(hlo b hb).1, by rw [hF2.out (by have := hTr.2.2.1; omega)]; exact (hlo b hb).2⟩) (by omega)
    · refine J_iload hx dX7_yardsFor_98 rfl ?_
      refine J_iret hx hr dX7_yardsFor_100 ?_
      exact hQ.to (v := ((v : Nat) : Int)) (S := S) (by
        unfold a_yardsFor
        simp only [Int.toNat_natCast]
        rw [if_neg (by omega), if_neg (by omega), if_neg hcp]
        (repeat' split) <;> first | rfl | (exfalso; omega) | (congr 1; omega)) hX2 (fun b hb => ⟨(hlo b hb).1, by rw [hF2.out (by have := hTr.2.2.1; omega)]; exact (hlo b hb).2⟩)
termination_by 31 - v
decreasing_by all_goals omega

set_option maxHeartbeats 4000000 in
theorem c_X7_yardsFor {g : WG} {d : Nat} {T : TT} {M : MM} {r sz : Nat} {S : ST} {Q : MVal → TT → MM → Nat → Prop} (hX : RX T M r sz S) (hW : WFS S) {p j : Int} (h_p : -2147483648 ≤ p ∧ p ≤ 2147483647) (h_j : -2147483648 ≤ j ∧ j ≤ 2147483647) (hQ : RQX r T M sz Q (a_yardsFor S p j)) : Ct g (d + 5) mX7_yardsFor [vR (r), vI (p), vI (j)] T M sz 29 777 Q := by
  refine Ct_of2 (ls := [vR (r), vI (p), vI (j), vU, vU]) okX7_yardsFor rfl (Nat.le_of_ble_eq_true rfl) rfl ?_
  intro x hx hr hnm
  have hT := hX.t
  have hN := hX.n
  have hn8 := hW.y.n8
  have ht2 := hW.y.tn2
  have hl8 := hW.y.len8 ht2
  refine J_aload_n hx dX7_yardsFor_0 (i := 0) rfl rfl ?_
  refine J_iload_n hx dX7_yardsFor_1 (i := 1) rfl rfl ?_
  refine J_invV (As := [vI (p)]) (st := []) hx lk_X7_109 okX7_isOne dX7_yardsFor_2 hX.t.o (by decide) rfl rfl rfl (Nat.le_of_ble_eq_true rfl) (Nat.zero_add _).symm (Nat.zero_add _).symm rfl (c_X7_isOne hX.t hX.n.y hW.y (one := p) (by omega) ?_)
  intro v1 hv1
  refine J_if_eq (tgt := 20) hx dX7_yardsFor_5 (by decide) (fun c2 => ?_) (fun c2 => ?_)
  · refine J_aload_n hx dX7_yardsFor_20 (i := 0) rfl rfl ?_
    refine J_bipush (v := -2) hx dX7_yardsFor_21 (by decide) ?_
    refine J_invV (As := [vI ((-2))]) (st := []) hx lk_X7_99 okX7_refuse dX7_yardsFor_23 hX.t.o (by decide) rfl rfl rfl (Nat.le_of_ble_eq_true rfl) (Nat.zero_add _).symm (Nat.zero_add _).symm rfl (c_X7_refuseS hT hN hW (k := 0) (by decide) ?_)
    intro M1 hN1 hf1
    refine J_iret hx hr dX7_yardsFor_26 ?_
    exact hQ.to (v := -((0 + 2 : Nat) : Int)) (S := rfS S 0) (by
      unfold a_yardsFor
      all_goals (try unfold overY at *)
      all_goals (try unfold mayQ at *)
      all_goals (try simp only [Int.toNat_natCast] at *)
      all_goals ((repeat' split) <;> first | rfl | (exfalso; omega) | (congr 1; omega))) (hX.rq rfl hN1 hf1) (fun b hb => ⟨rfl, hf1 b (Or.inl hb)⟩)
  · refine J_aload_n hx dX7_yardsFor_8 (i := 0) rfl rfl ?_
    refine J_aload_n hx dX7_yardsFor_9 (i := 0) rfl rfl ?_
    refine J_getI2 (v := ((S.1.tn : Nat) : Int)) hx fl_X7_148 cl_X7 dX7_yardsFor_10 hX.t.o (by decide) rfl (hX.n.y.tn hW.y) ?_
    have rg3 := hW.y.tn2
    refine J_iload_n hx dX7_yardsFor_13 (i := 2) rfl rfl ?_
    refine J_invV (As := [vI (((S.1.tn : Nat) : Int)), vI (j)]) (st := []) hx lk_X7_263 okX7_isJoint dX7_yardsFor_14 hX.t.o (by decide) rfl rfl rfl (Nat.le_of_ble_eq_true rfl) (Nat.zero_add _).symm (Nat.zero_add _).symm rfl (c_X7_isJoint hX.t hX.n.y hW.y (c := S.1.tn) (by omega) (k := j) ?_)
    intro v4 hv4
    refine J_if_ne (tgt := 27) hx dX7_yardsFor_17 (by decide) (fun c5 => ?_) (fun c5 => ?_)
    · obtain ⟨pN, rfl⟩ : ∃ z : Nat, p = ((z : Nat) : Int) := ⟨p.toNat, by omega⟩
      refine J_aload_n hx dX7_yardsFor_27 (i := 0) rfl rfl ?_
      refine J_iload_n hx dX7_yardsFor_28 (i := 1) rfl rfl ?_
      refine J_invV (As := [vI (((pN : Nat) : Int))]) (st := []) hx lk_X7_119 okX7_chainAt dX7_yardsFor_29 hX.t.o (by decide) rfl rfl rfl (Nat.le_of_ble_eq_true rfl) (Nat.zero_add _).symm (Nat.zero_add _).symm rfl (c_X7_chainAt hX.t hX.n.y hW.y (p := pN) (by omega) ?_)
      have rg6 := S.1.co2 pN
      refine J_aload_n hx dX7_yardsFor_32 (i := 0) rfl rfl ?_
      refine J_getI2 (v := ((S.1.tn : Nat) : Int)) hx fl_X7_148 cl_X7 dX7_yardsFor_33 hX.t.o (by decide) rfl (hX.n.y.tn hW.y) ?_
      have rg7 := hW.y.tn2
      refine J_icmp_ne (tgt := 46) hx dX7_yardsFor_36 (by decide) (fun c8 => ?_) (fun c8 => ?_)
      · obtain ⟨jN, rfl⟩ : ∃ z : Nat, j = ((z : Nat) : Int) := ⟨j.toNat, by omega⟩
        refine J_aload_n hx dX7_yardsFor_46 (i := 0) rfl rfl ?_
        refine J_invV (As := []) (st := []) hx lk_X7_250 okX7_fresh dX7_yardsFor_47 hX.t.o (by decide) rfl rfl rfl (Nat.le_of_ble_eq_true rfl) (Nat.add_zero _).symm (Nat.add_zero _).symm rfl (c_X7_fresh hX hW ?_)
        intro T1 M1 sz1 t hX1 hTr hY1 hlo
        refine J_astore_n (lsn := [vR (r), vI (((pN : Nat) : Int)), vI (((jN : Nat) : Int)), vR (t), vU]) hx dX7_yardsFor_50 (i := 3) rfl (Nat.le_of_ble_eq_true rfl) rfl rfl ?_
        refine J_iconst (v := 0) hx dX7_yardsFor_51 (by decide) ?_
        refine J_istore (lsn := [vR (r), vI (((pN : Nat) : Int)), vI (((jN : Nat) : Int)), vR (t), vI (0)]) hx dX7_yardsFor_52 (Nat.le_of_ble_eq_true rfl) rfl rfl ?_
        exact lp_X7_yardsFor hX1 hW hx hr (p := pN) (j := jN) (by omega) (by omega) (by omega) hTr hQ 0 M1 hX1 (by omega) (S.1.sc 1) (by rw [YA.setS_same]; exact hY1) hlo (Or.inl rfl)
      · refine J_aload_n hx dX7_yardsFor_39 (i := 0) rfl rfl ?_
        refine J_bipush (v := -5) hx dX7_yardsFor_40 (by decide) ?_
        refine J_invV (As := [vI ((-5))]) (st := []) hx lk_X7_99 okX7_refuse dX7_yardsFor_42 hX.t.o (by decide) rfl rfl rfl (Nat.le_of_ble_eq_true rfl) (Nat.zero_add _).symm (Nat.zero_add _).symm rfl (c_X7_refuseS hT hN hW (k := 3) (by decide) ?_)
        intro M1 hN1 hf1
        refine J_iret hx hr dX7_yardsFor_45 ?_
        exact hQ.to (v := -((3 + 2 : Nat) : Int)) (S := rfS S 3) (by
          unfold a_yardsFor
          all_goals (try unfold overY at *)
          all_goals (try unfold mayQ at *)
          all_goals (try simp only [Int.toNat_natCast] at *)
          all_goals ((repeat' split) <;> first | rfl | (exfalso; omega) | (congr 1; omega))) (hX.rq rfl hN1 hf1) (fun b hb => ⟨rfl, hf1 b (Or.inl hb)⟩)
    · refine J_aload_n hx dX7_yardsFor_20 (i := 0) rfl rfl ?_
      refine J_bipush (v := -2) hx dX7_yardsFor_21 (by decide) ?_
      refine J_invV (As := [vI ((-2))]) (st := []) hx lk_X7_99 okX7_refuse dX7_yardsFor_23 hX.t.o (by decide) rfl rfl rfl (Nat.le_of_ble_eq_true rfl) (Nat.zero_add _).symm (Nat.zero_add _).symm rfl (c_X7_refuseS hT hN hW (k := 0) (by decide) ?_)
      intro M1 hN1 hf1
      refine J_iret hx hr dX7_yardsFor_26 ?_
      exact hQ.to (v := -((0 + 2 : Nat) : Int)) (S := rfS S 0) (by
        unfold a_yardsFor
        all_goals (try unfold overY at *)
        all_goals (try unfold mayQ at *)
        all_goals (try simp only [Int.toNat_natCast] at *)
        all_goals ((repeat' split) <;> first | rfl | (exfalso; omega) | (congr 1; omega))) (hX.rq rfl hN1 hf1) (fun b hb => ⟨rfl, hf1 b (Or.inl hb)⟩)

