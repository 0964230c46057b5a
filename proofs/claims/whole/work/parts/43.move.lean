def movY (A : YA) (p k : Nat) : YA := A.setC (A.co p) (insAt (lv_ (A.ch (A.co p)) p) k p)
theorem insAt_perm (l : List Nat) (k p : Nat) : (insAt l k p).Perm (p :: l) := by
  unfold insAt
  refine List.perm_middle.trans ?_
  rw [List.take_append_drop]
theorem lv_perm : ∀ {l : List Nat} {p : Nat}, l.Nodup → p ∈ l → (p :: lv_ l p).Perm l
  | [], _, _, h => by cases h
  | a :: l, p, hn, h => by
    obtain ⟨h1, h2⟩ := List.nodup_cons.mp hn
    by_cases e : a = p
    · subst e
      have e2 : lv_ (a :: l) a = l := by
        unfold lv_
        rw [List.filter_cons_of_neg (by simp)]
        exact List.filter_eq_self.mpr (fun q hq => decide_eq_true (fun e => h1 (e ▸ hq)))
      rw [e2]
    · have hm : p ∈ l := (List.mem_cons.mp h).resolve_left (fun q => e q.symm)
      have e2 : lv_ (a :: l) p = a :: lv_ l p := by
        unfold lv_
        rw [List.filter_cons_of_pos (by simpa using e)]
      rw [e2]
      exact (List.Perm.swap a p _).trans ((lv_perm h2 hm).cons a)
theorem movL_perm {A : YA} (h : WFY A) {p : Nat} (hp : p < A.n) (k : Nat) : (insAt (lv_ (A.ch (A.co p)) p) k p).Perm (A.ch (A.co p)) := (insAt_perm _ _ _).trans (lv_perm (h.2.2.2.1 _ (A.co2 p)) (h.mco hp))
theorem movY_wf {A : YA} (h : WFY A) {p : Nat} (hp : p < A.n) (k : Nat) : WFY (movY A p k) := h.perm (A.co2 p) (movL_perm h hp k)
theorem ins_lv {l : List Nat} {p : Nat} (hn : l.Nodup) (hp : p ∈ l) : insAt (lv_ l p) (l.idxOf p) p = l := by
  have hi : l.idxOf p < l.length := List.idxOf_lt_length_iff.mpr hp
  have h1 := lv_len1 hn hp
  refine getD_ext (by rw [insAt_len (by omega)]; exact h1) (fun j hj => ?_)
  rw [insAt_getD (by omega), ← erI_lv hn hp, erI_getD, erI_getD]
  by_cases e1 : j < l.idxOf p
  · rw [if_pos e1, if_pos e1]
  · rw [if_neg e1]
    by_cases e2 : j = l.idxOf p
    · rw [if_pos e2, e2, getD_idxOf hp]
    · rw [if_neg e2, if_neg (by omega), Nat.sub_add_cancel (by omega)]
theorem swp_insU {L : List Nat} {k p : Nat} (hk : k < L.length) : swpL (insAt L k p) k = insAt L (k + 1) p := by
  refine getD_ext (by rw [swpL_len, insAt_len (by omega), insAt_len (by omega)]) (fun j hj => ?_)
  rw [swpL_getD (by rw [insAt_len (by omega)]; omega), insAt_getD (by omega), insAt_getD (by omega), insAt_getD (by omega), insAt_getD (by omega)]
  by_cases e1 : j = k
  · subst e1; rw [if_pos rfl, if_neg (by omega), if_neg (by omega), if_pos (by omega)]; rfl
  · rw [if_neg e1]
    by_cases e2 : j = k + 1
    · subst e2; rw [if_pos rfl, if_neg (by omega), if_pos rfl, if_neg (by omega), if_pos rfl]
    · rw [if_neg e2]
      by_cases e3 : j < k
      · rw [if_pos e3, if_pos (by omega)]
      · rw [if_neg e3, if_neg e1, if_neg (by omega), if_neg e2]
theorem swp_insD {L : List Nat} {k p : Nat} (hk : k < L.length) : swpL (insAt L (k + 1) p) k = insAt L k p := by
  rw [← swp_insU hk, swpL2 (by rw [insAt_len (by omega)]; omega)]
theorem swp_step {A : YA} {c : Nat} {l l2 : List Nat} {k : Nat} (h : swpL l k = l2) : (A.setC c l).setC c (swpL ((A.setC c l).ch c) k) = A.setC c l2 := by
  rw [YA.ch_same, h, YA.setC2]
def a_move (S : ST) (p k : Int) : Int × ST := if ¬ (0 ≤ p ∧ p < S.1.n) then rA S 0 else if ¬ (0 ≤ k ∧ k < (S.1.ch (S.1.co p.toNat)).length) then rA S 0 else (((plcY S.1 p.toNat : Nat) : Int), yS S (movY S.1 p.toNat k.toNat))
set_option maxHeartbeats 4000000 in
theorem c_X6_move {g : WG} {d : Nat} {T : TT} {M : MM} {o sz : Nat} {S : ST} {Q : MVal → TT → MM → Nat → Prop} (hC : CT T o) (hN : CN M o S) (hW : WFS S) {p k : Int} (h_p : -2147483648 ≤ p ∧ p ≤ 2147483647) (h_k : -2147483648 ≤ k ∧ k ≤ 2147483647) (hQ : CQ o T M sz Q (a_move S p k)) : Ct g (d + 2) mX6_move [vR (o), vI (p), vI (k)] T M sz 0 0 Q := by
  refine Ct_of2 (ls := [vR (o), vI (p), vI (k), vU, vU]) okX6_move rfl (Nat.le_of_ble_eq_true rfl) rfl ?_
  intro x hx hr hnm
  have hn8 := hW.y.n8
  refine J_aload_n hx dX6_move_0 (i := 0) rfl rfl ?_
  refine J_getR (b := o + 1) hx fl_X6_10 cl_X6 dX6_move_1 hC.o (by decide) rfl hC.r0 ?_
  refine J_iload_n hx dX6_move_4 (i := 1) rfl rfl ?_
  refine J_invV (As := [vI (p)]) (st := []) hx lk_X6_111 okX5_has dX6_move_5 hC.y0.o (by decide) rfl rfl rfl (Nat.le_of_ble_eq_true rfl) (Nat.zero_add _).symm (Nat.zero_add _).symm rfl (c_X5_has hC.y0 hN.y hW.y (one := p) ?_)
  intro v1 hv1
  refine J_if_eq (tgt := 31) hx dX6_move_8 (by decide) (fun c2 => ?_) (fun c2 => ?_)
  · refine J_aload_n hx dX6_move_31 (i := 0) rfl rfl ?_
    refine J_bipush (v := -2) hx dX6_move_32 (by decide) ?_
    refine J_invV (As := [vI ((-2))]) (st := []) hx lk_X6_67 okX6_refuse dX6_move_34 hC.o (by decide) rfl rfl rfl (Nat.le_of_ble_eq_true rfl) (Nat.zero_add _).symm (Nat.zero_add _).symm rfl (c_X6_refuse hC hN hW (k := 0) (by decide) ?_)
    intro M1 hN1 hf1
    refine J_iret hx hr dX6_move_37 ?_
    exact hQ.to (v := -((0 + 2 : Nat) : Int)) (S := rfS S 0) (by
      unfold a_move
      all_goals (try unfold overY at *)
      all_goals (try unfold mayQ at *)
      all_goals (try simp only [Int.toNat_natCast] at *)
      all_goals ((repeat' split) <;> first | rfl | (exfalso; omega) | (congr 1; omega))) hC hN1 hf1
  · obtain ⟨pN, rfl⟩ : ∃ z : Nat, p = ((z : Nat) : Int) := ⟨p.toNat, by omega⟩
    refine J_aload_n hx dX6_move_11 (i := 0) rfl rfl ?_
    refine J_getR (b := o + 1) hx fl_X6_10 cl_X6 dX6_move_12 hC.o (by decide) rfl hC.r0 ?_
    refine J_aload_n hx dX6_move_15 (i := 0) rfl rfl ?_
    refine J_getR (b := o + 1) hx fl_X6_10 cl_X6 dX6_move_16 hC.o (by decide) rfl hC.r0 ?_
    refine J_getR (b := o + 1 + 6) hx fl_X6_120 cl_X5 dX6_move_19 hC.y0.o (by decide) rfl hC.y0.r5 ?_
    refine J_iload_n hx dX6_move_22 (i := 1) rfl rfl ?_
    refine J_iald2 (v := ((S.1.co pN : Nat) : Int)) hx pN dX6_move_23 hC.y0.k6 (by omega) (hC.y0.l6 (by omega)) (hN.y.hm (by omega)) ?_
    have rg3 := S.1.co2 pN
    refine J_iload_n hx dX6_move_24 (i := 2) rfl rfl ?_
    refine J_invV (As := [vI (((S.1.co pN : Nat) : Int)), vI (k)]) (st := []) hx lk_X6_196 okX5_hasPlace dX6_move_25 hC.y0.o (by decide) rfl rfl rfl (Nat.le_of_ble_eq_true rfl) (Nat.zero_add _).symm (Nat.zero_add _).symm rfl (c_X5_hasPlace hC.y0 hN.y hW.y (c := S.1.co pN) (by omega) (k := k) ?_)
    intro v4 hv4
    refine J_if_ne (tgt := 38) hx dX6_move_28 (by decide) (fun c5 => ?_) (fun c5 => ?_)
    · obtain ⟨kN, rfl⟩ : ∃ z : Nat, k = ((z : Nat) : Int) := ⟨k.toNat, by omega⟩
      refine J_aload_n hx dX6_move_38 (i := 0) rfl rfl ?_
      refine J_getR (b := o + 1) hx fl_X6_10 cl_X6 dX6_move_39 hC.o (by decide) rfl hC.r0 ?_
      refine J_iload_n hx dX6_move_42 (i := 1) rfl rfl ?_
      refine J_invV (As := [vI (((pN : Nat) : Int))]) (st := []) hx lk_X6_193 okX5_placeOf dX6_move_43 hC.y0.o (by decide) rfl rfl rfl (Nat.le_of_ble_eq_true rfl) (Nat.zero_add _).symm (Nat.zero_add _).symm rfl (c_X5_placeOf hC.y0 hN.y hW.y (p := pN) (by omega) ?_)
      refine J_istore_n (lsn := [vR (o), vI (((pN : Nat) : Int)), vI (((kN : Nat) : Int)), vI (((plcY S.1 pN : Nat) : Int)), vU]) hx dX6_move_46 (i := 3) rfl (Nat.le_of_ble_eq_true rfl) rfl rfl ?_
      refine J_aload_n hx dX6_move_47 (i := 0) rfl rfl ?_
      refine J_getR (b := o + 1) hx fl_X6_10 cl_X6 dX6_move_48 hC.o (by decide) rfl hC.r0 ?_
      refine J_getR (b := o + 1 + 6) hx fl_X6_120 cl_X5 dX6_move_51 hC.y0.o (by decide) rfl hC.y0.r5 ?_
      refine J_iload_n hx dX6_move_54 (i := 1) rfl rfl ?_
      refine J_iald2 (v := ((S.1.co pN : Nat) : Int)) hx pN dX6_move_55 hC.y0.k6 (by omega) (hC.y0.l6 (by omega)) (hN.y.hm (by omega)) ?_
      have rg6 := S.1.co2 pN
      refine J_istore (lsn := [vR (o), vI (((pN : Nat) : Int)), vI (((kN : Nat) : Int)), vI (((plcY S.1 pN : Nat) : Int)), vI (((S.1.co pN : Nat) : Int))]) hx dX6_move_56 (Nat.le_of_ble_eq_true rfl) rfl rfl ?_
      refine J_aload_n hx dX6_move_58 (i := 0) rfl rfl ?_
      refine J_getR (b := o + 1) hx fl_X6_10 cl_X6 dX6_move_59 hC.o (by decide) rfl hC.r0 ?_
      refine J_iload_n hx dX6_move_62 (i := 1) rfl rfl ?_
      refine J_invVv (As := [vI (((pN : Nat) : Int))]) (st := []) hx lk_X6_264 okX5_leave dX6_move_63 hC.y0.o (by decide) rfl rfl rfl (Nat.le_of_ble_eq_true rfl) (Nat.zero_add _).symm (Nat.zero_add _).symm rfl (c_X5_leave hC.y0 (hN.y.toP hW.y) hW.y.b8 (c := S.1.co pN) (S.1.co2 pN) (hW.y.mco (by omega)) ?_)
      intro M1 hP1 hF1
      have hll := lv_len1 (hW.y.2.2.2.1 _ (S.1.co2 pN)) (hW.y.mco (p := pN) (by omega))
      have hl8 := hW.y.len8 (S.1.co2 pN)
      refine J_aload_n hx dX6_move_66 (i := 0) rfl rfl ?_
      refine J_getR (b := o + 1) hx fl_X6_10 cl_X6 dX6_move_67 hC.o (by decide) rfl hC.r0 ?_
      refine J_iload_n hx dX6_move_70 (i := 1) rfl rfl ?_
      refine J_iload hx dX6_move_71 rfl ?_
      refine J_iload_n hx dX6_move_73 (i := 2) rfl rfl ?_
      refine J_invVv (As := [vI (((pN : Nat) : Int)), vI (((S.1.co pN : Nat) : Int)), vI (((kN : Nat) : Int))]) (st := []) hx lk_X6_268 okX5_enter dX6_move_74 hC.y0.o (by decide) rfl rfl rfl (Nat.le_of_ble_eq_true rfl) (Nat.zero_add _).symm (Nat.zero_add _).symm rfl (c_X5_enter hC.y0 hP1 (hW.y.b8.setC (by omega) (fun q9 h9 => hW.y.lt (S.1.co2 pN) (lv_mem.mp h9).1)) (c := S.1.co pN) (p := pN) (k := kN) (S.1.co2 pN) (by rw [YA.ch_same]; omega) (by rw [YA.ch_same]; omega) (show pN < S.1.n by omega) (fun c9 h9 hm => by
          by_cases e : c9 = S.1.co pN
          · subst e; rw [YA.ch_same] at hm; exact (lv_mem.mp hm).2 rfl
          · rw [YA.ch_ne _ _ e] at hm; exact e (hW.y.co h9 hm).symm) ?_)
      intro M2 hP2 hF2
      rw [YA.ch_same, YA.setC2] at hP2
      refine J_iload_n hx dX6_move_77 (i := 3) rfl rfl ?_
      refine J_iret hx hr dX6_move_78 ?_
      exact hQ.to (v := ((plcY S.1 pN : Nat) : Int)) (S := yS S (movY S.1 pN kN)) (by
        unfold a_move
        all_goals (try unfold overY at *)
        all_goals (try unfold mayQ at *)
        all_goals (try simp only [Int.toNat_natCast] at *)
        all_goals ((repeat' split) <;> first | rfl | (exfalso; omega) | (congr 1; omega))) hC (hN.yard (hP2.toN (movY_wf hW.y (by omega) kN)) (hF1.tr hF2)) (fun b hb => (hF1.tr hF2) b (by omega))
    · refine J_aload_n hx dX6_move_31 (i := 0) rfl rfl ?_
      refine J_bipush (v := -2) hx dX6_move_32 (by decide) ?_
      refine J_invV (As := [vI ((-2))]) (st := []) hx lk_X6_67 okX6_refuse dX6_move_34 hC.o (by decide) rfl rfl rfl (Nat.le_of_ble_eq_true rfl) (Nat.zero_add _).symm (Nat.zero_add _).symm rfl (c_X6_refuse hC hN hW (k := 0) (by decide) ?_)
      intro M1 hN1 hf1
      refine J_iret hx hr dX6_move_37 ?_
      exact hQ.to (v := -((0 + 2 : Nat) : Int)) (S := rfS S 0) (by
        unfold a_move
        all_goals (try unfold overY at *)
        all_goals (try unfold mayQ at *)
        all_goals (try simp only [Int.toNat_natCast] at *)
        all_goals ((repeat' split) <;> first | rfl | (exfalso; omega) | (congr 1; omega))) hC hN1 hf1

set_option maxHeartbeats 4000000 in
theorem lp2_X7_move {g : WG} {d : Nat} {T : TT} {M : MM} {r sz : Nat} {S : ST} {Q : MVal → TT → MM → Nat → Prop} (hT : MT T r) (hN : RN M r S) (hW : WFS S) {x : CX} (hx : OKx g x RX7 cX7_move (d + 3)) (hr : RTx g x (some .int) Q) {p k : Nat} (hp : p < S.1.n) (hk : k < (S.1.ch (S.1.co p)).length) (hQ : RQ r T M sz Q (a_move S ((p : Nat) : Int) ((k : Nat) : Int))) (j : Nat) (M1 : MM) (hjw : j ≤ plcY S.1 p) (hF1 : FrN r M M1) (hj : (k ≤ j ∧ MN M1 r (S.1.setC (S.1.co p) (insAt (lv_ (S.1.ch (S.1.co p)) p) j p))) ∨ (j ≤ k ∧ MN M1 r (S.1.setC (S.1.co p) (insAt (lv_ (S.1.ch (S.1.co p)) p) k p)))) : Jd g x 80 [vR (r), vI (((p : Nat) : Int)), vI (((k : Nat) : Int)), vI (((S.1.co p : Nat) : Int)), vI (((plcY S.1 p : Nat) : Int)), vI (((j : Nat) : Int))] [] T M1 sz 0 0 := by
  have hll := lv_len1 (hW.y.2.2.2.1 _ (S.1.co2 p)) (hW.y.mco (p := p) hp)
  have hl8 := hW.y.len8 (S.1.co2 p)
  have hpl := plcY_lt hW.y hp
  have hc2 := S.1.co2 p
  refine J_iload hx dX7_move_80 rfl ?_
  refine J_iload_n hx dX7_move_82 (i := 2) rfl rfl ?_
  refine J_icmp_le (tgt := 101) hx dX7_move_83 (by decide) (fun c1 => ?_) (fun c1 => ?_)
  · refine J_iload hx dX7_move_101 rfl ?_
    refine J_iret hx hr dX7_move_103 ?_
    have hY : MN M1 r (movY S.1 p k) := by
      rcases hj with ⟨h8, h9⟩ | ⟨h8, h9⟩
      · have e9 : j = k := by omega
        subst e9; exact h9
      · exact h9
    exact hQ.to (v := ((plcY S.1 p : Nat) : Int)) (S := yS S (movY S.1 p k)) (by
      unfold a_move
      all_goals (try unfold overY at *)
      all_goals (try unfold mayQ at *)
      all_goals (try simp only [Int.toNat_natCast] at *)
      all_goals ((repeat' split) <;> first | rfl | (exfalso; omega) | (congr 1; omega))) (hN.yard hY hF1) (fun b hb => hF1.out (by omega))
  · refine J_aload_n hx dX7_move_86 (i := 0) rfl rfl ?_
    refine J_iload_n hx dX7_move_87 (i := 3) rfl rfl ?_
    refine J_iload hx dX7_move_88 rfl ?_
    refine J_iconst (v := 1) hx dX7_move_90 (by decide) ?_
    refine J_isub (v := ((j - 1 : Nat) : Int)) hx dX7_move_91 (by rw [w32_id (by omega) (by omega)]; omega) ?_
    refine J_invVv (As := [vI (((S.1.co p : Nat) : Int)), vI (((j - 1 : Nat) : Int))]) (st := []) hx lk_X7_321 okX7_changes dX7_move_92 hT.o (by decide) rfl rfl rfl (Nat.le_of_ble_eq_true rfl) (Nat.zero_add _).symm (Nat.zero_add _).symm rfl (c_X7_changes hT (show MN M1 r (S.1.setC (S.1.co p) (insAt (lv_ (S.1.ch (S.1.co p)) p) j p)) by rcases hj with ⟨_, h9⟩ | ⟨h8, h9⟩; exact h9; exfalso; omega) (c := S.1.co p) hc2 (k := j - 1) (by rw [YA.ch_same, insAt_len (by omega)]; omega) (by rw [YA.ch_same, insAt_len (by omega)]; omega) ?_)
    intro M2 hY2 hF2
    rw [swp_step (l2 := insAt (lv_ (S.1.ch (S.1.co p)) p) (j - 1) p) (by have h9 := swp_insD (L := (lv_ (S.1.ch (S.1.co p)) p)) (k := j - 1) (p := p) (by omega); rw [Nat.sub_add_cancel (by omega)] at h9; exact h9)] at hY2
    refine J_iinc (v := ((j - 1 : Nat) : Int)) (lsn := [vR (r), vI (((p : Nat) : Int)), vI (((k : Nat) : Int)), vI (((S.1.co p : Nat) : Int)), vI (((plcY S.1 p : Nat) : Int)), vI (((j - 1 : Nat) : Int))]) hx dX7_move_95 rfl (by rw [jincm1 (by omega) (by omega)]; omega) rfl rfl ?_
    refine J_goto (tgt := 80) hx dX7_move_98 (by decide) ?_
    exact lp2_X7_move hT hN hW hx hr hp hk hQ (j - 1) M2 (by omega) (hF1.tr hF2) (Or.inl ⟨by omega, hY2⟩)
termination_by j
decreasing_by all_goals omega

set_option maxHeartbeats 4000000 in
theorem lp_X7_move {g : WG} {d : Nat} {T : TT} {M : MM} {r sz : Nat} {S : ST} {Q : MVal → TT → MM → Nat → Prop} (hT : MT T r) (hN : RN M r S) (hW : WFS S) {x : CX} (hx : OKx g x RX7 cX7_move (d + 3)) (hr : RTx g x (some .int) Q) {p k : Nat} (hp : p < S.1.n) (hk : k < (S.1.ch (S.1.co p)).length) (hQ : RQ r T M sz Q (a_move S ((p : Nat) : Int) ((k : Nat) : Int))) (j : Nat) (M1 : MM) (hjw : plcY S.1 p ≤ j) (hj : j < (S.1.ch (S.1.co p)).length) (hjk : j = plcY S.1 p ∨ j ≤ k) (hF1 : FrN r M M1) (hY1 : MN M1 r (S.1.setC (S.1.co p) (insAt (lv_ (S.1.ch (S.1.co p)) p) j p))) : Jd g x 57 [vR (r), vI (((p : Nat) : Int)), vI (((k : Nat) : Int)), vI (((S.1.co p : Nat) : Int)), vI (((plcY S.1 p : Nat) : Int)), vI (((j : Nat) : Int))] [] T M1 sz 0 0 := by
  have hll := lv_len1 (hW.y.2.2.2.1 _ (S.1.co2 p)) (hW.y.mco (p := p) hp)
  have hl8 := hW.y.len8 (S.1.co2 p)
  have hpl := plcY_lt hW.y hp
  have hc2 := S.1.co2 p
  refine J_iload hx dX7_move_57 rfl ?_
  refine J_iload_n hx dX7_move_59 (i := 2) rfl rfl ?_
  refine J_icmp_ge (tgt := 76) hx dX7_move_60 (by decide) (fun c1 => ?_) (fun c1 => ?_)
  · refine J_iload hx dX7_move_76 rfl ?_
    refine J_istore (lsn := [vR (r), vI (((p : Nat) : Int)), vI (((k : Nat) : Int)), vI (((S.1.co p : Nat) : Int)), vI (((plcY S.1 p : Nat) : Int)), vI (((plcY S.1 p : Nat) : Int))]) hx dX7_move_78 (Nat.le_of_ble_eq_true rfl) rfl rfl ?_
    exact lp2_X7_move hT hN hW hx hr hp hk hQ (plcY S.1 p) M1 (Nat.le_refl _) hF1 (by
      rcases hjk with e9 | e9
      · subst e9; exact Or.inl ⟨by omega, hY1⟩
      · have e8 : j = k := by omega
        subst e8; exact Or.inr ⟨by omega, hY1⟩)
  · refine J_aload_n hx dX7_move_63 (i := 0) rfl rfl ?_
    refine J_iload_n hx dX7_move_64 (i := 3) rfl rfl ?_
    refine J_iload hx dX7_move_65 rfl ?_
    refine J_invVv (As := [vI (((S.1.co p : Nat) : Int)), vI (((j : Nat) : Int))]) (st := []) hx lk_X7_321 okX7_changes dX7_move_67 hT.o (by decide) rfl rfl rfl (Nat.le_of_ble_eq_true rfl) (Nat.zero_add _).symm (Nat.zero_add _).symm rfl (c_X7_changes hT hY1 (c := S.1.co p) hc2 (k := j) (by rw [YA.ch_same, insAt_len (by omega)]; omega) (by rw [YA.ch_same, insAt_len (by omega)]; omega) ?_)
    intro M2 hY2 hF2
    rw [swp_step (l2 := insAt (lv_ (S.1.ch (S.1.co p)) p) (j + 1) p) (swp_insU (by omega))] at hY2
    refine J_iinc (v := ((j : Nat) : Int) + 1) (lsn := [vR (r), vI (((p : Nat) : Int)), vI (((k : Nat) : Int)), vI (((S.1.co p : Nat) : Int)), vI (((plcY S.1 p : Nat) : Int)), vI (((j : Nat) : Int) + 1)]) hx dX7_move_70 rfl (jinc1 (by omega) (by omega)) rfl rfl ?_
    refine J_goto (tgt := 57) hx dX7_move_73 (by decide) ?_
    exact lp_X7_move hT hN hW hx hr hp hk hQ (j + 1) M2 (by omega) (by omega) (by omega) (hF1.tr hF2) hY2
termination_by k - j
decreasing_by all_goals omega

set_option maxHeartbeats 4000000 in
theorem c_X7_move {g : WG} {d : Nat} {T : TT} {M : MM} {r sz : Nat} {S : ST} {Q : MVal → TT → MM → Nat → Prop} (hT : MT T r) (hN : RN M r S) (hW : WFS S) {p k : Int} (h_p : -2147483648 ≤ p ∧ p ≤ 2147483647) (h_k : -2147483648 ≤ k ∧ k ≤ 2147483647) (hQ : RQ r T M sz Q (a_move S p k)) : Ct g (d + 3) mX7_move [vR (r), vI (p), vI (k)] T M sz 0 0 Q := by
  refine Ct_of2 (ls := [vR (r), vI (p), vI (k), vU, vU, vU]) okX7_move rfl (Nat.le_of_ble_eq_true rfl) rfl ?_
  intro x hx hr hnm
  have hn8 := hW.y.n8
  refine J_aload_n hx dX7_move_0 (i := 0) rfl rfl ?_
  refine J_iload_n hx dX7_move_1 (i := 1) rfl rfl ?_
  refine J_invV (As := [vI (p)]) (st := []) hx lk_X7_109 okX7_isOne dX7_move_2 hT.o (by decide) rfl rfl rfl (Nat.le_of_ble_eq_true rfl) (Nat.zero_add _).symm (Nat.zero_add _).symm rfl (c_X7_isOne hT hN.y hW.y (one := p) (by omega) ?_)
  intro v1 hv1
  refine J_if_eq (tgt := 30) hx dX7_move_5 (by decide) (fun c2 => ?_) (fun c2 => ?_)
  · refine J_aload_n hx dX7_move_30 (i := 0) rfl rfl ?_
    refine J_bipush (v := -2) hx dX7_move_31 (by decide) ?_
    refine J_invV (As := [vI ((-2))]) (st := []) hx lk_X7_99 okX7_refuse dX7_move_33 hT.o (by decide) rfl rfl rfl (Nat.le_of_ble_eq_true rfl) (Nat.zero_add _).symm (Nat.zero_add _).symm rfl (c_X7_refuseS hT hN hW (k := 0) (by decide) ?_)
    intro M1 hN1 hf1
    refine J_iret hx hr dX7_move_36 ?_
    exact hQ.to (v := -((0 + 2 : Nat) : Int)) (S := rfS S 0) (by
      unfold a_move
      all_goals (try unfold overY at *)
      all_goals (try unfold mayQ at *)
      all_goals (try simp only [Int.toNat_natCast] at *)
      all_goals ((repeat' split) <;> first | rfl | (exfalso; omega) | (congr 1; omega))) hN1 hf1
  · obtain ⟨pN, rfl⟩ : ∃ z : Nat, p = ((z : Nat) : Int) := ⟨p.toNat, by omega⟩
    refine J_iload_n hx dX7_move_8 (i := 2) rfl rfl ?_
    refine J_i2l hx dX7_move_9 ?_
    refine J_lconst (v := 0) hx dX7_move_10 (by decide) ?_
    refine J_aload_n hx dX7_move_11 (i := 0) rfl rfl ?_
    refine J_getR (b := r + 25) hx fl_X7_57 cl_X7 dX7_move_12 hT.o (by decide) rfl hT.r16 ?_
    refine J_aload_n hx dX7_move_15 (i := 0) rfl rfl ?_
    refine J_iload_n hx dX7_move_16 (i := 1) rfl rfl ?_
    refine J_invV (As := [vI (((pN : Nat) : Int))]) (st := [vR (r + 25), vL (0), vL (k)]) hx lk_X7_119 okX7_chainAt dX7_move_17 hT.o (by decide) rfl rfl rfl (Nat.le_of_ble_eq_true rfl) (Nat.zero_add _).symm (Nat.zero_add _).symm rfl (c_X7_chainAt hT hN.y hW.y (p := pN) (by omega) ?_)
    have rg3 := S.1.co2 pN
    refine J_iald2 (v := (((S.1.ch (S.1.co pN)).length : Nat) : Int)) hx (S.1.co pN) dX7_move_20 hT.k25 (by omega) (hT.l25 (by omega)) (hN.y.sz (by omega)) ?_
    have rg4 := hW.y.len8 (c := S.1.co pN) (by omega)
    have rg5 := hW.y.lenN (c := S.1.co pN) (by omega)
    refine J_iconst (v := 1) hx dX7_move_21 (by decide) ?_
    refine J_isub (v := (((S.1.ch (S.1.co pN)).length : Nat) : Int) - 1) hx dX7_move_22 (w32_id (by omega) (by omega)) ?_
    refine J_i2l hx dX7_move_23 ?_
    refine J_invS (As := [vL (k), vL (0), vL ((((S.1.ch (S.1.co pN)).length : Nat) : Int) - 1)]) (st := []) hx lk_X7_85 okX7_in dX7_move_24 rfl rfl (Nat.le_of_ble_eq_true rfl) (Nat.zero_add _).symm (Nat.zero_add _).symm rfl (c_X7_in (a := k) (lo := 0) (hi := (((S.1.ch (S.1.co pN)).length : Nat) : Int) - 1) ?_)
    intro v6 hv6
    refine J_if_ne (tgt := 37) hx dX7_move_27 (by decide) (fun c7 => ?_) (fun c7 => ?_)
    · obtain ⟨kN, rfl⟩ : ∃ z : Nat, k = ((z : Nat) : Int) := ⟨k.toNat, by omega⟩
      refine J_aload_n hx dX7_move_37 (i := 0) rfl rfl ?_
      refine J_iload_n hx dX7_move_38 (i := 1) rfl rfl ?_
      refine J_invV (As := [vI (((pN : Nat) : Int))]) (st := []) hx lk_X7_119 okX7_chainAt dX7_move_39 hT.o (by decide) rfl rfl rfl (Nat.le_of_ble_eq_true rfl) (Nat.zero_add _).symm (Nat.zero_add _).symm rfl (c_X7_chainAt hT hN.y hW.y (p := pN) (by omega) ?_)
      have rg8 := S.1.co2 pN
      refine J_istore_n (lsn := [vR (r), vI (((pN : Nat) : Int)), vI (((kN : Nat) : Int)), vI (((S.1.co pN : Nat) : Int)), vU, vU]) hx dX7_move_42 (i := 3) rfl (Nat.le_of_ble_eq_true rfl) rfl rfl ?_
      refine J_aload_n hx dX7_move_43 (i := 0) rfl rfl ?_
      refine J_iload_n hx dX7_move_44 (i := 1) rfl rfl ?_
      refine J_invV (As := [vI (((pN : Nat) : Int))]) (st := []) hx lk_X7_89 okX7_placeOf dX7_move_45 hT.o (by decide) rfl rfl rfl (Nat.le_of_ble_eq_true rfl) (Nat.zero_add _).symm (Nat.zero_add _).symm rfl (c_X7_placeOf hT hN.y hW.y (p := pN) (by omega) ?_)
      have rg9 := S.1.co2 pN
      have rg10 := plcY_lt hW.y (p := pN) (by omega)
      have rg11 := hW.y.len8 (c := S.1.co pN) (by omega)
      refine J_bipush (v := 10) hx dX7_move_48 (by decide) ?_
      refine J_irem (v := ((plcY S.1 pN : Nat) : Int)) hx dX7_move_50 (by omega) (by rw [jrem (by omega) (by omega)]; omega) ?_
      refine J_istore (lsn := [vR (r), vI (((pN : Nat) : Int)), vI (((kN : Nat) : Int)), vI (((S.1.co pN : Nat) : Int)), vI (((plcY S.1 pN : Nat) : Int)), vU]) hx dX7_move_51 (Nat.le_of_ble_eq_true rfl) rfl rfl ?_
      refine J_iload hx dX7_move_53 rfl ?_
      refine J_istore (lsn := [vR (r), vI (((pN : Nat) : Int)), vI (((kN : Nat) : Int)), vI (((S.1.co pN : Nat) : Int)), vI (((plcY S.1 pN : Nat) : Int)), vI (((plcY S.1 pN : Nat) : Int))]) hx dX7_move_55 (Nat.le_of_ble_eq_true rfl) rfl rfl ?_
      exact lp_X7_move hT hN hW hx hr (p := pN) (k := kN) (by omega) (by omega) hQ (plcY S.1 pN) M (Nat.le_refl _) (plcY_lt hW.y (by omega)) (Or.inl rfl) FrN.rf (by rw [show plcY S.1 pN = (S.1.ch (S.1.co pN)).idxOf pN from rfl, ins_lv (hW.y.2.2.2.1 _ (S.1.co2 pN)) (hW.y.mco (by omega)), YA.setC_id]; exact hN.y)
    · refine J_aload_n hx dX7_move_30 (i := 0) rfl rfl ?_
      refine J_bipush (v := -2) hx dX7_move_31 (by decide) ?_
      refine J_invV (As := [vI ((-2))]) (st := []) hx lk_X7_99 okX7_refuse dX7_move_33 hT.o (by decide) rfl rfl rfl (Nat.le_of_ble_eq_true rfl) (Nat.zero_add _).symm (Nat.zero_add _).symm rfl (c_X7_refuseS hT hN hW (k := 0) (by decide) ?_)
      intro M1 hN1 hf1
      refine J_iret hx hr dX7_move_36 ?_
      exact hQ.to (v := -((0 + 2 : Nat) : Int)) (S := rfS S 0) (by
        unfold a_move
        all_goals (try unfold overY at *)
        all_goals (try unfold mayQ at *)
        all_goals (try simp only [Int.toNat_natCast] at *)
        all_goals ((repeat' split) <;> first | rfl | (exfalso; omega) | (congr 1; omega))) hN1 hf1

