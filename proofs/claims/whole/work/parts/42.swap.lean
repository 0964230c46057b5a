theorem YA.setC2 (A : YA) (c : Nat) (l l2 : List Nat) : (A.setC c l).setC c l2 = A.setC c l2 := by
  show (A.n, A.att, (fun c' => if c' = c then l2 else if c' = c then l else A.ch c'), A.sc) = (A.n, A.att, (fun c' => if c' = c then l2 else A.ch c'), A.sc)
  congr 3
  funext c'
  by_cases e : c' = c
  · rw [if_pos e, if_pos e]
  · rw [if_neg e, if_neg e, if_neg e]
theorem YA.setC_id (A : YA) (c : Nat) : A.setC c (A.ch c) = A := by
  obtain ⟨n, at_, ch, sc⟩ := A
  show (n, at_, (fun c' => if c' = c then ch c else ch c'), sc) = (n, at_, ch, sc)
  congr 3
  funext c'
  by_cases e : c' = c
  · rw [if_pos e, e]
  · rw [if_neg e]
theorem getD_ext {l1 l2 : List Nat} (h : l1.length = l2.length) (h2 : ∀ j, j < l1.length → l1.getD j 0 = l2.getD j 0) : l1 = l2 := by
  apply List.ext_getElem h
  intro i h3 h4
  have := h2 i h3
  rw [List.getD_eq_getElem?_getD, List.getD_eq_getElem?_getD, List.getElem?_eq_getElem h3, List.getElem?_eq_getElem h4] at this
  exact this
theorem swpL2 {l : List Nat} {k : Nat} (hk : k + 1 < l.length) : swpL (swpL l k) k = l := by
  refine getD_ext (by rw [swpL_len, swpL_len]) (fun j _ => ?_)
  rw [swpL_getD (by rw [swpL_len]; exact hk), swpL_getD hk, swpL_getD hk, swpL_getD hk]
  by_cases e1 : j = k
  · subst e1; rw [if_pos rfl, if_neg (by omega), if_pos rfl]
  · rw [if_neg e1]
    by_cases e2 : j = k + 1
    · subst e2; rw [if_pos rfl, if_pos rfl]
    · rw [if_neg e2, if_neg e1, if_neg e2]
theorem YA.swp2 {A : YA} {c k : Nat} (hk : k + 1 < (A.ch c).length) : (A.setC c (swpL (A.ch c) k)).setC c (swpL ((A.setC c (swpL (A.ch c) k)).ch c) k) = A := by
  rw [YA.ch_same, swpL2 hk, YA.setC2, YA.setC_id]
theorem strl_setC (A : YA) (c : Nat) (l l2 : List Nat) (j : Nat) : strl (A.setC c l) l2 j = strl A l2 j := rfl
theorem minS_setC (A : YA) (c : Nat) (l l2 : List Nat) : ∀ j, minS (A.setC c l) l2 j = minS A l2 j
  | 0 => rfl
  | j + 1 => by
    have ih := minS_setC A c l l2 j
    unfold minS
    rw [ih, strl_setC]
theorem leastS_setC (A : YA) (c : Nat) (l l2 : List Nat) : leastS (A.setC c l) l2 = leastS A l2 := by unfold leastS; rw [minS_setC]
theorem least1_setC (A : YA) (c : Nat) (l l2 : List Nat) : least1 (A.setC c l) l2 = least1 A l2 := by unfold least1; rw [minS_setC]
theorem least1_S {A : YA} {l : List Nat} (h : 2 ≤ l.length) : least1 A l = leastS A l := by unfold least1 leastS; rw [if_neg (by omega), if_neg (by omega)]
theorem leastS_swp (A : YA) (c k : Nat) : leastS (A.setC c (swpL (A.ch c) k)) ((A.setC c (swpL (A.ch c) k)).ch c) = leastS A (swpL (A.ch c) k) := by rw [leastS_setC, YA.ch_same]
theorem least1_swp {A : YA} {c k : Nat} (h : 2 ≤ (A.ch c).length) : least1 (A.setC c (swpL (A.ch c) k)) ((A.setC c (swpL (A.ch c) k)).ch c) = leastS A (swpL (A.ch c) k) := by rw [least1_setC, YA.ch_same, least1_S (by rw [swpL_len]; exact h)]
def swpK (A : YA) (c : Nat) (k : Nat) : Int := - leastS A (swpL (A.ch c) k)
theorem swp_rg {A : YA} (h : WFY A) {c k : Nat} (hc : c < 2) (hk : k + 1 < (A.ch c).length) : 0 ≤ leastS A (swpL (A.ch c) k) ∧ leastS A (swpL (A.ch c) k) ≤ 71 := leastS_rg h (fun p hp => h.lt hc ((swpL_perm hk).mem_iff.mp hp))
theorem CN.th {M M' : MM} {o : Nat} {S : ST} (h : CN M o S) (hF : FrY (o + 23) M M') : CN M' o S := h.same (fun a ha => hF a (by omega)) (by rw [hF o (by omega)]) (by rw [hF _ (by omega)])
def swR (A : YA) (c : Nat) (b m : Int) (i : Nat) : Prop := (i = 0 ∧ b = -1) ∨ (1 ≤ i ∧ b = ((pkN tt_ (swpK A c) i : Nat) : Int) ∧ m = - swpK A c (pkN tt_ (swpK A c) i))
def a_swap (S : ST) (c e : Int) : Int × ST := if ¬ ((c = 0 ∨ c = 1) ∧ 0 ≤ e ∧ e ≤ 1) then (-1002, rfS S 0) else if (S.1.ch c.toNat).length < 2 then (-1005, rfS S 3) else if e = 0 then ((((pkN tt_ (swpK S.1 c.toNat) ((S.1.ch c.toNat).length - 1)) : Nat) : Int), S) else (leastS S.1 (swpL (S.1.ch c.toNat) (pkN tt_ (swpK S.1 c.toNat) ((S.1.ch c.toNat).length - 1))) - leastS S.1 (S.1.ch c.toNat), S)
set_option maxHeartbeats 4000000 in
theorem lp_X6_swap {g : WG} {d : Nat} {T : TT} {M : MM} {o sz : Nat} {S : ST} {Q : MVal → TT → MM → Nat → Prop} (hC : CT T o) (hN : CN M o S) (hW : WFS S) {x : CX} (hx : OKx g x RX6 cX6_swap (d + 4)) (hr : RTx g x (some .int) Q) {c : Nat} (hc : c < 2) (hl2 : 2 ≤ (S.1.ch c).length) {e : Int} (he : 0 ≤ e ∧ e ≤ 1) (hQ : CQ o T M sz Q (a_swap S ((c : Nat) : Int) e)) (k bp : Nat) (b : Int) (u : MVal) (M1 : MM) (hY1 : YN M1 (o + 23) S.1) (hN1 : CN M1 o S) (hF1 : FrY (o + 23) M M1) (hk : k + 1 ≤ (S.1.ch c).length) (hbp : bp = pkN tt_ (swpK S.1 c) k) (hb : b = - pkV 1 tt_ (swpK S.1 c) k) : Jd g x 70 [vR (o), vI (((c : Nat) : Int)), vI (e), vI (((bp : Nat) : Int)), vI (b), vI (((k : Nat) : Int)), u] [] T M1 sz 0 0 := by
  have hl8 := hW.y.len8 hc
  have rgL := leastS_rg hW.y (l := S.1.ch c) (fun p hp => hW.y.lt hc hp)
  have rgb : b ≤ 71 ∧ -1 ≤ b := by
      rw [hb]
      cases h9 : pick tt_ (swpK S.1 c) k with
      | none => unfold pkV; rw [h9]; exact (show -(1 : Int) ≤ 71 ∧ -1 ≤ -(1 : Int) by decide)
      | some z =>
        rw [pkV_of h9]
        have hz : z < k := by
          have h7 := qn_some (k := swpK S.1 c) (j := k) (by
            cases k with
            | zero => cases h9
            | succ k => omega)
          rw [h9] at h7
          have := Option.some.inj h7.1
          omega
        have := swp_rg hW.y hc (k := z) (by omega)
        unfold swpK; omega
  refine J_iload hx dX6_swap_70 rfl ?_
  refine J_aload_n hx dX6_swap_72 (i := 0) rfl rfl ?_
  refine J_getR (b := o + 23) hx fl_X6_19 cl_X6 dX6_swap_73 hC.o (by decide) rfl hC.r2 ?_
  refine J_getR (b := o + 23 + 10) hx fl_X6_199 cl_X5 dX6_swap_76 hC.y2.o (by decide) rfl hC.y2.r7 ?_
  refine J_iload_n hx dX6_swap_79 (i := 1) rfl rfl ?_
  refine J_iald2 (v := (((S.1.ch c).length : Nat) : Int)) hx c dX6_swap_80 hC.y2.k10 (by omega) (hC.y2.l10 (by omega)) (hY1.sz (by omega)) ?_
  have rg1 := hW.y.len8 (c := c) (by omega)
  have rg2 := hW.y.lenN (c := c) (by omega)
  refine J_iconst (v := 1) hx dX6_swap_81 (by decide) ?_
  refine J_isub (v := (((S.1.ch c).length : Nat) : Int) - 1) hx dX6_swap_82 (w32_id (by omega) (by omega)) ?_
  refine J_icmp_ge (tgt := 136) hx dX6_swap_83 (by decide) (fun c3 => ?_) (fun c3 => ?_)
  · refine J_iload_n hx dX6_swap_136 (i := 2) rfl rfl ?_
    refine J_if_ne (tgt := 144) hx dX6_swap_137 (by decide) (fun c4 => ?_) (fun c4 => ?_)
    · refine J_iload hx dX6_swap_144 rfl ?_
      refine J_aload_n hx dX6_swap_146 (i := 0) rfl rfl ?_
      refine J_getR (b := o + 1) hx fl_X6_10 cl_X6 dX6_swap_147 hC.o (by decide) rfl hC.r0 ?_
      refine J_iload_n hx dX6_swap_150 (i := 1) rfl rfl ?_
      refine J_invV (As := [vI (((c : Nat) : Int))]) (st := [vI (b)]) hx lk_X6_261 okX5_leastStrength dX6_swap_151 hC.y0.o (by decide) rfl rfl rfl (Nat.le_of_ble_eq_true rfl) (Nat.zero_add _).symm (Nat.zero_add _).symm rfl (c_X5_leastStrength hC.y0 hN1.y hW.y (c := c) (by omega) ?_)
      have rg5 := leastS_rg hW.y (l := S.1.ch c) (fun p hp => hW.y.lt (by omega) hp)
      refine J_isub (v := b - (leastS S.1 (S.1.ch c))) hx dX6_swap_154 (w32_id (by omega) (by omega)) ?_
      refine J_iret hx hr dX6_swap_155 ?_
      have ek : k = (S.1.ch c).length - 1 := by omega
      subst ek
      have h8 := qn_some (k := swpK S.1 c) (j := (S.1.ch c).length - 1) (by omega)
      have h7 := pkV_of (H := 1) h8.1
      subst hbp
      exact hQ.to (v := _) (S := S) (by
        unfold a_swap
        simp only [Int.toNat_natCast]
        rw [if_neg (by omega), if_neg (by omega)]
        rw [if_neg (by omega)]
        congr 1
        unfold swpK at *
        omega) hC hN1 (fun b9 hb9 => hF1 b9 (by omega))
    · refine J_iload_n hx dX6_swap_140 (i := 3) rfl rfl ?_
      refine J_goto (tgt := 155) hx dX6_swap_141 (by decide) ?_
      refine J_iret hx hr dX6_swap_155 ?_
      have ek : k = (S.1.ch c).length - 1 := by omega
      subst ek
      have h8 := qn_some (k := swpK S.1 c) (j := (S.1.ch c).length - 1) (by omega)
      have h7 := pkV_of (H := 1) h8.1
      subst hbp
      exact hQ.to (v := _) (S := S) (by
        unfold a_swap
        simp only [Int.toNat_natCast]
        rw [if_neg (by omega), if_neg (by omega)]
        rw [if_pos (by omega)]) hC hN1 (fun b9 hb9 => hF1 b9 (by omega))
  · refine J_aload_n hx dX6_swap_86 (i := 0) rfl rfl ?_
    refine J_getR (b := o + 23) hx fl_X6_19 cl_X6 dX6_swap_87 hC.o (by decide) rfl hC.r2 ?_
    refine J_iload_n hx dX6_swap_90 (i := 1) rfl rfl ?_
    refine J_iload hx dX6_swap_91 rfl ?_
    refine J_invVv (As := [vI (((c : Nat) : Int)), vI (((k : Nat) : Int))]) (st := []) hx lk_X6_295 okX5_changePlaces dX6_swap_93 hC.y2.o (by decide) rfl rfl rfl (Nat.le_of_ble_eq_true rfl) (Nat.zero_add _).symm (Nat.zero_add _).symm rfl (c_X5_changePlaces hC.y2 (hY1.toP hW.y) hW.y.b8 (c := c) hc (k := k) (by omega) ?_)
    intro M2 hP2 hF2
    have hW2 : WFY (S.1.setC c (swpL (S.1.ch c) k)) := hW.y.perm hc (swpL_perm (by omega))
    have hY2 := hP2.toN hW2
    refine J_aload_n hx dX6_swap_96 (i := 0) rfl rfl ?_
    refine J_getR (b := o + 23) hx fl_X6_19 cl_X6 dX6_swap_97 hC.o (by decide) rfl hC.r2 ?_
    refine J_iload_n hx dX6_swap_100 (i := 1) rfl rfl ?_
    refine J_invV (As := [vI (((c : Nat) : Int))]) (st := []) hx lk_X6_261 okX5_leastStrength dX6_swap_101 hC.y2.o (by decide) rfl rfl rfl (Nat.le_of_ble_eq_true rfl) (Nat.zero_add _).symm (Nat.zero_add _).symm rfl (c_X5_leastStrength hC.y2 hY2 hW2 (c := c) hc ?_)
    rw [leastS_swp]
    have rgv := swp_rg hW.y hc (k := k) (by omega)
    refine J_istore (lsn := [vR (o), vI (((c : Nat) : Int)), vI (e), vI (((bp : Nat) : Int)), vI (b), vI (((k : Nat) : Int)), vI (leastS S.1 (swpL (S.1.ch c) k))]) hx dX6_swap_104 (Nat.le_of_ble_eq_true rfl) rfl rfl ?_
    refine J_aload_n hx dX6_swap_106 (i := 0) rfl rfl ?_
    refine J_getR (b := o + 23) hx fl_X6_19 cl_X6 dX6_swap_107 hC.o (by decide) rfl hC.r2 ?_
    refine J_iload_n hx dX6_swap_110 (i := 1) rfl rfl ?_
    refine J_iload hx dX6_swap_111 rfl ?_
    refine J_invVv (As := [vI (((c : Nat) : Int)), vI (((k : Nat) : Int))]) (st := []) hx lk_X6_295 okX5_changePlaces dX6_swap_113 hC.y2.o (by decide) rfl rfl rfl (Nat.le_of_ble_eq_true rfl) (Nat.zero_add _).symm (Nat.zero_add _).symm rfl (c_X5_changePlaces hC.y2 hP2 hW2.b8 (c := c) hc (k := k) (by rw [YA.ch_same, swpL_len]; omega) ?_)
    intro M3 hP3 hF3
    rw [YA.swp2 (by omega)] at hP3
    have hY3 := hP3.toN hW.y
    refine J_iload hx dX6_swap_116 rfl ?_
    refine J_iload hx dX6_swap_118 rfl ?_
    refine J_icmp_le (tgt := 130) hx dX6_swap_120 (by decide) (fun c6 => ?_) (fun c6 => ?_)
    · refine J_iinc (v := ((k : Nat) : Int) + 1) (lsn := [vR (o), vI (((c : Nat) : Int)), vI (e), vI (((bp : Nat) : Int)), vI (b), vI (((k : Nat) : Int) + 1), vI (leastS S.1 (swpL (S.1.ch c) k))]) hx dX6_swap_130 rfl (jinc1 (by omega) (by omega)) rfl rfl ?_
      refine J_goto (tgt := 70) hx dX6_swap_133 (by decide) ?_
      have e9 : pick tt_ (swpK S.1 c) (k + 1) = pick tt_ (swpK S.1 c) k := qk_ge (H := 1) (by unfold swpK; omega) (by unfold swpK at *; omega)
      exact lp_X6_swap hC hN hW hx hr hc hl2 he hQ (k + 1) bp _ _ M3 hY3 (hN1.th ((hF2.tr hF3))) ((hF1.tr hF2).tr hF3) (by omega) (by rw [pkN_eq e9]; exact hbp) (by rw [pkV_eq e9]; exact hb)
    · refine J_iload hx dX6_swap_123 rfl ?_
      refine J_istore (lsn := [vR (o), vI (((c : Nat) : Int)), vI (e), vI (((bp : Nat) : Int)), vI (leastS S.1 (swpL (S.1.ch c) k)), vI (((k : Nat) : Int)), vI (leastS S.1 (swpL (S.1.ch c) k))]) hx dX6_swap_125 (Nat.le_of_ble_eq_true rfl) rfl rfl ?_
      refine J_iload hx dX6_swap_127 rfl ?_
      refine J_istore_n (lsn := [vR (o), vI (((c : Nat) : Int)), vI (e), vI (((k : Nat) : Int)), vI (leastS S.1 (swpL (S.1.ch c) k)), vI (((k : Nat) : Int)), vI (leastS S.1 (swpL (S.1.ch c) k))]) hx dX6_swap_129 (i := 3) rfl (Nat.le_of_ble_eq_true rfl) rfl rfl ?_
      refine J_iinc (v := ((k : Nat) : Int) + 1) (lsn := [vR (o), vI (((c : Nat) : Int)), vI (e), vI (((k : Nat) : Int)), vI (leastS S.1 (swpL (S.1.ch c) k)), vI (((k : Nat) : Int) + 1), vI (leastS S.1 (swpL (S.1.ch c) k))]) hx dX6_swap_130 rfl (jinc1 (by omega) (by omega)) rfl rfl ?_
      refine J_goto (tgt := 70) hx dX6_swap_133 (by decide) ?_
      have e9 : pick tt_ (swpK S.1 c) (k + 1) = some k := qk_lt (H := 1) rfl (by unfold swpK at *; omega)
      exact lp_X6_swap hC hN hW hx hr hc hl2 he hQ (k + 1) k _ _ M3 hY3 (hN1.th ((hF2.tr hF3))) ((hF1.tr hF2).tr hF3) (by omega) (pkN_of e9).symm (by rw [pkV_of e9]; unfold swpK; omega)
termination_by (S.1.ch c).length - k
decreasing_by all_goals omega

set_option maxHeartbeats 4000000 in
theorem c_X6_swap {g : WG} {d : Nat} {T : TT} {M : MM} {o sz : Nat} {S : ST} {Q : MVal → TT → MM → Nat → Prop} (hC : CT T o) (hN : CN M o S) (hW : WFS S) {c e : Int} (h_c : -2147483648 ≤ c ∧ c ≤ 2147483647) (h_e : -2147483648 ≤ e ∧ e ≤ 2147483647) (hQ : CQ o T M sz Q (a_swap S c e)) : Ct g (d + 4) mX6_swap [vR (o), vI (c), vI (e)] T M sz 0 0 Q := by
  refine Ct_of2 (ls := [vR (o), vI (c), vI (e), vU, vU, vU, vU]) okX6_swap rfl (Nat.le_of_ble_eq_true rfl) rfl ?_
  intro x hx hr hnm
  refine J_iload_n hx dX6_swap_0 (i := 1) rfl rfl ?_
  refine J_invS (As := [vI (c)]) (st := []) hx lk_X6_132 okX6_isChain dX6_swap_1 rfl rfl (Nat.le_of_ble_eq_true rfl) (Nat.zero_add _).symm (Nat.zero_add _).symm rfl (c_X6_isChain (a := c) ?_)
  intro v1 hv1
  refine J_if_eq (tgt := 16) hx dX6_swap_4 (by decide) (fun c2 => ?_) (fun c2 => ?_)
  · refine J_sipush (v := -1000) hx dX6_swap_16 (by decide) ?_
    refine J_aload_n hx dX6_swap_19 (i := 0) rfl rfl ?_
    refine J_bipush (v := -2) hx dX6_swap_20 (by decide) ?_
    refine J_invV (As := [vI ((-2))]) (st := [vI ((-1000))]) hx lk_X6_67 okX6_refuse dX6_swap_22 hC.o (by decide) rfl rfl rfl (Nat.le_of_ble_eq_true rfl) (Nat.zero_add _).symm (Nat.zero_add _).symm rfl (c_X6_refuse hC hN hW (k := 0) (by decide) ?_)
    intro M1 hN1 hf1
    refine J_iadd (v := (-1002)) hx dX6_swap_25 (w32_id (by decide) (by decide)) ?_
    refine J_iret hx hr dX6_swap_26 ?_
    exact hQ.to (v := (-1002)) (S := rfS S 0) (by
      unfold a_swap
      all_goals (try unfold overY at *)
      all_goals (try unfold mayQ at *)
      all_goals (try simp only [Int.toNat_natCast] at *)
      all_goals ((repeat' split) <;> first | rfl | (exfalso; omega) | (congr 1; omega))) hC hN1 hf1
  · refine J_iload_n hx dX6_swap_7 (i := 2) rfl rfl ?_
    refine J_if_lt (tgt := 16) hx dX6_swap_8 (by decide) (fun c3 => ?_) (fun c3 => ?_)
    · refine J_sipush (v := -1000) hx dX6_swap_16 (by decide) ?_
      refine J_aload_n hx dX6_swap_19 (i := 0) rfl rfl ?_
      refine J_bipush (v := -2) hx dX6_swap_20 (by decide) ?_
      refine J_invV (As := [vI ((-2))]) (st := [vI ((-1000))]) hx lk_X6_67 okX6_refuse dX6_swap_22 hC.o (by decide) rfl rfl rfl (Nat.le_of_ble_eq_true rfl) (Nat.zero_add _).symm (Nat.zero_add _).symm rfl (c_X6_refuse hC hN hW (k := 0) (by decide) ?_)
      intro M1 hN1 hf1
      refine J_iadd (v := (-1002)) hx dX6_swap_25 (w32_id (by decide) (by decide)) ?_
      refine J_iret hx hr dX6_swap_26 ?_
      exact hQ.to (v := (-1002)) (S := rfS S 0) (by
        unfold a_swap
        all_goals (try unfold overY at *)
        all_goals (try unfold mayQ at *)
        all_goals (try simp only [Int.toNat_natCast] at *)
        all_goals ((repeat' split) <;> first | rfl | (exfalso; omega) | (congr 1; omega))) hC hN1 hf1
    · refine J_iload_n hx dX6_swap_11 (i := 2) rfl rfl ?_
      refine J_iconst (v := 1) hx dX6_swap_12 (by decide) ?_
      refine J_icmp_le (tgt := 27) hx dX6_swap_13 (by decide) (fun c4 => ?_) (fun c4 => ?_)
      · obtain ⟨cN, rfl⟩ : ∃ z : Nat, c = ((z : Nat) : Int) := ⟨c.toNat, by omega⟩
        refine J_aload_n hx dX6_swap_27 (i := 0) rfl rfl ?_
        refine J_getR (b := o + 1) hx fl_X6_10 cl_X6 dX6_swap_28 hC.o (by decide) rfl hC.r0 ?_
        refine J_getR (b := o + 1 + 10) hx fl_X6_199 cl_X5 dX6_swap_31 hC.y0.o (by decide) rfl hC.y0.r7 ?_
        refine J_iload_n hx dX6_swap_34 (i := 1) rfl rfl ?_
        refine J_iald2 (v := (((S.1.ch cN).length : Nat) : Int)) hx cN dX6_swap_35 hC.y0.k10 (by omega) (hC.y0.l10 (by omega)) (hN.y.sz (by omega)) ?_
        have rg5 := hW.y.len8 (c := cN) (by omega)
        have rg6 := hW.y.lenN (c := cN) (by omega)
        refine J_iconst (v := 2) hx dX6_swap_36 (by decide) ?_
        refine J_icmp_ge (tgt := 51) hx dX6_swap_37 (by decide) (fun c7 => ?_) (fun c7 => ?_)
        · refine J_aload_n hx dX6_swap_51 (i := 0) rfl rfl ?_
          refine J_getR (b := o + 23) hx fl_X6_19 cl_X6 dX6_swap_52 hC.o (by decide) rfl hC.r2 ?_
          refine J_aload_n hx dX6_swap_55 (i := 0) rfl rfl ?_
          refine J_getR (b := o + 1) hx fl_X6_10 cl_X6 dX6_swap_56 hC.o (by decide) rfl hC.r0 ?_
          refine J_invVv (As := [vR (o + 1)]) (st := []) hx lk_X6_180 okX5_becomeAs dX6_swap_59 hC.y2.o (by decide) rfl rfl rfl (Nat.le_of_ble_eq_true rfl) (Nat.zero_add _).symm (Nat.zero_add _).symm rfl (c_X5_becomeAs hC.y2 hC.y0 hN.y hW.y (by omega) ?_)
          intro M1 hY1 hF1
          refine J_iconst (v := 0) hx dX6_swap_62 (by decide) ?_
          refine J_istore_n (lsn := [vR (o), vI (((cN : Nat) : Int)), vI (e), vI (0), vU, vU, vU]) hx dX6_swap_63 (i := 3) rfl (Nat.le_of_ble_eq_true rfl) rfl rfl ?_
          refine J_iconst (v := -1) hx dX6_swap_64 (by decide) ?_
          refine J_istore (lsn := [vR (o), vI (((cN : Nat) : Int)), vI (e), vI (0), vI ((-1)), vU, vU]) hx dX6_swap_65 (Nat.le_of_ble_eq_true rfl) rfl rfl ?_
          refine J_iconst (v := 0) hx dX6_swap_67 (by decide) ?_
          refine J_istore (lsn := [vR (o), vI (((cN : Nat) : Int)), vI (e), vI (0), vI ((-1)), vI (0), vU]) hx dX6_swap_68 (Nat.le_of_ble_eq_true rfl) rfl rfl ?_
          exact lp_X6_swap hC hN hW hx hr (by omega) (by omega) (by omega) hQ 0 0 _ _ M1 hY1 (hN.th hF1) hF1 (by omega) rfl rfl
        · refine J_sipush (v := -1000) hx dX6_swap_40 (by decide) ?_
          refine J_aload_n hx dX6_swap_43 (i := 0) rfl rfl ?_
          refine J_bipush (v := -5) hx dX6_swap_44 (by decide) ?_
          refine J_invV (As := [vI ((-5))]) (st := [vI ((-1000))]) hx lk_X6_67 okX6_refuse dX6_swap_46 hC.o (by decide) rfl rfl rfl (Nat.le_of_ble_eq_true rfl) (Nat.zero_add _).symm (Nat.zero_add _).symm rfl (c_X6_refuse hC hN hW (k := 3) (by decide) ?_)
          intro M1 hN1 hf1
          refine J_iadd (v := (-1005)) hx dX6_swap_49 (w32_id (by decide) (by decide)) ?_
          refine J_iret hx hr dX6_swap_50 ?_
          exact hQ.to (v := (-1005)) (S := rfS S 3) (by
            unfold a_swap
            all_goals (try unfold overY at *)
            all_goals (try unfold mayQ at *)
            all_goals (try simp only [Int.toNat_natCast] at *)
            all_goals ((repeat' split) <;> first | rfl | (exfalso; omega) | (congr 1; omega))) hC hN1 hf1
      · refine J_sipush (v := -1000) hx dX6_swap_16 (by decide) ?_
        refine J_aload_n hx dX6_swap_19 (i := 0) rfl rfl ?_
        refine J_bipush (v := -2) hx dX6_swap_20 (by decide) ?_
        refine J_invV (As := [vI ((-2))]) (st := [vI ((-1000))]) hx lk_X6_67 okX6_refuse dX6_swap_22 hC.o (by decide) rfl rfl rfl (Nat.le_of_ble_eq_true rfl) (Nat.zero_add _).symm (Nat.zero_add _).symm rfl (c_X6_refuse hC hN hW (k := 0) (by decide) ?_)
        intro M1 hN1 hf1
        refine J_iadd (v := (-1002)) hx dX6_swap_25 (w32_id (by decide) (by decide)) ?_
        refine J_iret hx hr dX6_swap_26 ?_
        exact hQ.to (v := (-1002)) (S := rfS S 0) (by
          unfold a_swap
          all_goals (try unfold overY at *)
          all_goals (try unfold mayQ at *)
          all_goals (try simp only [Int.toNat_natCast] at *)
          all_goals ((repeat' split) <;> first | rfl | (exfalso; omega) | (congr 1; omega))) hC hN1 hf1

set_option maxHeartbeats 4000000 in
theorem lp_X7_swap {g : WG} {d : Nat} {T : TT} {M : MM} {r sz : Nat} {S : ST} {Q : MVal → TT → MM → Nat → Prop} (hT : MT T r) (hN : RN M r S) (hW : WFS S) {x : CX} (hx : OKx g x RX7 cX7_swap (d + 4)) (hr : RTx g x (some .int) Q) {c : Nat} (hc : c < 2) (hl2 : 2 ≤ (S.1.ch c).length) {e : Int} (he : 0 ≤ e ∧ e ≤ 1) (hQ : RQ r T M sz Q (a_swap S ((c : Nat) : Int) e)) (k : Nat) (b mo : Int) (u : MVal) (M1 : MM) (hY1 : MN M1 r S.1) (hF1 : FrN r M M1) (hk : k + 1 ≤ (S.1.ch c).length) (hs : swR S.1 c b mo k) : Jd g x 78 [vR (r), vI (((c : Nat) : Int)), vI (e), vI (leastS S.1 (S.1.ch c)), vI (b), vI (mo), vI (((k : Nat) : Int)), u] [] T M1 sz 0 0 := by
  have hl8 := hW.y.len8 hc
  have rgL := leastS_rg hW.y (l := S.1.ch c) (fun p hp => hW.y.lt hc hp)
  have rgm : 1 ≤ k → 0 ≤ mo ∧ mo ≤ 71 := fun h1 => by
      have h7 := (qn_some (k := swpK S.1 c) (j := k) h1).2
      have := swp_rg hW.y hc (k := pkN tt_ (swpK S.1 c) k) (by omega)
      have hk9 : swpK S.1 c (pkN tt_ (swpK S.1 c) k) = - leastS S.1 (swpL (S.1.ch c) (pkN tt_ (swpK S.1 c) k)) := rfl
      unfold swR at hs
      omega
  skip
  refine J_iload hx dX7_swap_78 rfl ?_
  refine J_aload_n hx dX7_swap_80 (i := 0) rfl rfl ?_
  refine J_getR (b := r + 25) hx fl_X7_57 cl_X7 dX7_swap_81 hT.o (by decide) rfl hT.r16 ?_
  refine J_iload_n hx dX7_swap_84 (i := 1) rfl rfl ?_
  refine J_iald2 (v := (((S.1.ch c).length : Nat) : Int)) hx c dX7_swap_85 hT.k25 (by omega) (hT.l25 (by omega)) (hY1.sz (by omega)) ?_
  have rg1 := hW.y.len8 (c := c) (by omega)
  have rg2 := hW.y.lenN (c := c) (by omega)
  refine J_iconst (v := 1) hx dX7_swap_86 (by decide) ?_
  refine J_isub (v := (((S.1.ch c).length : Nat) : Int) - 1) hx dX7_swap_87 (w32_id (by omega) (by omega)) ?_
  refine J_icmp_ge (tgt := 150) hx dX7_swap_88 (by decide) (fun c3 => ?_) (fun c3 => ?_)
  · refine J_iload_n hx dX7_swap_150 (i := 2) rfl rfl ?_
    refine J_if_ne (tgt := 159) hx dX7_swap_151 (by decide) (fun c4 => ?_) (fun c4 => ?_)
    · refine J_iload hx dX7_swap_159 rfl ?_
      refine J_iload_n hx dX7_swap_161 (i := 3) rfl rfl ?_
      refine J_isub (v := mo - (leastS S.1 (S.1.ch c))) hx dX7_swap_162 (w32_id (by omega) (by omega)) ?_
      refine J_iret hx hr dX7_swap_163 ?_
      have ek : k = (S.1.ch c).length - 1 := by omega
      subst ek
      have h8 := swp_rg hW.y hc (k := pkN tt_ (swpK S.1 c) ((S.1.ch c).length - 1)) (by have := (qn_some (k := swpK S.1 c) (j := (S.1.ch c).length - 1) (by omega)).2; omega)
      exact hQ.to (v := _) (S := S) (by
        unfold a_swap
        simp only [Int.toNat_natCast]
        rw [if_neg (by omega), if_neg (by omega)]
        rw [if_neg (by omega)]
        congr 1
        unfold swR swpK at *
        omega) (by have h9 := hN.yard hY1 hF1; exact h9) (fun b9 hb9 => hF1.out (by omega))
    · refine J_iload hx dX7_swap_154 rfl ?_
      refine J_goto (tgt := 163) hx dX7_swap_156 (by decide) ?_
      refine J_iret hx hr dX7_swap_163 ?_
      have ek : k = (S.1.ch c).length - 1 := by omega
      subst ek
      have h8 := swp_rg hW.y hc (k := pkN tt_ (swpK S.1 c) ((S.1.ch c).length - 1)) (by have := (qn_some (k := swpK S.1 c) (j := (S.1.ch c).length - 1) (by omega)).2; omega)
      exact hQ.to (v := _) (S := S) (by
        unfold a_swap
        simp only [Int.toNat_natCast]
        rw [if_neg (by omega), if_neg (by omega)]
        rw [if_pos (by omega)]
        congr 1
        unfold swR at hs
        omega) (by have h9 := hN.yard hY1 hF1; exact h9) (fun b9 hb9 => hF1.out (by omega))
  · refine J_aload_n hx dX7_swap_91 (i := 0) rfl rfl ?_
    refine J_iload_n hx dX7_swap_92 (i := 1) rfl rfl ?_
    refine J_iload hx dX7_swap_93 rfl ?_
    refine J_invVv (As := [vI (((c : Nat) : Int)), vI (((k : Nat) : Int))]) (st := []) hx lk_X7_321 okX7_changes dX7_swap_95 hT.o (by decide) rfl rfl rfl (Nat.le_of_ble_eq_true rfl) (Nat.zero_add _).symm (Nat.zero_add _).symm rfl (c_X7_changes hT hY1 (c := c) hc (k := k) (by omega) (by omega) ?_)
    intro M2 hY2 hF2
    have hW2 : WFY (S.1.setC c (swpL (S.1.ch c) k)) := hW.y.perm hc (swpL_perm (by omega))
    have hl2b : ((S.1.setC c (swpL (S.1.ch c) k)).ch c).length = (S.1.ch c).length := by rw [YA.ch_same, swpL_len]
    refine J_aload_n hx dX7_swap_98 (i := 0) rfl rfl ?_
    refine J_aload_n hx dX7_swap_99 (i := 0) rfl rfl ?_
    refine J_getR (b := r + 22) hx fl_X7_54 cl_X7 dX7_swap_100 hT.o (by decide) rfl hT.r15 ?_
    refine J_iload_n hx dX7_swap_103 (i := 1) rfl rfl ?_
    refine J_aald (b := r + 23 + c) hx c dX7_swap_104 hT.k22 (by decide) (by omega) (hT.l22 (by omega)) (hT.f22 (by omega)) ?_
    refine J_aload_n hx dX7_swap_105 (i := 0) rfl rfl ?_
    refine J_getR (b := r + 25) hx fl_X7_57 cl_X7 dX7_swap_106 hT.o (by decide) rfl hT.r16 ?_
    refine J_iload_n hx dX7_swap_109 (i := 1) rfl rfl ?_
    refine J_iald2 (v := ((((S.1.setC c (swpL (S.1.ch c) k)).ch c).length : Nat) : Int)) hx c dX7_swap_110 hT.k25 (by omega) (hT.l25 (by omega)) (hY2.sz hc) ?_
    refine J_invV (As := [vR (r + 23 + c), vI (((((S.1.setC c (swpL (S.1.ch c) k)).ch c).length : Nat) : Int))]) (st := []) hx lk_X7_270 okX7_leastOf dX7_swap_111 hT.o (by decide) rfl rfl rfl (Nat.le_of_ble_eq_true rfl) (Nat.zero_add _).symm (Nat.zero_add _).symm rfl (c_X7_leastOf hT hY2 hW2 (l := (S.1.setC c (swpL (S.1.ch c) k)).ch c) (q := r + 23 + c) (hT.kl hc) (hT.nl hc) (fun k9 h9 => hY2.ln hc h9) (fun p9 h9 => hW2.lt hc h9) (by omega) ?_)
    rw [least1_swp (by omega)]
    have rgv := swp_rg hW.y hc (k := k) (by omega)
    refine J_istore (lsn := [vR (r), vI (((c : Nat) : Int)), vI (e), vI (leastS S.1 (S.1.ch c)), vI (b), vI (mo), vI (((k : Nat) : Int)), vI (leastS S.1 (swpL (S.1.ch c) k))]) hx dX7_swap_114 (Nat.le_of_ble_eq_true rfl) rfl rfl ?_
    refine J_aload_n hx dX7_swap_116 (i := 0) rfl rfl ?_
    refine J_iload_n hx dX7_swap_117 (i := 1) rfl rfl ?_
    refine J_iload hx dX7_swap_118 rfl ?_
    refine J_invVv (As := [vI (((c : Nat) : Int)), vI (((k : Nat) : Int))]) (st := []) hx lk_X7_321 okX7_changes dX7_swap_120 hT.o (by decide) rfl rfl rfl (Nat.le_of_ble_eq_true rfl) (Nat.zero_add _).symm (Nat.zero_add _).symm rfl (c_X7_changes hT hY2 (c := c) hc (k := k) (by omega) (by omega) ?_)
    intro M3 hY3 hF3
    rw [YA.swp2 (by omega)] at hY3
    refine J_iload hx dX7_swap_123 rfl ?_
    refine J_iconst (v := -1) hx dX7_swap_125 (by decide) ?_
    refine J_icmp_eq (tgt := 136) hx dX7_swap_126 (by decide) (fun c5 => ?_) (fun c5 => ?_)
    · refine J_iload hx dX7_swap_136 rfl ?_
      refine J_istore (lsn := [vR (r), vI (((c : Nat) : Int)), vI (e), vI (leastS S.1 (S.1.ch c)), vI (((k : Nat) : Int)), vI (mo), vI (((k : Nat) : Int)), vI (leastS S.1 (swpL (S.1.ch c) k))]) hx dX7_swap_138 (Nat.le_of_ble_eq_true rfl) rfl rfl ?_
      refine J_iload hx dX7_swap_140 rfl ?_
      refine J_istore (lsn := [vR (r), vI (((c : Nat) : Int)), vI (e), vI (leastS S.1 (S.1.ch c)), vI (((k : Nat) : Int)), vI (leastS S.1 (swpL (S.1.ch c) k)), vI (((k : Nat) : Int)), vI (leastS S.1 (swpL (S.1.ch c) k))]) hx dX7_swap_142 (Nat.le_of_ble_eq_true rfl) rfl rfl ?_
      refine J_iinc (v := ((k : Nat) : Int) + 1) (lsn := [vR (r), vI (((c : Nat) : Int)), vI (e), vI (leastS S.1 (S.1.ch c)), vI (((k : Nat) : Int)), vI (leastS S.1 (swpL (S.1.ch c) k)), vI (((k : Nat) : Int) + 1), vI (leastS S.1 (swpL (S.1.ch c) k))]) hx dX7_swap_144 rfl (jinc1 (by omega) (by omega)) rfl rfl ?_
      refine J_goto (tgt := 78) hx dX7_swap_147 (by decide) ?_
      have e9 : pkN tt_ (swpK S.1 c) (k + 1) = k := by
          by_cases e0 : k = 0
          · subst e0; rfl
          · exact qn_lt (by omega) (by unfold swR swpK at *; omega)
      exact lp_X7_swap hT hN hW hx hr hc hl2 he hQ (k + 1) _ _ _ M3 hY3 ((hF1.tr hF2).tr hF3) (by omega) (Or.inr ⟨by omega, by rw [e9], by rw [e9]; unfold swpK; omega⟩)
    · refine J_iload hx dX7_swap_129 rfl ?_
      refine J_iload hx dX7_swap_131 rfl ?_
      refine J_icmp_le (tgt := 144) hx dX7_swap_133 (by decide) (fun c6 => ?_) (fun c6 => ?_)
      · refine J_iinc (v := ((k : Nat) : Int) + 1) (lsn := [vR (r), vI (((c : Nat) : Int)), vI (e), vI (leastS S.1 (S.1.ch c)), vI (b), vI (mo), vI (((k : Nat) : Int) + 1), vI (leastS S.1 (swpL (S.1.ch c) k))]) hx dX7_swap_144 rfl (jinc1 (by omega) (by omega)) rfl rfl ?_
        refine J_goto (tgt := 78) hx dX7_swap_147 (by decide) ?_
        have e9 : pkN tt_ (swpK S.1 c) (k + 1) = pkN tt_ (swpK S.1 c) k := qn_ge (by unfold swR at hs; omega) (by unfold swR swpK at *; omega)
        exact lp_X7_swap hT hN hW hx hr hc hl2 he hQ (k + 1) _ _ _ M3 hY3 ((hF1.tr hF2).tr hF3) (by omega) (by unfold swR at *; rw [e9]; omega)
      · refine J_iload hx dX7_swap_136 rfl ?_
        refine J_istore (lsn := [vR (r), vI (((c : Nat) : Int)), vI (e), vI (leastS S.1 (S.1.ch c)), vI (((k : Nat) : Int)), vI (mo), vI (((k : Nat) : Int)), vI (leastS S.1 (swpL (S.1.ch c) k))]) hx dX7_swap_138 (Nat.le_of_ble_eq_true rfl) rfl rfl ?_
        refine J_iload hx dX7_swap_140 rfl ?_
        refine J_istore (lsn := [vR (r), vI (((c : Nat) : Int)), vI (e), vI (leastS S.1 (S.1.ch c)), vI (((k : Nat) : Int)), vI (leastS S.1 (swpL (S.1.ch c) k)), vI (((k : Nat) : Int)), vI (leastS S.1 (swpL (S.1.ch c) k))]) hx dX7_swap_142 (Nat.le_of_ble_eq_true rfl) rfl rfl ?_
        refine J_iinc (v := ((k : Nat) : Int) + 1) (lsn := [vR (r), vI (((c : Nat) : Int)), vI (e), vI (leastS S.1 (S.1.ch c)), vI (((k : Nat) : Int)), vI (leastS S.1 (swpL (S.1.ch c) k)), vI (((k : Nat) : Int) + 1), vI (leastS S.1 (swpL (S.1.ch c) k))]) hx dX7_swap_144 rfl (jinc1 (by omega) (by omega)) rfl rfl ?_
        refine J_goto (tgt := 78) hx dX7_swap_147 (by decide) ?_
        have e9 : pkN tt_ (swpK S.1 c) (k + 1) = k := by
            by_cases e0 : k = 0
            · subst e0; rfl
            · exact qn_lt (by omega) (by unfold swR swpK at *; omega)
        exact lp_X7_swap hT hN hW hx hr hc hl2 he hQ (k + 1) _ _ _ M3 hY3 ((hF1.tr hF2).tr hF3) (by omega) (Or.inr ⟨by omega, by rw [e9], by rw [e9]; unfold swpK; omega⟩)
termination_by (S.1.ch c).length - k
decreasing_by all_goals omega

set_option maxHeartbeats 4000000 in
theorem c_X7_swap {g : WG} {d : Nat} {T : TT} {M : MM} {r sz : Nat} {S : ST} {Q : MVal → TT → MM → Nat → Prop} (hT : MT T r) (hN : RN M r S) (hW : WFS S) {c e : Int} (h_c : -2147483648 ≤ c ∧ c ≤ 2147483647) (h_e : -2147483648 ≤ e ∧ e ≤ 2147483647) (hQ : RQ r T M sz Q (a_swap S c e)) : Ct g (d + 4) mX7_swap [vR (r), vI (c), vI (e)] T M sz 0 0 Q := by
  refine Ct_of2 (ls := [vR (r), vI (c), vI (e), vU, vU, vU, vU, vU]) okX7_swap rfl (Nat.le_of_ble_eq_true rfl) rfl ?_
  intro x hx hr hnm
  refine J_iload_n hx dX7_swap_0 (i := 1) rfl rfl ?_
  refine J_i2l hx dX7_swap_1 ?_
  refine J_lconst (v := 0) hx dX7_swap_2 (by decide) ?_
  refine J_lconst (v := 1) hx dX7_swap_3 (by decide) ?_
  refine J_invS (As := [vL (c), vL (0), vL (1)]) (st := []) hx lk_X7_85 okX7_in dX7_swap_4 rfl rfl (Nat.le_of_ble_eq_true rfl) (Nat.zero_add _).symm (Nat.zero_add _).symm rfl (c_X7_in (a := c) (lo := 0) (hi := 1) ?_)
  intro v1 hv1
  refine J_if_eq (tgt := 20) hx dX7_swap_7 (by decide) (fun c2 => ?_) (fun c2 => ?_)
  · refine J_sipush (v := -1000) hx dX7_swap_20 (by decide) ?_
    refine J_aload_n hx dX7_swap_23 (i := 0) rfl rfl ?_
    refine J_bipush (v := -2) hx dX7_swap_24 (by decide) ?_
    refine J_invV (As := [vI ((-2))]) (st := [vI ((-1000))]) hx lk_X7_99 okX7_refuse dX7_swap_26 hT.o (by decide) rfl rfl rfl (Nat.le_of_ble_eq_true rfl) (Nat.zero_add _).symm (Nat.zero_add _).symm rfl (c_X7_refuseS hT hN hW (k := 0) (by decide) ?_)
    intro M1 hN1 hf1
    refine J_iadd (v := (-1002)) hx dX7_swap_29 (w32_id (by decide) (by decide)) ?_
    refine J_iret hx hr dX7_swap_30 ?_
    exact hQ.to (v := (-1002)) (S := rfS S 0) (by
      unfold a_swap
      all_goals (try unfold overY at *)
      all_goals (try unfold mayQ at *)
      all_goals (try simp only [Int.toNat_natCast] at *)
      all_goals ((repeat' split) <;> first | rfl | (exfalso; omega) | (congr 1; omega))) hN1 hf1
  · refine J_iload_n hx dX7_swap_10 (i := 2) rfl rfl ?_
    refine J_i2l hx dX7_swap_11 ?_
    refine J_lconst (v := 0) hx dX7_swap_12 (by decide) ?_
    refine J_lconst (v := 1) hx dX7_swap_13 (by decide) ?_
    refine J_invS (As := [vL (e), vL (0), vL (1)]) (st := []) hx lk_X7_85 okX7_in dX7_swap_14 rfl rfl (Nat.le_of_ble_eq_true rfl) (Nat.zero_add _).symm (Nat.zero_add _).symm rfl (c_X7_in (a := e) (lo := 0) (hi := 1) ?_)
    intro v3 hv3
    refine J_if_ne (tgt := 31) hx dX7_swap_17 (by decide) (fun c4 => ?_) (fun c4 => ?_)
    · obtain ⟨cN, rfl⟩ : ∃ z : Nat, c = ((z : Nat) : Int) := ⟨c.toNat, by omega⟩
      have hl9 := hW.y.len8 (c := cN) (by omega)
      refine J_aload_n hx dX7_swap_31 (i := 0) rfl rfl ?_
      refine J_getR (b := r + 25) hx fl_X7_57 cl_X7 dX7_swap_32 hT.o (by decide) rfl hT.r16 ?_
      refine J_iload_n hx dX7_swap_35 (i := 1) rfl rfl ?_
      refine J_iald2 (v := (((S.1.ch cN).length : Nat) : Int)) hx cN dX7_swap_36 hT.k25 (by omega) (hT.l25 (by omega)) (hN.y.sz (by omega)) ?_
      have rg5 := hW.y.len8 (c := cN) (by omega)
      have rg6 := hW.y.lenN (c := cN) (by omega)
      refine J_iconst (v := 2) hx dX7_swap_37 (by decide) ?_
      refine J_icmp_ge (tgt := 52) hx dX7_swap_38 (by decide) (fun c7 => ?_) (fun c7 => ?_)
      · refine J_aload_n hx dX7_swap_52 (i := 0) rfl rfl ?_
        refine J_aload_n hx dX7_swap_53 (i := 0) rfl rfl ?_
        refine J_getR (b := r + 22) hx fl_X7_54 cl_X7 dX7_swap_54 hT.o (by decide) rfl hT.r15 ?_
        refine J_iload_n hx dX7_swap_57 (i := 1) rfl rfl ?_
        refine J_aald (b := r + 23 + cN) hx cN dX7_swap_58 hT.k22 (by decide) (by omega) (hT.l22 (by omega)) (hT.f22 (by omega)) ?_
        refine J_aload_n hx dX7_swap_59 (i := 0) rfl rfl ?_
        refine J_getR (b := r + 25) hx fl_X7_57 cl_X7 dX7_swap_60 hT.o (by decide) rfl hT.r16 ?_
        refine J_iload_n hx dX7_swap_63 (i := 1) rfl rfl ?_
        refine J_iald2 (v := (((S.1.ch cN).length : Nat) : Int)) hx cN dX7_swap_64 hT.k25 (by omega) (hT.l25 (by omega)) (hN.y.sz (by omega)) ?_
        have rg8 := hW.y.len8 (c := cN) (by omega)
        have rg9 := hW.y.lenN (c := cN) (by omega)
        refine J_invV (As := [vR (r + 23 + cN), vI ((((S.1.ch cN).length : Nat) : Int))]) (st := []) hx lk_X7_270 okX7_leastOf dX7_swap_65 hT.o (by decide) rfl rfl rfl (Nat.le_of_ble_eq_true rfl) (Nat.zero_add _).symm (Nat.zero_add _).symm rfl (c_X7_leastOf hT hN.y hW.y (l := S.1.ch cN) (q := r + 23 + cN) (hT.kl (by omega)) (hT.nl (by omega)) (fun k9 h9 => hN.y.ln (by omega) h9) (fun p9 h9 => hW.y.lt (by omega) h9) (by omega) ?_)
        rw [least1_S (by omega)]
        refine J_istore_n (lsn := [vR (r), vI (((cN : Nat) : Int)), vI (e), vI (leastS S.1 (S.1.ch cN)), vU, vU, vU, vU]) hx dX7_swap_68 (i := 3) rfl (Nat.le_of_ble_eq_true rfl) rfl rfl ?_
        refine J_iconst (v := -1) hx dX7_swap_69 (by decide) ?_
        refine J_istore (lsn := [vR (r), vI (((cN : Nat) : Int)), vI (e), vI (leastS S.1 (S.1.ch cN)), vI ((-1)), vU, vU, vU]) hx dX7_swap_70 (Nat.le_of_ble_eq_true rfl) rfl rfl ?_
        refine J_iconst (v := 0) hx dX7_swap_72 (by decide) ?_
        refine J_istore (lsn := [vR (r), vI (((cN : Nat) : Int)), vI (e), vI (leastS S.1 (S.1.ch cN)), vI ((-1)), vI (0), vU, vU]) hx dX7_swap_73 (Nat.le_of_ble_eq_true rfl) rfl rfl ?_
        refine J_iconst (v := 0) hx dX7_swap_75 (by decide) ?_
        refine J_istore (lsn := [vR (r), vI (((cN : Nat) : Int)), vI (e), vI (leastS S.1 (S.1.ch cN)), vI ((-1)), vI (0), vI (0), vU]) hx dX7_swap_76 (Nat.le_of_ble_eq_true rfl) rfl rfl ?_
        exact lp_X7_swap hT hN hW hx hr (by omega) (by omega) (by omega) hQ 0 _ _ _ M hN.y FrN.rf (by omega) (Or.inl ⟨rfl, rfl⟩)
      · refine J_sipush (v := -1000) hx dX7_swap_41 (by decide) ?_
        refine J_aload_n hx dX7_swap_44 (i := 0) rfl rfl ?_
        refine J_bipush (v := -5) hx dX7_swap_45 (by decide) ?_
        refine J_invV (As := [vI ((-5))]) (st := [vI ((-1000))]) hx lk_X7_99 okX7_refuse dX7_swap_47 hT.o (by decide) rfl rfl rfl (Nat.le_of_ble_eq_true rfl) (Nat.zero_add _).symm (Nat.zero_add _).symm rfl (c_X7_refuseS hT hN hW (k := 3) (by decide) ?_)
        intro M1 hN1 hf1
        refine J_iadd (v := (-1005)) hx dX7_swap_50 (w32_id (by decide) (by decide)) ?_
        refine J_iret hx hr dX7_swap_51 ?_
        exact hQ.to (v := (-1005)) (S := rfS S 3) (by
          unfold a_swap
          all_goals (try unfold overY at *)
          all_goals (try unfold mayQ at *)
          all_goals (try simp only [Int.toNat_natCast] at *)
          all_goals ((repeat' split) <;> first | rfl | (exfalso; omega) | (congr 1; omega))) hN1 hf1
    · refine J_sipush (v := -1000) hx dX7_swap_20 (by decide) ?_
      refine J_aload_n hx dX7_swap_23 (i := 0) rfl rfl ?_
      refine J_bipush (v := -2) hx dX7_swap_24 (by decide) ?_
      refine J_invV (As := [vI ((-2))]) (st := [vI ((-1000))]) hx lk_X7_99 okX7_refuse dX7_swap_26 hT.o (by decide) rfl rfl rfl (Nat.le_of_ble_eq_true rfl) (Nat.zero_add _).symm (Nat.zero_add _).symm rfl (c_X7_refuseS hT hN hW (k := 0) (by decide) ?_)
      intro M1 hN1 hf1
      refine J_iadd (v := (-1002)) hx dX7_swap_29 (w32_id (by decide) (by decide)) ?_
      refine J_iret hx hr dX7_swap_30 ?_
      exact hQ.to (v := (-1002)) (S := rfS S 0) (by
        unfold a_swap
        all_goals (try unfold overY at *)
        all_goals (try unfold mayQ at *)
        all_goals (try simp only [Int.toNat_natCast] at *)
        all_goals ((repeat' split) <;> first | rfl | (exfalso; omega) | (congr 1; omega))) hN1 hf1

