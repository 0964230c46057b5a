def imgS (S : ST) : ST := (S.1, some S.1, S.sh, S.tp, S.rf)
def a_image (S : ST) : Int × ST := (1, imgS S)
def bkSh (S : ST) (K : YA) (k s : Nat) : Int × Int × (Nat → Int) := if s < k ∧ 10 ≤ (S.sh s).1 ∧ ((K.n : Nat) : Int) ≤ (S.sh s).1 - 10 then (-1, (S.sh s).2) else S.sh s
def bkS (S : ST) (K : YA) (k : Nat) : ST := (K, some K, bkSh S K k, S.tp, S.rf)
def a_back (S : ST) : Int × ST := match S.K with
  | none => rA S 3
  | some K => (1, bkS S K 8)
theorem bkSh_at (S : ST) (K : YA) (k : Nat) : bkSh S K k k = S.sh k := if_neg (fun h => Nat.lt_irrefl k h.1)
theorem bkSh_0 (S : ST) (K : YA) : bkSh S K 0 = S.sh := funext fun s => if_neg (fun h => Nat.not_lt_zero s h.1)
theorem bkS_f {S : ST} {K : YA} {k : Nat} (h : ¬ (10 ≤ (S.sh k).1 ∧ ((K.n : Nat) : Int) ≤ (S.sh k).1 - 10)) : bkS S K k = bkS S K (k + 1) := by
  have e : bkSh S K k = bkSh S K (k + 1) := funext fun s => by
    unfold bkSh
    by_cases e1 : s = k
    · subst e1; rw [if_neg (fun q => Nat.lt_irrefl _ q.1), if_neg (fun q => h q.2)]
    · by_cases e2 : s < k ∧ 10 ≤ (S.sh s).1 ∧ ((K.n : Nat) : Int) ≤ (S.sh s).1 - 10
      · rw [if_pos e2, if_pos ⟨by omega, e2.2⟩]
      · rw [if_neg e2, if_neg (fun q => e2 ⟨by omega, q.2⟩)]
  unfold bkS; rw [e]
theorem bkS_t {S : ST} {K : YA} {k : Nat} (h : 10 ≤ (S.sh k).1 ∧ ((K.n : Nat) : Int) ≤ (S.sh k).1 - 10) : shS (bkS S K k) k (-1, (S.sh k).2) = bkS S K (k + 1) := by
  have e : (fun s' => if s' = k then (-1, (S.sh k).2) else bkSh S K k s') = bkSh S K (k + 1) := funext fun s => by
    by_cases e1 : s = k
    · subst e1; rw [if_pos rfl]; unfold bkSh; rw [if_pos ⟨by omega, h⟩]
    · rw [if_neg e1]; unfold bkSh
      by_cases e2 : s < k ∧ 10 ≤ (S.sh s).1 ∧ ((K.n : Nat) : Int) ≤ (S.sh s).1 - 10
      · rw [if_pos e2, if_pos ⟨by omega, e2.2⟩]
      · rw [if_neg e2, if_neg (fun q => e2 ⟨by omega, q.2⟩)]
  show (K, some K, (fun s' => if s' = k then (-1, (S.sh k).2) else bkSh S K k s'), S.tp, S.rf) = _
  rw [e]; rfl
theorem bkS_0 {S : ST} {K : YA} (h : S.K = some K) : bkS S K 0 = yS S K := by
  unfold bkS yS; rw [bkSh_0, h]
set_option maxHeartbeats 4000000 in
theorem c_X6_image {g : WG} {d : Nat} {T : TT} {M : MM} {o sz : Nat} {S : ST} {Q : MVal → TT → MM → Nat → Prop} (hC : CT T o) (hN : CN M o S) (hW : WFS S) (hQ : CQ o T M sz Q (a_image S)) : Ct g (d + 2) mX6_image [vR (o)] T M sz 0 0 Q := by
  refine Ct_of2 (ls := [vR (o)]) okX6_image rfl (Nat.le_of_ble_eq_true rfl) rfl ?_
  intro x hx hr hnm
  refine J_aload_n hx dX6_image_0 (i := 0) rfl rfl ?_
  refine J_getR (b := o + 12) hx fl_X6_16 cl_X6 dX6_image_1 hC.o (by decide) rfl hC.r1 ?_
  refine J_aload_n hx dX6_image_4 (i := 0) rfl rfl ?_
  refine J_getR (b := o + 1) hx fl_X6_10 cl_X6 dX6_image_5 hC.o (by decide) rfl hC.r0 ?_
  refine J_invVv (As := [vR (o + 1)]) (st := []) hx lk_X6_180 okX5_becomeAs dX6_image_8 hC.y1.o (by decide) rfl rfl rfl (Nat.le_of_ble_eq_true rfl) (Nat.zero_add _).symm (Nat.zero_add _).symm rfl (c_X5_becomeAs hC.y1 hC.y0 hN.y hW.y (by omega) ?_)
  intro M1 hY1 hF1
  refine J_aload_n hx dX6_image_11 (i := 0) rfl rfl ?_
  refine J_iconst (v := 1) hx dX6_image_12 (by decide) ?_
  refine J_putI hx fl_X6_320 cl_X6 dX6_image_13 hC.o (by decide) rfl (Or.inr (Or.inr rfl)) (by decide) ?_
  refine J_iconst (v := 1) hx dX6_image_16 (by decide) ?_
  refine J_iret hx hr dX6_image_17 ?_
  obtain ⟨k2, k3, k4, ⟨k5, k6⟩, k7⟩ := hN
  have hr : ∀ a, a ≠ o → (a < o + 12 ∨ o + 23 ≤ a) → up2 M1 o 9 1 a = M a := fun a9 h8 h9 => by rw [up2_row h8, hF1 a9 h9]
  refine hQ.to (v := 1) (S := imgS S) rfl hC ⟨k2.same (fun a9 h8 h9 => hr a9 (by omega) (by omega)), Or.inr ⟨S.1, rfl, up2_at, hY1.same (fun a9 h8 h9 => up2_row (by omega))⟩, fun s hs => ?_, ⟨by rw [hr _ (by omega) (by omega)]; exact k5, fun j hj => by rw [hr _ (by omega) (by omega)]; exact k6 j hj⟩, fun j hj => by rw [hr _ (by omega) (by omega)]; exact k7 j hj⟩ (fun b hb => hr b (by omega) (by omega))
  rw [hr _ (by omega) (by omega), hr _ (by omega) (by omega)]; exact k4 s hs

set_option maxHeartbeats 4000000 in
theorem c_X6_back_0 {g : WG} {d : Nat} {T : TT} {M : MM} {o sz : Nat} {S : ST} {Q : MVal → TT → MM → Nat → Prop} (hC : CT T o) (hN : CN M o S) (hW : WFS S) (k1 : S.K = none) (k2 : M o 9 = 0) (hQ : CQ o T M sz Q (a_back S)) : Ct g (d + 2) mX6_back [vR (o)] T M sz 0 0 Q := by
  refine Ct_of2 (ls := [vR (o), vU]) okX6_back rfl (Nat.le_of_ble_eq_true rfl) rfl ?_
  intro x hx hr hnm
  refine J_aload_n hx dX6_back_0 (i := 0) rfl rfl ?_
  refine J_getI2 (v := 0) hx fl_X6_320 cl_X6 dX6_back_1 hC.o (by decide) rfl k2 ?_
  refine J_if_ne (tgt := 14) hx dX6_back_4 (by decide) (fun c9 => absurd c9 (by decide)) (fun _ => ?_)
  refine J_aload_n hx dX6_back_7 (i := 0) rfl rfl ?_
  refine J_bipush (v := -5) hx dX6_back_8 (by decide) ?_
  refine J_invV (As := [vI ((-5))]) (st := []) hx lk_X6_67 okX6_refuse dX6_back_10 hC.o (by decide) rfl rfl rfl (Nat.le_of_ble_eq_true rfl) (Nat.zero_add _).symm (Nat.zero_add _).symm rfl (c_X6_refuse hC hN hW (k := 3) (by decide) ?_)
  intro M1 hN1 hf1
  refine J_iret hx hr dX6_back_13 ?_
  exact hQ.to (v := -((3 + 2 : Nat) : Int)) (S := rfS S 3) (by unfold a_back; rw [k1]; rfl) hC hN1 hf1

set_option maxHeartbeats 4000000 in
theorem lp_X6_back {g : WG} {d : Nat} {T : TT} {M : MM} {o sz : Nat} {S : ST} {Q : MVal → TT → MM → Nat → Prop} (hC : CT T o) (hN : CN M o S) (hW : WFS S) {x : CX} (hx : OKx g x RX6 cX6_back (d + 2)) (hr : RTx g x (some .int) Q) {K : YA} (hWK : WFY K) (hQ : CQ o T M sz Q (1, bkS S K 8)) (k : Nat) (M1 : MM) (hk : k ≤ 8) (hN1 : CN M1 o (bkS S K k)) (hF1 : ∀ b, (b < o ∨ o + 83 ≤ b) → M1 b = M b) : Jd g x 27 [vR (o), vI (((k : Nat) : Int))] [] T M1 sz 0 0 := by
  have hn8 := hW.y.n8
  refine J_iload_n hx dX6_back_27 (i := 1) rfl rfl ?_
  refine J_bipush (v := 8) hx dX6_back_28 (by decide) ?_
  refine J_icmp_ge (tgt := 83) hx dX6_back_30 (by decide) (fun c1 => ?_) (fun c1 => ?_)
  · refine J_iconst (v := 1) hx dX6_back_83 (by decide) ?_
    refine J_iret hx hr dX6_back_84 ?_
    have ek : k = 8 := by omega
    subst ek
    exact hQ.to (v := 1) (S := bkS S K 8) rfl hC hN1 hF1
  · have hk8 : k < 8 := by omega
    have hh : M1 (o + 67 + 2 * k) 1 = (S.sh k).1 := by
      have h9 := hN1.hd (s := k) hk8
      rw [show (bkS S K k).sh k = S.sh k from bkSh_at S K k] at h9
      exact h9
    have hrg := hW.h hk8
    refine J_aload_n hx dX6_back_33 (i := 0) rfl rfl ?_
    refine J_getR (b := o + 65) hx fl_X6_54 cl_X6 dX6_back_34 hC.o (by decide) rfl hC.r7 ?_
    refine J_iload_n hx dX6_back_37 (i := 1) rfl rfl ?_
    refine J_aald (b := o + 67 + 2 * k) hx k dX6_back_38 hC.k65 (by decide) (by omega) (by rw [hC.n65]; omega) (hC.sre (by omega)) ?_
    refine J_invV (As := []) (st := []) hx lk_X6_90 okX3_isSomebody dX6_back_39 (hC.skd (by omega)) (by decide) rfl rfl rfl (Nat.le_of_ble_eq_true rfl) (Nat.zero_add _).symm (Nat.zero_add _).symm rfl (c_X3_isSomebody (hC.sht hk8) (h := (S.sh k).1) hh ?_)
    intro vs hvs
    refine J_if_eq (tgt := 77) hx dX6_back_42 (by decide) (fun c2 => ?_) (fun c2 => ?_)
    · refine J_iinc (v := ((k : Nat) : Int) + 1) (lsn := [vR (o), vI (((k : Nat) : Int) + 1)]) hx dX6_back_77 rfl (jinc1 (by omega) (by omega)) rfl rfl ?_
      refine J_goto (tgt := 27) hx dX6_back_80 (by decide) ?_
      exact lp_X6_back hC hN hW hx hr hWK hQ (k + 1) M1 (by omega) (by rw [← bkS_f (K := K) (by first | omega | (have hnn : (bkS S K k).1.n = K.n := rfl; omega))]; exact hN1) hF1
    · refine J_aload_n hx dX6_back_45 (i := 0) rfl rfl ?_
      refine J_getR (b := o + 1) hx fl_X6_10 cl_X6 dX6_back_46 hC.o (by decide) rfl hC.r0 ?_
      refine J_aload_n hx dX6_back_49 (i := 0) rfl rfl ?_
      refine J_getR (b := o + 65) hx fl_X6_54 cl_X6 dX6_back_50 hC.o (by decide) rfl hC.r7 ?_
      refine J_iload_n hx dX6_back_53 (i := 1) rfl rfl ?_
      refine J_aald (b := o + 67 + 2 * k) hx k dX6_back_54 hC.k65 (by decide) (by omega) (by rw [hC.n65]; omega) (hC.sre (by omega)) ?_
      refine J_getI2 (v := (S.sh k).1) hx fl_X6_87 cl_X3 dX6_back_55 (hC.skd hk8) (by decide) rfl hh ?_
      refine J_bipush (v := 10) hx dX6_back_58 (by decide) ?_
      refine J_isub (v := (S.sh k).1 - 10) hx dX6_back_60 (w32_id (by omega) (by omega)) ?_
      refine J_invV (As := [vI ((S.sh k).1 - 10)]) (st := []) hx lk_X6_111 okX5_has dX6_back_61 hC.y0.o (by decide) rfl rfl rfl (Nat.le_of_ble_eq_true rfl) (Nat.zero_add _).symm (Nat.zero_add _).symm rfl (c_X5_has hC.y0 hN1.y hWK (one := (S.sh k).1 - 10) ?_)
      intro vh hvh
      refine J_if_ne (tgt := 77) hx dX6_back_64 (by decide) (fun c3 => ?_) (fun c3 => ?_)
      · refine J_iinc (v := ((k : Nat) : Int) + 1) (lsn := [vR (o), vI (((k : Nat) : Int) + 1)]) hx dX6_back_77 rfl (jinc1 (by omega) (by omega)) rfl rfl ?_
        refine J_goto (tgt := 27) hx dX6_back_80 (by decide) ?_
        exact lp_X6_back hC hN hW hx hr hWK hQ (k + 1) M1 (by omega) (by rw [← bkS_f (K := K) (by first | omega | (have hnn : (bkS S K k).1.n = K.n := rfl; omega))]; exact hN1) hF1
      · refine J_aload_n hx dX6_back_67 (i := 0) rfl rfl ?_
        refine J_getR (b := o + 65) hx fl_X6_54 cl_X6 dX6_back_68 hC.o (by decide) rfl hC.r7 ?_
        refine J_iload_n hx dX6_back_71 (i := 1) rfl rfl ?_
        refine J_aald (b := o + 67 + 2 * k) hx k dX6_back_72 hC.k65 (by decide) (by omega) (by rw [hC.n65]; omega) (hC.sre (by omega)) ?_
        refine J_iconst (v := -1) hx dX6_back_73 (by decide) ?_
        refine J_putI hx fl_X6_87 cl_X3 dX6_back_74 (hC.skd hk8) (by decide) rfl (Or.inl rfl) (by decide) ?_
        generalize eM2 : up2 M1 (o + 67 + 2 * k) 1 (-1) = M2
        have hM2a : M2 (o + 67 + 2 * k) 1 = (-1) := by rw [← eM2]; exact up2_at
        have hM2o : ∀ b9 j9, (b9 ≠ o + 67 + 2 * k ∨ j9 ≠ 1) → M2 b9 j9 = M1 b9 j9 := fun b9 j9 h9 => by rw [← eM2]; exact up2_ne h9
        have hM2r : ∀ b9, b9 ≠ o + 67 + 2 * k → M2 b9 = M1 b9 := fun b9 h9 => by rw [← eM2]; exact up2_row h9
        refine J_iinc (v := ((k : Nat) : Int) + 1) (lsn := [vR (o), vI (((k : Nat) : Int) + 1)]) hx dX6_back_77 rfl (jinc1 (by omega) (by omega)) rfl rfl ?_
        refine J_goto (tgt := 27) hx dX6_back_80 (by decide) ?_
        exact lp_X6_back hC hN hW hx hr hWK hQ (k + 1) M2 (by omega) (by rw [← bkS_t (K := K) (by have hnn : (bkS S K k).1.n = K.n := rfl; omega)]; exact hN1.shelf hk8 hM2a (fun q9 => absurd q9.1 (show ¬ (0 : Int) ≤ -1 by decide)) (fun a9 h8 h9 => hM2r a9 h8)) (fun b9 h9 => by rw [hM2r b9 (by omega)]; exact hF1 b9 h9)
termination_by 8 - k
decreasing_by all_goals omega

set_option maxHeartbeats 4000000 in
theorem c_X6_back_1 {g : WG} {d : Nat} {T : TT} {M : MM} {o sz : Nat} {S : ST} {Q : MVal → TT → MM → Nat → Prop} (hC : CT T o) (hN : CN M o S) (hW : WFS S) {K : YA} (k1 : S.K = some K) (k2 : M o 9 = 1) (k3 : YN M (o + 12) K) (hQ : CQ o T M sz Q (a_back S)) : Ct g (d + 2) mX6_back [vR (o)] T M sz 0 0 Q := by
  refine Ct_of2 (ls := [vR (o), vU]) okX6_back rfl (Nat.le_of_ble_eq_true rfl) rfl ?_
  intro x hx hr hnm
  have hWK : WFY K := hW.2.1 K k1
  refine J_aload_n hx dX6_back_0 (i := 0) rfl rfl ?_
  refine J_getI2 (v := 1) hx fl_X6_320 cl_X6 dX6_back_1 hC.o (by decide) rfl k2 ?_
  refine J_if_ne (tgt := 14) hx dX6_back_4 (by decide) (fun _ => ?_) (fun c9 => absurd c9 (by decide))
  refine J_aload_n hx dX6_back_14 (i := 0) rfl rfl ?_
  refine J_getR (b := o + 1) hx fl_X6_10 cl_X6 dX6_back_15 hC.o (by decide) rfl hC.r0 ?_
  refine J_aload_n hx dX6_back_18 (i := 0) rfl rfl ?_
  refine J_getR (b := o + 12) hx fl_X6_16 cl_X6 dX6_back_19 hC.o (by decide) rfl hC.r1 ?_
  refine J_invVv (As := [vR (o + 12)]) (st := []) hx lk_X6_180 okX5_becomeAs dX6_back_22 hC.y0.o (by decide) rfl rfl rfl (Nat.le_of_ble_eq_true rfl) (Nat.zero_add _).symm (Nat.zero_add _).symm rfl (c_X5_becomeAs hC.y0 hC.y1 k3 hWK (by omega) ?_)
  intro M1 hY1 hF1
  refine J_iconst (v := 0) hx dX6_back_25 (by decide) ?_
  refine J_istore_n (lsn := [vR (o), vI (0)]) hx dX6_back_26 (i := 1) rfl (Nat.le_of_ble_eq_true rfl) rfl rfl ?_
  exact lp_X6_back hC hN hW hx hr hWK (by unfold a_back at hQ; rw [k1] at hQ; exact hQ) 0 M1 (by omega) (by rw [bkS_0 k1]; exact hN.yard hY1 hF1) (fun b9 h9 => hF1 b9 (by omega))

theorem c_X6_back {g : WG} {d : Nat} {T : TT} {M : MM} {o sz : Nat} {S : ST} {Q : MVal → TT → MM → Nat → Prop} (hC : CT T o) (hN : CN M o S) (hW : WFS S) (hQ : CQ o T M sz Q (a_back S)) : Ct g (d + 2) mX6_back [vR (o)] T M sz 0 0 Q := by
  rcases hN.2.1 with ⟨k1, k2⟩ | ⟨K, k1, k2, k3⟩
  · exact c_X6_back_0 hC hN hW k1 k2 hQ
  · exact c_X6_back_1 hC hN hW k1 k2 k3 hQ
theorem t_X7_image {g : WG} {d : Nat} {T : TT} {M : MM} {r sz : Nat} {S : ST} {Q : MVal → TT → MM → Nat → Prop} {x : CX} {b : Nat} {tr de dd : Option Nat} (hx : OKx g x RX7 cX7_image (d + 3)) (hr : RTx g x (some .int) Q) (hN : RN M r S) (hT : RT T r sz (some b) tr de dd) (hW : WFS S)
    (hQ : ∀ M', RX T M' r sz (imgS S) → (∀ a, a < r → M' a = M a) → Q (vI 1) T M' sz) : Jd g x 18 [vR r] [] T M sz 0 0 := by
  have hb := hT.2.2.2.1.1 b rfl
  refine J_aload_n hx dX7_image_18 (i := 0) rfl rfl ?_
  refine J_getR (b := b) hx fl_X7_364 cl_X7 dX7_image_19 hT.1.o (by decide) rfl hT.2.2.1.1 ?_
  refine J_aload_n hx dX7_image_22 (i := 0) rfl rfl ?_
  refine J_invVv (As := [vR r]) (st := []) hx lk_X7_257 okX7_takeFrom dX7_image_23 hb.1.o (by decide) rfl rfl rfl (Nat.le_of_ble_eq_true rfl) (Nat.zero_add _).symm (Nat.zero_add _).symm rfl (c_X7_takeFrom hb.1 hT.1 hN.y hW.y (by omega) ?_)
  intro M1 hN1 hF1
  refine J_iconst (v := 1) hx dX7_image_26 (by decide) ?_
  refine J_iret hx hr dX7_image_27 ?_
  have hm : ∀ a, r ≤ a → a < r + 29 → M1 a = M a := fun a ha hb2 => hF1.out (by omega)
  refine hQ M1 ⟨?_, some b, tr, de, dd, hT, Or.inr ⟨S.1, b, rfl, rfl, hN1⟩⟩ (fun a ha => hF1.out (by omega))
  obtain ⟨k2, k4, ⟨k5, k6⟩, k7⟩ := hN
  refine ⟨k2.same (fun a j h8 => by rw [hm _ (by omega) (by omega)]), fun s hs => ?_, ⟨by rw [hm _ (by omega) (by omega)]; exact k5, fun j hj => by rw [hm _ (by omega) (by omega)]; exact k6 j hj⟩, fun j hj => by rw [hm _ (by omega) (by omega)]; exact k7 j hj⟩
  rw [hm _ (by omega) (by omega), hm _ (by omega) (by omega), hm _ (by omega) (by omega), hm _ (by omega) (by omega), hm _ (by omega) (by omega)]
  exact k4 s hs
theorem c_X7_image {g : WG} {d : Nat} {T : TT} {M : MM} {r sz : Nat} {S : ST} {Q : MVal → TT → MM → Nat → Prop} (hX : RX T M r sz S) (hW : WFS S) (hQ : RQX r T M sz Q (a_image S)) : Ct g (d + 3) mX7_image [vR r] T M sz 29 777 Q := by
  refine Ct_of2 (ls := [vR r]) okX7_image rfl (Nat.le_of_ble_eq_true rfl) rfl ?_
  intro x hx hr hnm
  refine J_aload_n hx dX7_image_0 (i := 0) rfl rfl ?_
  refine J_getN (r := (T r).2.2 24) hx fl_X7_364 cl_X7 dX7_image_1 hX.t.o (by decide) rfl rfl ?_
  obtain ⟨h1, kp, tr, de, dd, hT, h3⟩ := hX
  refine J_ifnonnull (tgt := 18) hx dX7_image_4 (by decide) (fun t ht => ?_) (fun hnn => ?_)
  · have e : kp = some t := hT.2.2.1.1.symm.trans ht
    subst e
    exact J_weak (t_X7_image hx hr h1 hT hW (fun M1 k1 k3 => hQ.to rfl k1 (fun b hb => ⟨rfl, k3 b hb⟩))) (by decide) (by decide)
  · have hsz : r + 29 ≤ sz := hT.2.1
    refine nb_X7_image (uu := vU) (nc := 0) (ns := 0) hx hT.1.o (by omega) (fun T1 M1 hB => ?_)
    obtain ⟨a1, a2, ⟨b1, b2, b3⟩, ⟨c1, c2, c3, c4⟩, ⟨d1, d2⟩, e1, e2, e3, e4⟩ := hT
    have hJ : (24 : Nat) = 24 ∨ (24 : Nat) = 25 ∨ (24 : Nat) = 26 := by decide
    have hT1 : RT T1 r (sz + 29) (some sz) tr de dd := by
      refine ⟨hB.mt hJ a1 a2, by omega, ⟨hB.2.2.1, ?_, ?_⟩, ⟨hB.bn a2, hB.bk hJ c2, hB.bk hJ c3, hB.bk hJ c4⟩, ⟨fun b e => ?_, d2⟩, c2.ap.sy, c3.ap.sy, c4.ap.sy, e4⟩
      · rw [(hB.2.2.2.1 r (by omega)).2.2.2 25 (Or.inr (by decide))]; exact b2
      · rw [(hB.2.2.2.1 r (by omega)).2.2.2 26 (Or.inr (by decide))]; exact b3
      · rw [(hB.2.2.2.1 b (by have := (c3 b e).2.2; omega)).2.2.2 26 (Or.inr (by decide))]; exact d1 b e
    exact t_X7_image hx hr (hB.rn a2 h1) hT1 hW (fun M2 k1 k3 => hQ.to rfl k1 (fun b hb => ⟨(hB.lo (by omega) b hb).1, by rw [k3 b hb, (hB.lo (by omega) b hb).2]⟩))
set_option maxHeartbeats 4000000 in
theorem c_X7_back_0 {g : WG} {d : Nat} {T : TT} {M : MM} {r sz : Nat} {S : ST} {Q : MVal → TT → MM → Nat → Prop} (hX : RX T M r sz S) (hW : WFS S) (k1 : S.K = none) (hb : (T r).2.2 24 = none) (hQ : RQX r T M sz Q (a_back S)) : Ct g (d + 3) mX7_back [vR (r)] T M sz 0 0 Q := by
  refine Ct_of2 (ls := [vR (r), vU]) okX7_back rfl (Nat.le_of_ble_eq_true rfl) rfl ?_
  intro x hx hr hnm
  have hT := hX.t
  have hN := hX.n
  refine J_aload_n hx dX7_back_0 (i := 0) rfl rfl ?_
  refine J_getN (r := none) hx fl_X7_364 cl_X7 dX7_back_1 hT.o (by decide) rfl hb ?_
  refine J_ifnonnull (tgt := 14) hx dX7_back_4 (by decide) (fun a9 h9 => by cases h9) (fun _ => ?_)
  refine J_aload_n hx dX7_back_7 (i := 0) rfl rfl ?_
  refine J_bipush (v := -5) hx dX7_back_8 (by decide) ?_
  refine J_invV (As := [vI ((-5))]) (st := []) hx lk_X7_99 okX7_refuse dX7_back_10 hT.o (by decide) rfl rfl rfl (Nat.le_of_ble_eq_true rfl) (Nat.zero_add _).symm (Nat.zero_add _).symm rfl (c_X7_refuseS hT hN hW (k := 3) (by decide) ?_)
  intro M1 hN1 hf1
  refine J_iret hx hr dX7_back_13 ?_
  exact hQ.to (v := -((3 + 2 : Nat) : Int)) (S := rfS S 3) (by unfold a_back; rw [k1]; rfl) (hX.rq rfl hN1 hf1) (fun b hb => ⟨rfl, hf1 b (Or.inl hb)⟩)

set_option maxHeartbeats 4000000 in
theorem lp_X7_back {g : WG} {d : Nat} {T : TT} {M : MM} {r sz : Nat} {S : ST} {Q : MVal → TT → MM → Nat → Prop} (hT : MT T r) (hN : RN M r S) (hW : WFS S) {x : CX} (hx : OKx g x RX7 cX7_back (d + 3)) (hr : RTx g x (some .int) Q) {K : YA} (hQ : ∀ M', RN M' r (bkS S K 8) → (∀ b, (b < r ∨ r + 29 ≤ b) → M' b = M b) → Q (vI 1) T M' sz) (k : Nat) (M1 : MM) (hk : k ≤ 8) (hN1 : RN M1 r (bkS S K k)) (hF1 : ∀ b, (b < r ∨ r + 29 ≤ b) → M1 b = M b) : Jd g x 24 [vR (r), vI (((k : Nat) : Int))] [] T M1 sz 0 0 := by
  refine J_iload_n hx dX7_back_24 (i := 1) rfl rfl ?_
  refine J_bipush (v := 8) hx dX7_back_25 (by decide) ?_
  refine J_icmp_ge (tgt := 66) hx dX7_back_27 (by decide) (fun c1 => ?_) (fun c1 => ?_)
  · refine J_iconst (v := 1) hx dX7_back_66 (by decide) ?_
    refine J_iret hx hr dX7_back_67 ?_
    have ek : k = 8 := by omega
    subst ek
    exact hQ M1 hN1 hF1
  · have hk8 : k < 8 := by omega
    have hrg := shc_rg hW hk8
    refine J_aload_n hx dX7_back_30 (i := 0) rfl rfl ?_
    refine J_getR (b := r + 1) hx fl_X7_7 cl_X7 dX7_back_31 hT.o (by decide) rfl hT.r0 ?_
    refine J_iload_n hx dX7_back_34 (i := 1) rfl rfl ?_
    refine J_iald2 (v := shc (S.sh k).1) hx k dX7_back_35 hT.k1 (by omega) (hT.l1 (by omega)) (by have h9 := hN1.sc (s := k) hk8; rw [show (bkS S K k).sh k = S.sh k from bkSh_at S K k] at h9; exact h9) ?_
    refine J_iconst (v := 2) hx dX7_back_36 (by decide) ?_
    refine J_icmp_ne (tgt := 60) hx dX7_back_37 (by decide) (fun c2 => ?_) (fun c2 => ?_)
    · refine J_iinc (v := ((k : Nat) : Int) + 1) (lsn := [vR (r), vI (((k : Nat) : Int) + 1)]) hx dX7_back_60 rfl (jinc1 (by omega) (by omega)) rfl rfl ?_
      refine J_goto (tgt := 24) hx dX7_back_63 (by decide) ?_
      exact lp_X7_back hT hN hW hx hr hQ (k + 1) M1 (by omega) (by rw [← bkS_f (K := K) (by omega)]; exact hN1) hF1
    · refine J_aload_n hx dX7_back_40 (i := 0) rfl rfl ?_
      refine J_getR (b := r + 14) hx fl_X7_28 cl_X7 dX7_back_41 hT.o (by decide) rfl hT.r5 ?_
      refine J_iload_n hx dX7_back_44 (i := 1) rfl rfl ?_
      refine J_iald2 (v := (S.sh k).1 - 10) hx k dX7_back_45 hT.k14 (by omega) (hT.l14 (by omega)) (by have h9 := hN1.sp (s := k) hk8; rw [show (bkS S K k).sh k = S.sh k from bkSh_at S K k] at h9; exact h9 (by omega)) ?_
      refine J_aload_n hx dX7_back_46 (i := 0) rfl rfl ?_
      refine J_getI2 (v := ((K.n : Nat) : Int)) hx fl_X7_82 cl_X7 dX7_back_47 hT.o (by decide) rfl hN1.y.pp ?_
      refine J_icmp_lt (tgt := 60) hx dX7_back_50 (by decide) (fun c3 => ?_) (fun c3 => ?_)
      · refine J_iinc (v := ((k : Nat) : Int) + 1) (lsn := [vR (r), vI (((k : Nat) : Int) + 1)]) hx dX7_back_60 rfl (jinc1 (by omega) (by omega)) rfl rfl ?_
        refine J_goto (tgt := 24) hx dX7_back_63 (by decide) ?_
        exact lp_X7_back hT hN hW hx hr hQ (k + 1) M1 (by omega) (by rw [← bkS_f (K := K) (by omega)]; exact hN1) hF1
      · refine J_aload_n hx dX7_back_53 (i := 0) rfl rfl ?_
        refine J_getR (b := r + 1) hx fl_X7_7 cl_X7 dX7_back_54 hT.o (by decide) rfl hT.r0 ?_
        refine J_iload_n hx dX7_back_57 (i := 1) rfl rfl ?_
        refine J_iconst (v := 0) hx dX7_back_58 (by decide) ?_
        refine J_iast hx k dX7_back_59 hT.k1 (by omega) (hT.l1 (by omega)) ?_
        generalize eM2 : up2 M1 (r + 1) k 0 = M2
        have hM2a : M2 (r + 1) k = 0 := by rw [← eM2]; exact up2_at
        have hM2o : ∀ b9 j9, (b9 ≠ r + 1 ∨ j9 ≠ k) → M2 b9 j9 = M1 b9 j9 := fun b9 j9 h9 => by rw [← eM2]; exact up2_ne h9
        have hM2r : ∀ b9, b9 ≠ r + 1 → M2 b9 = M1 b9 := fun b9 h9 => by rw [← eM2]; exact up2_row h9
        refine J_iinc (v := ((k : Nat) : Int) + 1) (lsn := [vR (r), vI (((k : Nat) : Int) + 1)]) hx dX7_back_60 rfl (jinc1 (by omega) (by omega)) rfl rfl ?_
        refine J_goto (tgt := 24) hx dX7_back_63 (by decide) ?_
        exact lp_X7_back hT hN hW hx hr hQ (k + 1) M2 (by omega) (by rw [← bkS_t (K := K) (by omega)]; exact hN1.shelf hk8 (by rw [hM2a]; rfl) (fun q9 => absurd q9.1 (show ¬ (0 : Int) ≤ -1 by decide)) (fun q9 => absurd q9 (show ¬ (10 : Int) ≤ -1 by decide)) (fun a9 j9 h8 h9 => hM2o a9 j9 (by omega))) (fun b9 h9 => by rw [hM2r b9 (by omega)]; exact hF1 b9 h9)
termination_by 8 - k
decreasing_by all_goals omega

set_option maxHeartbeats 4000000 in
theorem c_X7_back_1 {g : WG} {d : Nat} {T : TT} {M : MM} {r sz : Nat} {S : ST} {Q : MVal → TT → MM → Nat → Prop} (hX : RX T M r sz S) (hW : WFS S) {K : YA} {b : Nat} (k1 : S.K = some K) (hb : (T r).2.2 24 = some b) (hNb : MN M b K) (hBb : MT T b ∧ r + 29 ≤ b ∧ b + 29 ≤ sz) (hQ : RQX r T M sz Q (a_back S)) : Ct g (d + 3) mX7_back [vR (r)] T M sz 0 0 Q := by
  refine Ct_of2 (ls := [vR (r), vU]) okX7_back rfl (Nat.le_of_ble_eq_true rfl) rfl ?_
  intro x hx hr hnm
  have hT := hX.t
  have hN := hX.n
  have hWK : WFY K := hW.2.1 K k1
  refine J_aload_n hx dX7_back_0 (i := 0) rfl rfl ?_
  refine J_getN (r := some b) hx fl_X7_364 cl_X7 dX7_back_1 hT.o (by decide) rfl hb ?_
  refine J_ifnonnull (tgt := 14) hx dX7_back_4 (by decide) (fun a9 h9 => ?_) (fun h9 => by cases h9)
  refine J_aload_n hx dX7_back_14 (i := 0) rfl rfl ?_
  refine J_aload_n hx dX7_back_15 (i := 0) rfl rfl ?_
  refine J_getR (b := b) hx fl_X7_364 cl_X7 dX7_back_16 hT.o (by decide) rfl hb ?_
  refine J_invVv (As := [vR (b)]) (st := []) hx lk_X7_257 okX7_takeFrom dX7_back_19 hT.o (by decide) rfl rfl rfl (Nat.le_of_ble_eq_true rfl) (Nat.zero_add _).symm (Nat.zero_add _).symm rfl (c_X7_takeFrom hT hBb.1 hNb hWK (by omega) ?_)
  intro M1 hY1 hF1
  refine J_iconst (v := 0) hx dX7_back_22 (by decide) ?_
  refine J_istore_n (lsn := [vR (r), vI (0)]) hx dX7_back_23 (i := 1) rfl (Nat.le_of_ble_eq_true rfl) rfl rfl ?_
  refine lp_X7_back hT hN hW hx hr (K := K) (fun M9 h8 h9 => ?_) 0 M1 (by omega) (by rw [bkS_0 k1]; exact hN.yard hY1 hF1) (fun b9 h9 => hF1.out h9)
  exact hQ.to (v := 1) (S := bkS S K 8) (by unfold a_back; rw [k1]) (hX.rq (show some K = S.K from k1.symm) h8 h9) (fun b hb => ⟨rfl, h9 b (Or.inl hb)⟩)

theorem c_X7_back {g : WG} {d : Nat} {T : TT} {M : MM} {r sz : Nat} {S : ST} {Q : MVal → TT → MM → Nat → Prop} (hX : RX T M r sz S) (hW : WFS S) (hQ : RQX r T M sz Q (a_back S)) : Ct g (d + 3) mX7_back [vR (r)] T M sz 0 0 Q := by
  have hX0 := hX
  obtain ⟨h1, kp, tr, de, dd, hT, h3⟩ := hX0
  rcases h3 with ⟨k1, k2⟩ | ⟨K, b, k1, k2, k3⟩
  · exact c_X7_back_0 hX hW k1 (hT.2.2.1.1.trans k2) hQ
  · exact c_X7_back_1 hX hW k1 (hT.2.2.1.1.trans k2) k3 (hT.2.2.2.1.1 b k2) hQ
