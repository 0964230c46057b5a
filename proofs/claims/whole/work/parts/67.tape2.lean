def FrZ (o : Nat) (M M' : MM) : Prop := ∀ a j, ¬ (a = o + 63 ∧ 2 ≤ j ∧ j ≤ 5) → ¬ (o + 23 ≤ a ∧ a < o + 34) → M' a j = M a j
theorem FrZ.rf {o : Nat} {M : MM} : FrZ o M M := fun _ _ _ _ => rfl
theorem FrZ.tr {o : Nat} {M M1 M2 : MM} (h : FrZ o M M1) (h2 : FrZ o M1 M2) : FrZ o M M2 := fun a j h3 h4 => (h2 a j h3 h4).trans (h a j h3 h4)
theorem FrZ.t {o : Nat} {M M' : MM} (h : FrT (o + 63) M M') : FrZ o M M' := fun a j h3 _ => h a j h3
theorem FrZ.y {o : Nat} {M M' : MM} (h : FrY (o + 23) M M') : FrZ o M M' := fun a j _ h4 => by rw [h a (by omega)]
theorem TPE.y {T : TT} {M M' : MM} {o z : Nat} {B : Nat → Int} (h : TPE T M (o + 63) z B) (hF : FrY (o + 23) M M') : TPE T M' (o + 63) z B := ⟨h.1, by rw [hF _ (by omega)]; exact h.2.1, h.2.2.1, fun j hj => by rw [hF _ (by omega)]; exact h.2.2.2 j hj⟩
theorem TPc.y {M M' : MM} {o : Nat} {tk : TK} {f : Int} (h : TPc M (o + 63) tk f) (hF : FrY (o + 23) M M') : TPc M' (o + 63) tk f := by
  unfold TPc at *; rw [hF _ (by omega)]; exact h
theorem YN.t {M M' : MM} {o : Nat} {A : YA} (h : YN M (o + 23) A) (hF : FrT (o + 63) M M') : YN M' (o + 23) A := h.same (fun a h1 h2 => hF.row (by omega))
theorem TPc.put2 {M M' : MM} {q : Nat} {tk : TK} {f f2 : Int} (h : TPc M q tk f) (h1 : M' q 2 = f2) (h2 : ∀ b j, (b ≠ q ∨ j ≠ 2) → M' b j = M b j) : TPc M' q tk f2 := ⟨h1, by rw [h2 _ _ (Or.inr (by decide))]; exact h.2.1, by rw [h2 _ _ (Or.inr (by decide))]; exact h.2.2.1, by rw [h2 _ _ (Or.inr (by decide))]; exact h.2.2.2⟩
set_option maxHeartbeats 4000000 in
theorem c_X4_readOne {g : WG} {d : Nat} {T : TT} {M : MM} {o sz z : Nat} {B : Nat → Int} {A : YA} {tk : TK} {Q : MVal → TT → MM → Nat → Prop} (hC : CT T o) (hE1 : TPE T M (o + 63) z B) (hwt : wfT B z tk) (hP1 : TPc M (o + 63) tk (-1)) (hY1 : YN M (o + 23) A) (hWA : WFY A) (hQ : ∀ M', M' (o + 63) 2 = (sOne B z A tk).1 → ((sOne B z A tk).1 = -1 → YN M' (o + 23) (sOne B z A tk).2.1 ∧ TPc M' (o + 63) (sOne B z A tk).2.2 (-1)) → FrZ o M M' → Q vU T M' sz) : Ct g (d + 4) mX4_readOne [vR (o + 63), vR (o + 23)] T M sz 0 0 Q := by
  refine Ct_of2 (ls := [vR (o + 63), vR (o + 23), vU, vU, vU, vU, vU]) okX4_readOne rfl (Nat.le_of_ble_eq_true rfl) rfl ?_
  intro x hx hr hnm
  have hM1 : M = M := rfl
  have hF1 : FrZ o M M := FrZ.rf
  have hz2 := hE1.z2
  have hn8 := hWA.n8
  have ht2 := hWA.tn2
  refine J_aload_n hx dX4_readOne_0 (i := 1) rfl rfl ?_
  refine J_getI2 (v := ((A.n : Nat) : Int)) hx fl_X4_79 cl_X5 dX4_readOne_1 hC.y2.o (by decide) rfl hY1.pp ?_
  have rg1 := hWA.n8
  refine J_bipush (v := 8) hx dX4_readOne_4 (by decide) ?_
  refine J_icmp_lt (tgt := 18) hx dX4_readOne_6 (by decide) (fun c2 => ?_) (fun c2 => ?_)
  · refine J_aload_n hx dX4_readOne_18 (i := 0) rfl rfl ?_
    refine J_invVv (As := []) (st := []) hx lk_X4_25 okX4_toNextToken dX4_readOne_19 hC.k63 (by decide) rfl rfl rfl (Nat.le_of_ble_eq_true rfl) (Nat.zero_add _).symm (Nat.zero_add _).symm rfl (c_X4_toNextToken hE1 (e := tk.2.2) (f := -1) (nk_wf hwt 0).1.2.2.1 hP1.1 hP1.2.2.2 ?_)
    intro M2 hP2 hT2
    replace hP2 : TPc M2 (o + 63) (nk B z 1 tk) (-1) := hP2
    have hE2 := hE1.fr hT2
    have hY2 := hY1.t hT2
    have hF2 := hF1.tr (FrZ.t hT2)
    refine J_aload_n hx dX4_readOne_22 (i := 0) rfl rfl ?_
    refine J_iconst (v := 0) hx dX4_readOne_23 (by decide) ?_
    refine J_iconst (v := 1) hx dX4_readOne_24 (by decide) ?_
    refine J_invV (As := [vI (0), vI (1)]) (st := []) hx lk_X4_82 okX4_number dX4_readOne_25 hC.k63 (by decide) rfl rfl rfl (Nat.le_of_ble_eq_true rfl) (Nat.zero_add _).symm (Nat.zero_add _).symm rfl (c_X4_number hE2 (lo := 0) (hi := 1) (by omega) (nk_wf hwt 1).1 hP2 ?_ ?_)
    · intro hk1 M3 hP3 hT3
      replace hP3 : TPc M3 (o + 63) (nk B z 2 tk) (-1) := hP3
      have hE3 := hE2.fr hT3
      have hY3 := hY2.t hT3
      have hF3 := hF2.tr (FrZ.t hT3)
      have rv1 : 2 = 2 ∧ (0) ≤ vk B z 1 tk ∧ vk B z 1 tk ≤ (1) := ⟨rfl, (okT_t hk1).2⟩
      have en1 : vlT B (nk B z 1 tk) = (((vk B z 1 tk).toNat : Nat) : Int) := by show vk B z 1 tk = _; omega
      rw [en1]
      refine J_istore_n (lsn := [vR (o + 63), vR (o + 23), vI ((((vk B z 1 tk).toNat : Nat) : Int)), vU, vU, vU, vU]) hx dX4_readOne_28 (i := 2) rfl (Nat.le_of_ble_eq_true rfl) rfl rfl ?_
      refine J_aload_n hx dX4_readOne_29 (i := 0) rfl rfl ?_
      refine J_iconst (v := 0) hx dX4_readOne_30 (by decide) ?_
      refine J_iconst (v := 5) hx dX4_readOne_31 (by decide) ?_
      refine J_invV (As := [vI (0), vI (5)]) (st := []) hx lk_X4_82 okX4_number dX4_readOne_32 hC.k63 (by decide) rfl rfl rfl (Nat.le_of_ble_eq_true rfl) (Nat.zero_add _).symm (Nat.zero_add _).symm rfl (c_X4_number hE3 (lo := 0) (hi := 5) (by omega) (nk_wf hwt 2).1 hP3 ?_ ?_)
      · intro hk2 M4 hP4 hT4
        replace hP4 : TPc M4 (o + 63) (nk B z 3 tk) (-1) := hP4
        have hE4 := hE3.fr hT4
        have hY4 := hY3.t hT4
        have hF4 := hF3.tr (FrZ.t hT4)
        have rv2 : 2 = 2 ∧ (0) ≤ vk B z 2 tk ∧ vk B z 2 tk ≤ (5) := ⟨rfl, (okT_t hk2).2⟩
        rw [show vlT B (nk B z 2 tk) = vk B z 2 tk from rfl]
        refine J_istore_n (lsn := [vR (o + 63), vR (o + 23), vI ((((vk B z 1 tk).toNat : Nat) : Int)), vI (vk B z 2 tk), vU, vU, vU]) hx dX4_readOne_35 (i := 3) rfl (Nat.le_of_ble_eq_true rfl) rfl rfl ?_
        refine J_aload_n hx dX4_readOne_36 (i := 0) rfl rfl ?_
        refine J_iconst (v := 0) hx dX4_readOne_37 (by decide) ?_
        refine J_bipush (v := 20) hx dX4_readOne_38 (by decide) ?_
        refine J_invV (As := [vI (0), vI (20)]) (st := []) hx lk_X4_82 okX4_number dX4_readOne_40 hC.k63 (by decide) rfl rfl rfl (Nat.le_of_ble_eq_true rfl) (Nat.zero_add _).symm (Nat.zero_add _).symm rfl (c_X4_number hE4 (lo := 0) (hi := 20) (by omega) (nk_wf hwt 3).1 hP4 ?_ ?_)
        · intro hk3 M5 hP5 hT5
          replace hP5 : TPc M5 (o + 63) (nk B z 4 tk) (-1) := hP5
          have hE5 := hE4.fr hT5
          have hY5 := hY4.t hT5
          have hF5 := hF4.tr (FrZ.t hT5)
          have rv3 : 2 = 2 ∧ (0) ≤ vk B z 3 tk ∧ vk B z 3 tk ≤ (20) := ⟨rfl, (okT_t hk3).2⟩
          rw [show vlT B (nk B z 3 tk) = vk B z 3 tk from rfl]
          refine J_istore (lsn := [vR (o + 63), vR (o + 23), vI ((((vk B z 1 tk).toNat : Nat) : Int)), vI (vk B z 2 tk), vI (vk B z 3 tk), vU, vU]) hx dX4_readOne_43 (Nat.le_of_ble_eq_true rfl) rfl rfl ?_
          refine J_aload_n hx dX4_readOne_45 (i := 0) rfl rfl ?_
          refine J_iconst (v := 0) hx dX4_readOne_46 (by decide) ?_
          refine J_bipush (v := 20) hx dX4_readOne_47 (by decide) ?_
          refine J_invV (As := [vI (0), vI (20)]) (st := []) hx lk_X4_82 okX4_number dX4_readOne_49 hC.k63 (by decide) rfl rfl rfl (Nat.le_of_ble_eq_true rfl) (Nat.zero_add _).symm (Nat.zero_add _).symm rfl (c_X4_number hE5 (lo := 0) (hi := 20) (by omega) (nk_wf hwt 4).1 hP5 ?_ ?_)
          · intro hk4 M6 hP6 hT6
            replace hP6 : TPc M6 (o + 63) (nk B z 5 tk) (-1) := hP6
            have hE6 := hE5.fr hT6
            have hY6 := hY5.t hT6
            have hF6 := hF5.tr (FrZ.t hT6)
            have rv4 : 2 = 2 ∧ (0) ≤ vk B z 4 tk ∧ vk B z 4 tk ≤ (20) := ⟨rfl, (okT_t hk4).2⟩
            rw [show vlT B (nk B z 4 tk) = vk B z 4 tk from rfl]
            refine J_istore (lsn := [vR (o + 63), vR (o + 23), vI ((((vk B z 1 tk).toNat : Nat) : Int)), vI (vk B z 2 tk), vI (vk B z 3 tk), vI (vk B z 4 tk), vU]) hx dX4_readOne_52 (Nat.le_of_ble_eq_true rfl) rfl rfl ?_
            refine J_aload_n hx dX4_readOne_54 (i := 0) rfl rfl ?_
            refine J_iconst (v := 0) hx dX4_readOne_55 (by decide) ?_
            refine J_bipush (v := 9) hx dX4_readOne_56 (by decide) ?_
            refine J_invV (As := [vI (0), vI (9)]) (st := []) hx lk_X4_82 okX4_number dX4_readOne_58 hC.k63 (by decide) rfl rfl rfl (Nat.le_of_ble_eq_true rfl) (Nat.zero_add _).symm (Nat.zero_add _).symm rfl (c_X4_number hE6 (lo := 0) (hi := 9) (by omega) (nk_wf hwt 5).1 hP6 ?_ ?_)
            · intro hk5 M7 hP7 hT7
              replace hP7 : TPc M7 (o + 63) (nk B z 6 tk) (-1) := hP7
              have hE7 := hE6.fr hT7
              have hY7 := hY6.t hT7
              have hF7 := hF6.tr (FrZ.t hT7)
              have rv5 : 2 = 2 ∧ (0) ≤ vk B z 5 tk ∧ vk B z 5 tk ≤ (9) := ⟨rfl, (okT_t hk5).2⟩
              rw [show vlT B (nk B z 5 tk) = vk B z 5 tk from rfl]
              refine J_istore (lsn := [vR (o + 63), vR (o + 23), vI ((((vk B z 1 tk).toNat : Nat) : Int)), vI (vk B z 2 tk), vI (vk B z 3 tk), vI (vk B z 4 tk), vI (vk B z 5 tk)]) hx dX4_readOne_61 (Nat.le_of_ble_eq_true rfl) rfl rfl ?_
              refine J_aload_n hx dX4_readOne_63 (i := 0) rfl rfl ?_
              refine J_getI2 (v := (-1)) hx fl_X4_15 cl_X4 dX4_readOne_64 hC.k63 (by decide) rfl hP7.1 ?_
              refine J_iconst (v := -1) hx dX4_readOne_67 (by decide) ?_
              refine J_icmp_ne (tgt := 84) hx dX4_readOne_68 (by decide) (fun c9 => absurd c9 (by decide)) (fun _ => ?_)
              refine J_aload_n hx dX4_readOne_71 (i := 1) rfl rfl ?_
              refine J_iload_n hx dX4_readOne_72 (i := 2) rfl rfl ?_
              refine J_iload_n hx dX4_readOne_73 (i := 3) rfl rfl ?_
              refine J_iload hx dX4_readOne_74 rfl ?_
              refine J_iload hx dX4_readOne_76 rfl ?_
              refine J_iload hx dX4_readOne_78 rfl ?_
              refine J_invV (As := [vI ((((vk B z 1 tk).toNat : Nat) : Int)), vI (vk B z 2 tk), vI (vk B z 3 tk), vI (vk B z 4 tk), vI (vk B z 5 tk)]) (st := []) hx lk_X4_85 okX5_add dX4_readOne_80 hC.y2.o (by decide) rfl rfl rfl (Nat.le_of_ble_eq_true rfl) (Nat.zero_add _).symm (Nat.zero_add _).symm rfl (c_X5_add hC.y2 hY7 hWA (c := (vk B z 1 tk).toNat) (by omega) (by omega) (by omega) (by omega) (by omega) (by omega) ?_)
              intro M8 hYx hYf
              have hP8 := hP7.y hYf
              have hF8 := hF7.tr (FrZ.y hYf)
              refine J_pop hx dX4_readOne_83 rfl ?_
              refine J_vret hx hr dX4_readOne_84 ?_
              have eR : sOne B z A tk = (-1, addY A (vk B z 1 tk).toNat (vk B z 2 tk) (vk B z 3 tk) (vk B z 4 tk) (vk B z 5 tk), nk B z 6 tk) := by
                unfold sOne
                rw [if_neg (by omega), if_neg (by rw [hk1]; decide), if_neg (by rw [hk2]; decide), if_neg (by rw [hk3]; decide), if_neg (by rw [hk4]; decide), if_neg (by rw [hk5]; decide)]
              rw [eR] at hQ
              exact hQ M8 hP8.1 (fun _ => ⟨hYx, hP8⟩) hF8
            · intro hk5 M7 hP7 hT7
              have hE7 := hE6.fr hT7
              have hY7 := hY6.t hT7
              have hF7 := hF6.tr (FrZ.t hT7)
              refine J_istore (lsn := [vR (o + 63), vR (o + 23), vI ((((vk B z 1 tk).toNat : Nat) : Int)), vI (vk B z 2 tk), vI (vk B z 3 tk), vI (vk B z 4 tk), vI ((-1))]) hx dX4_readOne_61 (Nat.le_of_ble_eq_true rfl) rfl rfl ?_
              refine J_aload_n hx dX4_readOne_63 (i := 0) rfl rfl ?_
              refine J_getI2 (v := (((nk B z 5 tk).1 : Nat) : Int)) hx fl_X4_15 cl_X4 dX4_readOne_64 hC.k63 (by decide) rfl hP7.1 ?_
              refine J_iconst (v := -1) hx dX4_readOne_67 (by decide) ?_
              refine J_icmp_ne (tgt := 84) hx dX4_readOne_68 (by decide) (fun c4 => ?_) (fun c4 => ?_)
              · refine J_vret hx hr dX4_readOne_84 ?_
                have eR : sOne B z A tk = ((((nk B z 5 tk).1 : Nat) : Int), A, tk) := by
                  unfold sOne
                  rw [if_neg (by omega), if_neg (by rw [hk1]; decide), if_neg (by rw [hk2]; decide), if_neg (by rw [hk3]; decide), if_neg (by rw [hk4]; decide), if_pos hk5]
                rw [eR] at hQ
                exact hQ M7 hP7.1 (fun h9 => absurd h9 (show ((_ : Nat) : Int) ≠ -1 by omega)) hF7
              · exfalso; omega
          · intro hk4 M6 hP6 hT6
            have hE6 := hE5.fr hT6
            have hY6 := hY5.t hT6
            have hF6 := hF5.tr (FrZ.t hT6)
            refine J_istore (lsn := [vR (o + 63), vR (o + 23), vI ((((vk B z 1 tk).toNat : Nat) : Int)), vI (vk B z 2 tk), vI (vk B z 3 tk), vI ((-1)), vU]) hx dX4_readOne_52 (Nat.le_of_ble_eq_true rfl) rfl rfl ?_
            refine J_aload_n hx dX4_readOne_54 (i := 0) rfl rfl ?_
            refine J_iconst (v := 0) hx dX4_readOne_55 (by decide) ?_
            refine J_bipush (v := 9) hx dX4_readOne_56 (by decide) ?_
            refine J_invV (As := [vI (0), vI (9)]) (st := []) hx lk_X4_82 okX4_number dX4_readOne_58 hC.k63 (by decide) rfl rfl rfl (Nat.le_of_ble_eq_true rfl) (Nat.zero_add _).symm (Nat.zero_add _).symm rfl (c_X4_number_b hE6 hP6.1 (by omega) ?_)
            refine J_istore (lsn := [vR (o + 63), vR (o + 23), vI ((((vk B z 1 tk).toNat : Nat) : Int)), vI (vk B z 2 tk), vI (vk B z 3 tk), vI ((-1)), vI ((-1))]) hx dX4_readOne_61 (Nat.le_of_ble_eq_true rfl) rfl rfl ?_
            refine J_aload_n hx dX4_readOne_63 (i := 0) rfl rfl ?_
            refine J_getI2 (v := (((nk B z 4 tk).1 : Nat) : Int)) hx fl_X4_15 cl_X4 dX4_readOne_64 hC.k63 (by decide) rfl hP6.1 ?_
            refine J_iconst (v := -1) hx dX4_readOne_67 (by decide) ?_
            refine J_icmp_ne (tgt := 84) hx dX4_readOne_68 (by decide) (fun c5 => ?_) (fun c5 => ?_)
            · refine J_vret hx hr dX4_readOne_84 ?_
              have eR : sOne B z A tk = ((((nk B z 4 tk).1 : Nat) : Int), A, tk) := by
                unfold sOne
                rw [if_neg (by omega), if_neg (by rw [hk1]; decide), if_neg (by rw [hk2]; decide), if_neg (by rw [hk3]; decide), if_pos hk4]
              rw [eR] at hQ
              exact hQ M6 hP6.1 (fun h9 => absurd h9 (show ((_ : Nat) : Int) ≠ -1 by omega)) hF6
            · exfalso; omega
        · intro hk3 M5 hP5 hT5
          have hE5 := hE4.fr hT5
          have hY5 := hY4.t hT5
          have hF5 := hF4.tr (FrZ.t hT5)
          refine J_istore (lsn := [vR (o + 63), vR (o + 23), vI ((((vk B z 1 tk).toNat : Nat) : Int)), vI (vk B z 2 tk), vI ((-1)), vU, vU]) hx dX4_readOne_43 (Nat.le_of_ble_eq_true rfl) rfl rfl ?_
          refine J_aload_n hx dX4_readOne_45 (i := 0) rfl rfl ?_
          refine J_iconst (v := 0) hx dX4_readOne_46 (by decide) ?_
          refine J_bipush (v := 20) hx dX4_readOne_47 (by decide) ?_
          refine J_invV (As := [vI (0), vI (20)]) (st := []) hx lk_X4_82 okX4_number dX4_readOne_49 hC.k63 (by decide) rfl rfl rfl (Nat.le_of_ble_eq_true rfl) (Nat.zero_add _).symm (Nat.zero_add _).symm rfl (c_X4_number_b hE5 hP5.1 (by omega) ?_)
          refine J_istore (lsn := [vR (o + 63), vR (o + 23), vI ((((vk B z 1 tk).toNat : Nat) : Int)), vI (vk B z 2 tk), vI ((-1)), vI ((-1)), vU]) hx dX4_readOne_52 (Nat.le_of_ble_eq_true rfl) rfl rfl ?_
          refine J_aload_n hx dX4_readOne_54 (i := 0) rfl rfl ?_
          refine J_iconst (v := 0) hx dX4_readOne_55 (by decide) ?_
          refine J_bipush (v := 9) hx dX4_readOne_56 (by decide) ?_
          refine J_invV (As := [vI (0), vI (9)]) (st := []) hx lk_X4_82 okX4_number dX4_readOne_58 hC.k63 (by decide) rfl rfl rfl (Nat.le_of_ble_eq_true rfl) (Nat.zero_add _).symm (Nat.zero_add _).symm rfl (c_X4_number_b hE5 hP5.1 (by omega) ?_)
          refine J_istore (lsn := [vR (o + 63), vR (o + 23), vI ((((vk B z 1 tk).toNat : Nat) : Int)), vI (vk B z 2 tk), vI ((-1)), vI ((-1)), vI ((-1))]) hx dX4_readOne_61 (Nat.le_of_ble_eq_true rfl) rfl rfl ?_
          refine J_aload_n hx dX4_readOne_63 (i := 0) rfl rfl ?_
          refine J_getI2 (v := (((nk B z 3 tk).1 : Nat) : Int)) hx fl_X4_15 cl_X4 dX4_readOne_64 hC.k63 (by decide) rfl hP5.1 ?_
          refine J_iconst (v := -1) hx dX4_readOne_67 (by decide) ?_
          refine J_icmp_ne (tgt := 84) hx dX4_readOne_68 (by decide) (fun c6 => ?_) (fun c6 => ?_)
          · refine J_vret hx hr dX4_readOne_84 ?_
            have eR : sOne B z A tk = ((((nk B z 3 tk).1 : Nat) : Int), A, tk) := by
              unfold sOne
              rw [if_neg (by omega), if_neg (by rw [hk1]; decide), if_neg (by rw [hk2]; decide), if_pos hk3]
            rw [eR] at hQ
            exact hQ M5 hP5.1 (fun h9 => absurd h9 (show ((_ : Nat) : Int) ≠ -1 by omega)) hF5
          · exfalso; omega
      · intro hk2 M4 hP4 hT4
        have hE4 := hE3.fr hT4
        have hY4 := hY3.t hT4
        have hF4 := hF3.tr (FrZ.t hT4)
        refine J_istore_n (lsn := [vR (o + 63), vR (o + 23), vI ((((vk B z 1 tk).toNat : Nat) : Int)), vI ((-1)), vU, vU, vU]) hx dX4_readOne_35 (i := 3) rfl (Nat.le_of_ble_eq_true rfl) rfl rfl ?_
        refine J_aload_n hx dX4_readOne_36 (i := 0) rfl rfl ?_
        refine J_iconst (v := 0) hx dX4_readOne_37 (by decide) ?_
        refine J_bipush (v := 20) hx dX4_readOne_38 (by decide) ?_
        refine J_invV (As := [vI (0), vI (20)]) (st := []) hx lk_X4_82 okX4_number dX4_readOne_40 hC.k63 (by decide) rfl rfl rfl (Nat.le_of_ble_eq_true rfl) (Nat.zero_add _).symm (Nat.zero_add _).symm rfl (c_X4_number_b hE4 hP4.1 (by omega) ?_)
        refine J_istore (lsn := [vR (o + 63), vR (o + 23), vI ((((vk B z 1 tk).toNat : Nat) : Int)), vI ((-1)), vI ((-1)), vU, vU]) hx dX4_readOne_43 (Nat.le_of_ble_eq_true rfl) rfl rfl ?_
        refine J_aload_n hx dX4_readOne_45 (i := 0) rfl rfl ?_
        refine J_iconst (v := 0) hx dX4_readOne_46 (by decide) ?_
        refine J_bipush (v := 20) hx dX4_readOne_47 (by decide) ?_
        refine J_invV (As := [vI (0), vI (20)]) (st := []) hx lk_X4_82 okX4_number dX4_readOne_49 hC.k63 (by decide) rfl rfl rfl (Nat.le_of_ble_eq_true rfl) (Nat.zero_add _).symm (Nat.zero_add _).symm rfl (c_X4_number_b hE4 hP4.1 (by omega) ?_)
        refine J_istore (lsn := [vR (o + 63), vR (o + 23), vI ((((vk B z 1 tk).toNat : Nat) : Int)), vI ((-1)), vI ((-1)), vI ((-1)), vU]) hx dX4_readOne_52 (Nat.le_of_ble_eq_true rfl) rfl rfl ?_
        refine J_aload_n hx dX4_readOne_54 (i := 0) rfl rfl ?_
        refine J_iconst (v := 0) hx dX4_readOne_55 (by decide) ?_
        refine J_bipush (v := 9) hx dX4_readOne_56 (by decide) ?_
        refine J_invV (As := [vI (0), vI (9)]) (st := []) hx lk_X4_82 okX4_number dX4_readOne_58 hC.k63 (by decide) rfl rfl rfl (Nat.le_of_ble_eq_true rfl) (Nat.zero_add _).symm (Nat.zero_add _).symm rfl (c_X4_number_b hE4 hP4.1 (by omega) ?_)
        refine J_istore (lsn := [vR (o + 63), vR (o + 23), vI ((((vk B z 1 tk).toNat : Nat) : Int)), vI ((-1)), vI ((-1)), vI ((-1)), vI ((-1))]) hx dX4_readOne_61 (Nat.le_of_ble_eq_true rfl) rfl rfl ?_
        refine J_aload_n hx dX4_readOne_63 (i := 0) rfl rfl ?_
        refine J_getI2 (v := (((nk B z 2 tk).1 : Nat) : Int)) hx fl_X4_15 cl_X4 dX4_readOne_64 hC.k63 (by decide) rfl hP4.1 ?_
        refine J_iconst (v := -1) hx dX4_readOne_67 (by decide) ?_
        refine J_icmp_ne (tgt := 84) hx dX4_readOne_68 (by decide) (fun c7 => ?_) (fun c7 => ?_)
        · refine J_vret hx hr dX4_readOne_84 ?_
          have eR : sOne B z A tk = ((((nk B z 2 tk).1 : Nat) : Int), A, tk) := by
            unfold sOne
            rw [if_neg (by omega), if_neg (by rw [hk1]; decide), if_pos hk2]
          rw [eR] at hQ
          exact hQ M4 hP4.1 (fun h9 => absurd h9 (show ((_ : Nat) : Int) ≠ -1 by omega)) hF4
        · exfalso; omega
    · intro hk1 M3 hP3 hT3
      have hE3 := hE2.fr hT3
      have hY3 := hY2.t hT3
      have hF3 := hF2.tr (FrZ.t hT3)
      refine J_istore_n (lsn := [vR (o + 63), vR (o + 23), vI ((-1)), vU, vU, vU, vU]) hx dX4_readOne_28 (i := 2) rfl (Nat.le_of_ble_eq_true rfl) rfl rfl ?_
      refine J_aload_n hx dX4_readOne_29 (i := 0) rfl rfl ?_
      refine J_iconst (v := 0) hx dX4_readOne_30 (by decide) ?_
      refine J_iconst (v := 5) hx dX4_readOne_31 (by decide) ?_
      refine J_invV (As := [vI (0), vI (5)]) (st := []) hx lk_X4_82 okX4_number dX4_readOne_32 hC.k63 (by decide) rfl rfl rfl (Nat.le_of_ble_eq_true rfl) (Nat.zero_add _).symm (Nat.zero_add _).symm rfl (c_X4_number_b hE3 hP3.1 (by omega) ?_)
      refine J_istore_n (lsn := [vR (o + 63), vR (o + 23), vI ((-1)), vI ((-1)), vU, vU, vU]) hx dX4_readOne_35 (i := 3) rfl (Nat.le_of_ble_eq_true rfl) rfl rfl ?_
      refine J_aload_n hx dX4_readOne_36 (i := 0) rfl rfl ?_
      refine J_iconst (v := 0) hx dX4_readOne_37 (by decide) ?_
      refine J_bipush (v := 20) hx dX4_readOne_38 (by decide) ?_
      refine J_invV (As := [vI (0), vI (20)]) (st := []) hx lk_X4_82 okX4_number dX4_readOne_40 hC.k63 (by decide) rfl rfl rfl (Nat.le_of_ble_eq_true rfl) (Nat.zero_add _).symm (Nat.zero_add _).symm rfl (c_X4_number_b hE3 hP3.1 (by omega) ?_)
      refine J_istore (lsn := [vR (o + 63), vR (o + 23), vI ((-1)), vI ((-1)), vI ((-1)), vU, vU]) hx dX4_readOne_43 (Nat.le_of_ble_eq_true rfl) rfl rfl ?_
      refine J_aload_n hx dX4_readOne_45 (i := 0) rfl rfl ?_
      refine J_iconst (v := 0) hx dX4_readOne_46 (by decide) ?_
      refine J_bipush (v := 20) hx dX4_readOne_47 (by decide) ?_
      refine J_invV (As := [vI (0), vI (20)]) (st := []) hx lk_X4_82 okX4_number dX4_readOne_49 hC.k63 (by decide) rfl rfl rfl (Nat.le_of_ble_eq_true rfl) (Nat.zero_add _).symm (Nat.zero_add _).symm rfl (c_X4_number_b hE3 hP3.1 (by omega) ?_)
      refine J_istore (lsn := [vR (o + 63), vR (o + 23), vI ((-1)), vI ((-1)), vI ((-1)), vI ((-1)), vU]) hx dX4_readOne_52 (Nat.le_of_ble_eq_true rfl) rfl rfl ?_
      refine J_aload_n hx dX4_readOne_54 (i := 0) rfl rfl ?_
      refine J_iconst (v := 0) hx dX4_readOne_55 (by decide) ?_
      refine J_bipush (v := 9) hx dX4_readOne_56 (by decide) ?_
      refine J_invV (As := [vI (0), vI (9)]) (st := []) hx lk_X4_82 okX4_number dX4_readOne_58 hC.k63 (by decide) rfl rfl rfl (Nat.le_of_ble_eq_true rfl) (Nat.zero_add _).symm (Nat.zero_add _).symm rfl (c_X4_number_b hE3 hP3.1 (by omega) ?_)
      refine J_istore (lsn := [vR (o + 63), vR (o + 23), vI ((-1)), vI ((-1)), vI ((-1)), vI ((-1)), vI ((-1))]) hx dX4_readOne_61 (Nat.le_of_ble_eq_true rfl) rfl rfl ?_
      refine J_aload_n hx dX4_readOne_63 (i := 0) rfl rfl ?_
      refine J_getI2 (v := (((nk B z 1 tk).1 : Nat) : Int)) hx fl_X4_15 cl_X4 dX4_readOne_64 hC.k63 (by decide) rfl hP3.1 ?_
      refine J_iconst (v := -1) hx dX4_readOne_67 (by decide) ?_
      refine J_icmp_ne (tgt := 84) hx dX4_readOne_68 (by decide) (fun c8 => ?_) (fun c8 => ?_)
      · refine J_vret hx hr dX4_readOne_84 ?_
        have eR : sOne B z A tk = ((((nk B z 1 tk).1 : Nat) : Int), A, tk) := by
          unfold sOne
          rw [if_neg (by omega), if_pos hk1]
        rw [eR] at hQ
        exact hQ M3 hP3.1 (fun h9 => absurd h9 (show ((_ : Nat) : Int) ≠ -1 by omega)) hF3
      · exfalso; omega
  · refine J_aload_n hx dX4_readOne_9 (i := 0) rfl rfl ?_
    refine J_aload_n hx dX4_readOne_10 (i := 0) rfl rfl ?_
    refine J_getI2 (v := ((tk.1 : Nat) : Int)) hx fl_X4_35 cl_X4 dX4_readOne_11 hC.k63 (by decide) rfl hP1.2.2.1 ?_
    refine J_putI hx fl_X4_15 cl_X4 dX4_readOne_14 hC.k63 (by decide) rfl (Or.inl rfl) (by decide) ?_
    generalize eM2 : up2 M (o + 63) 2 ((tk.1 : Nat) : Int) = M2
    have hM2a : M2 (o + 63) 2 = ((tk.1 : Nat) : Int) := by rw [← eM2]; exact up2_at
    have hM2o : ∀ b9 j9, (b9 ≠ o + 63 ∨ j9 ≠ 2) → M2 b9 j9 = M b9 j9 := fun b9 j9 h9 => by rw [← eM2]; exact up2_ne h9
    have hM2r : ∀ b9, b9 ≠ o + 63 → M2 b9 = M b9 := fun b9 h9 => by rw [← eM2]; exact up2_row h9
    have hP2 : TPc M2 (o + 63) tk ((tk.1 : Nat) : Int) := hP1.put2 hM2a hM2o
    have hT2 : FrT (o + 63) M M2 := fun a9 j9 h9 => hM2o _ _ (by omega)
    have hE2 := hE1.fr hT2
    have hY2 := hY1.t hT2
    have hF2 := hF1.tr (FrZ.t hT2)
    refine J_vret hx hr dX4_readOne_17 ?_
    have eR : sOne B z A tk = (((tk.1 : Nat) : Int), A, tk) := by
      unfold sOne; rw [if_pos (by omega)]
    rw [eR] at hQ
    exact hQ M2 hP2.1 (fun h9 => absurd h9 (show ((_ : Nat) : Int) ≠ -1 by omega)) hF2

set_option maxHeartbeats 4000000 in
theorem c_X4_readTired {g : WG} {d : Nat} {T : TT} {M : MM} {o sz z : Nat} {B : Nat → Int} {A : YA} {tk : TK} {Q : MVal → TT → MM → Nat → Prop} (hC : CT T o) (hE1 : TPE T M (o + 63) z B) (hwt : wfT B z tk) (hP1 : TPc M (o + 63) tk (-1)) (hY1 : YN M (o + 23) A) (hWA : WFY A) (hQ : ∀ M', M' (o + 63) 2 = (sTir B z A tk).1 → ((sTir B z A tk).1 = -1 → YN M' (o + 23) (sTir B z A tk).2.1 ∧ TPc M' (o + 63) (sTir B z A tk).2.2 (-1)) → FrZ o M M' → Q vU T M' sz) : Ct g (d + 4) mX4_readTired [vR (o + 63), vR (o + 23)] T M sz 0 0 Q := by
  refine Ct_of2 (ls := [vR (o + 63), vR (o + 23), vU, vU]) okX4_readTired rfl (Nat.le_of_ble_eq_true rfl) rfl ?_
  intro x hx hr hnm
  have hM1 : M = M := rfl
  have hF1 : FrZ o M M := FrZ.rf
  have hz2 := hE1.z2
  have hn8 := hWA.n8
  have ht2 := hWA.tn2
  refine J_aload_n hx dX4_readTired_0 (i := 0) rfl rfl ?_
  refine J_invVv (As := []) (st := []) hx lk_X4_25 okX4_toNextToken dX4_readTired_1 hC.k63 (by decide) rfl rfl rfl (Nat.le_of_ble_eq_true rfl) (Nat.zero_add _).symm (Nat.zero_add _).symm rfl (c_X4_toNextToken hE1 (e := tk.2.2) (f := -1) (nk_wf hwt 0).1.2.2.1 hP1.1 hP1.2.2.2 ?_)
  intro M2 hP2 hT2
  replace hP2 : TPc M2 (o + 63) (nk B z 1 tk) (-1) := hP2
  have hE2 := hE1.fr hT2
  have hY2 := hY1.t hT2
  have hF2 := hF1.tr (FrZ.t hT2)
  refine J_aload_n hx dX4_readTired_4 (i := 0) rfl rfl ?_
  refine J_iconst (v := 0) hx dX4_readTired_5 (by decide) ?_
  refine J_aload_n hx dX4_readTired_6 (i := 1) rfl rfl ?_
  refine J_getI2 (v := ((A.n : Nat) : Int)) hx fl_X4_79 cl_X5 dX4_readTired_7 hC.y2.o (by decide) rfl hY2.pp ?_
  have rg1 := hWA.n8
  refine J_iconst (v := 1) hx dX4_readTired_10 (by decide) ?_
  refine J_isub (v := ((A.n : Nat) : Int) - 1) hx dX4_readTired_11 (w32_id (by omega) (by omega)) ?_
  refine J_invV (As := [vI (0), vI (((A.n : Nat) : Int) - 1)]) (st := []) hx lk_X4_82 okX4_number dX4_readTired_12 hC.k63 (by decide) rfl rfl rfl (Nat.le_of_ble_eq_true rfl) (Nat.zero_add _).symm (Nat.zero_add _).symm rfl (c_X4_number hE2 (lo := 0) (hi := ((A.n : Nat) : Int) - 1) (by omega) (nk_wf hwt 1).1 hP2 ?_ ?_)
  · intro hk1 M3 hP3 hT3
    replace hP3 : TPc M3 (o + 63) (nk B z 2 tk) (-1) := hP3
    have hE3 := hE2.fr hT3
    have hY3 := hY2.t hT3
    have hF3 := hF2.tr (FrZ.t hT3)
    have rv1 : 2 = 2 ∧ (0) ≤ vk B z 1 tk ∧ vk B z 1 tk ≤ (((A.n : Nat) : Int) - 1) := ⟨rfl, (okT_t hk1).2⟩
    have en1 : vlT B (nk B z 1 tk) = (((vk B z 1 tk).toNat : Nat) : Int) := by show vk B z 1 tk = _; omega
    rw [en1]
    refine J_istore_n (lsn := [vR (o + 63), vR (o + 23), vI ((((vk B z 1 tk).toNat : Nat) : Int)), vU]) hx dX4_readTired_15 (i := 2) rfl (Nat.le_of_ble_eq_true rfl) rfl rfl ?_
    refine J_aload_n hx dX4_readTired_16 (i := 0) rfl rfl ?_
    refine J_iconst (v := 0) hx dX4_readTired_17 (by decide) ?_
    refine J_bipush (v := 20) hx dX4_readTired_18 (by decide) ?_
    refine J_invV (As := [vI (0), vI (20)]) (st := []) hx lk_X4_82 okX4_number dX4_readTired_20 hC.k63 (by decide) rfl rfl rfl (Nat.le_of_ble_eq_true rfl) (Nat.zero_add _).symm (Nat.zero_add _).symm rfl (c_X4_number hE3 (lo := 0) (hi := 20) (by omega) (nk_wf hwt 2).1 hP3 ?_ ?_)
    · intro hk2 M4 hP4 hT4
      replace hP4 : TPc M4 (o + 63) (nk B z 3 tk) (-1) := hP4
      have hE4 := hE3.fr hT4
      have hY4 := hY3.t hT4
      have hF4 := hF3.tr (FrZ.t hT4)
      have rv2 : 2 = 2 ∧ (0) ≤ vk B z 2 tk ∧ vk B z 2 tk ≤ (20) := ⟨rfl, (okT_t hk2).2⟩
      rw [show vlT B (nk B z 2 tk) = vk B z 2 tk from rfl]
      refine J_istore_n (lsn := [vR (o + 63), vR (o + 23), vI ((((vk B z 1 tk).toNat : Nat) : Int)), vI (vk B z 2 tk)]) hx dX4_readTired_23 (i := 3) rfl (Nat.le_of_ble_eq_true rfl) rfl rfl ?_
      refine J_aload_n hx dX4_readTired_24 (i := 0) rfl rfl ?_
      refine J_getI2 (v := (-1)) hx fl_X4_15 cl_X4 dX4_readTired_25 hC.k63 (by decide) rfl hP4.1 ?_
      refine J_iconst (v := -1) hx dX4_readTired_28 (by decide) ?_
      refine J_icmp_ne (tgt := 39) hx dX4_readTired_29 (by decide) (fun c9 => absurd c9 (by decide)) (fun _ => ?_)
      refine J_aload_n hx dX4_readTired_32 (i := 1) rfl rfl ?_
      refine J_getR (b := o + 23 + 4) hx fl_X4_89 cl_X5 dX4_readTired_33 hC.y2.o (by decide) rfl hC.y2.r3 ?_
      refine J_iload_n hx dX4_readTired_36 (i := 2) rfl rfl ?_
      refine J_iload_n hx dX4_readTired_37 (i := 3) rfl rfl ?_
      refine J_iast hx ((vk B z 1 tk).toNat) dX4_readTired_38 hC.y2.k4 (by omega) (hC.y2.l4 (by omega)) ?_
      have hWx : WFY (A.setA 3 ((vk B z 1 tk).toNat) (vk B z 2 tk)) := setA_wf hWA (by decide) (by omega)
      have hYx : YN (up2 M4 (o + 23 + 4) ((vk B z 1 tk).toNat) (vk B z 2 tk)) (o + 23) (A.setA 3 ((vk B z 1 tk).toNat) (vk B z 2 tk)) := ((hY4.toP hWA).setA (f := 3) _ (by decide)).toN hWx
      have hYf : FrY (o + 23) M4 (up2 M4 (o + 23 + 4) ((vk B z 1 tk).toNat) (vk B z 2 tk)) := FrY.rf.up (k := 4) (by decide) _
      generalize up2 M4 (o + 23 + 4) ((vk B z 1 tk).toNat) (vk B z 2 tk) = M5 at hYx hYf ⊢
      have hP5 := hP4.y hYf
      have hF5 := hF4.tr (FrZ.y hYf)
      refine J_vret hx hr dX4_readTired_39 ?_
      have eR : sTir B z A tk = (-1, A.setA 3 (vk B z 1 tk).toNat (vk B z 2 tk), nk B z 3 tk) := by
        unfold sTir
        rw [if_neg (by rw [hk1]; decide), if_neg (by rw [hk2]; decide)]
      rw [eR] at hQ
      exact hQ M5 hP5.1 (fun _ => ⟨hYx, hP5⟩) hF5
    · intro hk2 M4 hP4 hT4
      have hE4 := hE3.fr hT4
      have hY4 := hY3.t hT4
      have hF4 := hF3.tr (FrZ.t hT4)
      refine J_istore_n (lsn := [vR (o + 63), vR (o + 23), vI ((((vk B z 1 tk).toNat : Nat) : Int)), vI ((-1))]) hx dX4_readTired_23 (i := 3) rfl (Nat.le_of_ble_eq_true rfl) rfl rfl ?_
      refine J_aload_n hx dX4_readTired_24 (i := 0) rfl rfl ?_
      refine J_getI2 (v := (((nk B z 2 tk).1 : Nat) : Int)) hx fl_X4_15 cl_X4 dX4_readTired_25 hC.k63 (by decide) rfl hP4.1 ?_
      refine J_iconst (v := -1) hx dX4_readTired_28 (by decide) ?_
      refine J_icmp_ne (tgt := 39) hx dX4_readTired_29 (by decide) (fun c3 => ?_) (fun c3 => ?_)
      · refine J_vret hx hr dX4_readTired_39 ?_
        have eR : sTir B z A tk = ((((nk B z 2 tk).1 : Nat) : Int), A, tk) := by
          unfold sTir
          rw [if_neg (by rw [hk1]; decide), if_pos hk2]
        rw [eR] at hQ
        exact hQ M4 hP4.1 (fun h9 => absurd h9 (show ((_ : Nat) : Int) ≠ -1 by omega)) hF4
      · exfalso; omega
  · intro hk1 M3 hP3 hT3
    have hE3 := hE2.fr hT3
    have hY3 := hY2.t hT3
    have hF3 := hF2.tr (FrZ.t hT3)
    refine J_istore_n (lsn := [vR (o + 63), vR (o + 23), vI ((-1)), vU]) hx dX4_readTired_15 (i := 2) rfl (Nat.le_of_ble_eq_true rfl) rfl rfl ?_
    refine J_aload_n hx dX4_readTired_16 (i := 0) rfl rfl ?_
    refine J_iconst (v := 0) hx dX4_readTired_17 (by decide) ?_
    refine J_bipush (v := 20) hx dX4_readTired_18 (by decide) ?_
    refine J_invV (As := [vI (0), vI (20)]) (st := []) hx lk_X4_82 okX4_number dX4_readTired_20 hC.k63 (by decide) rfl rfl rfl (Nat.le_of_ble_eq_true rfl) (Nat.zero_add _).symm (Nat.zero_add _).symm rfl (c_X4_number_b hE3 hP3.1 (by omega) ?_)
    refine J_istore_n (lsn := [vR (o + 63), vR (o + 23), vI ((-1)), vI ((-1))]) hx dX4_readTired_23 (i := 3) rfl (Nat.le_of_ble_eq_true rfl) rfl rfl ?_
    refine J_aload_n hx dX4_readTired_24 (i := 0) rfl rfl ?_
    refine J_getI2 (v := (((nk B z 1 tk).1 : Nat) : Int)) hx fl_X4_15 cl_X4 dX4_readTired_25 hC.k63 (by decide) rfl hP3.1 ?_
    refine J_iconst (v := -1) hx dX4_readTired_28 (by decide) ?_
    refine J_icmp_ne (tgt := 39) hx dX4_readTired_29 (by decide) (fun c4 => ?_) (fun c4 => ?_)
    · refine J_vret hx hr dX4_readTired_39 ?_
      have eR : sTir B z A tk = ((((nk B z 1 tk).1 : Nat) : Int), A, tk) := by
        unfold sTir
        rw [if_pos hk1]
      rw [eR] at hQ
      exact hQ M3 hP3.1 (fun h9 => absurd h9 (show ((_ : Nat) : Int) ≠ -1 by omega)) hF3
    · exfalso; omega

set_option maxHeartbeats 4000000 in
theorem c_X4_readRun {g : WG} {d : Nat} {T : TT} {M : MM} {o sz z : Nat} {B : Nat → Int} {A : YA} {tk : TK} {Q : MVal → TT → MM → Nat → Prop} (hC : CT T o) (hE1 : TPE T M (o + 63) z B) (hwt : wfT B z tk) (hP1 : TPc M (o + 63) tk (-1)) (hY1 : YN M (o + 23) A) (hWA : WFY A) (hQ : ∀ M', M' (o + 63) 2 = (sRun B z A tk).1 → ((sRun B z A tk).1 = -1 → YN M' (o + 23) (sRun B z A tk).2.1 ∧ TPc M' (o + 63) (sRun B z A tk).2.2 (-1)) → FrZ o M M' → Q vU T M' sz) : Ct g (d + 5) mX4_readRun [vR (o + 63), vR (o + 23)] T M sz 0 0 Q := by
  refine Ct_of2 (ls := [vR (o + 63), vR (o + 23), vU, vU, vU, vU, vU]) okX4_readRun rfl (Nat.le_of_ble_eq_true rfl) rfl ?_
  intro x hx hr hnm
  have hM1 : M = M := rfl
  have hF1 : FrZ o M M := FrZ.rf
  have hz2 := hE1.z2
  have hn8 := hWA.n8
  have ht2 := hWA.tn2
  have hl8 := hWA.len8 ht2
  refine J_aload_n hx dX4_readRun_0 (i := 0) rfl rfl ?_
  refine J_invVv (As := []) (st := []) hx lk_X4_25 okX4_toNextToken dX4_readRun_1 hC.k63 (by decide) rfl rfl rfl (Nat.le_of_ble_eq_true rfl) (Nat.zero_add _).symm (Nat.zero_add _).symm rfl (c_X4_toNextToken hE1 (e := tk.2.2) (f := -1) (nk_wf hwt 0).1.2.2.1 hP1.1 hP1.2.2.2 ?_)
  intro M2 hP2 hT2
  replace hP2 : TPc M2 (o + 63) (nk B z 1 tk) (-1) := hP2
  have hE2 := hE1.fr hT2
  have hY2 := hY1.t hT2
  have hF2 := hF1.tr (FrZ.t hT2)
  refine J_aload_n hx dX4_readRun_4 (i := 0) rfl rfl ?_
  refine J_getI2 (v := (((nk B z 1 tk).1 : Nat) : Int)) hx fl_X4_35 cl_X4 dX4_readRun_5 hC.k63 (by decide) rfl hP2.2.2.1 ?_
  refine J_istore_n (lsn := [vR (o + 63), vR (o + 23), vI ((((nk B z 1 tk).1 : Nat) : Int)), vU, vU, vU, vU]) hx dX4_readRun_8 (i := 2) rfl (Nat.le_of_ble_eq_true rfl) rfl rfl ?_
  refine J_aload_n hx dX4_readRun_9 (i := 0) rfl rfl ?_
  refine J_iconst (v := 0) hx dX4_readRun_10 (by decide) ?_
  refine J_aload_n hx dX4_readRun_11 (i := 1) rfl rfl ?_
  refine J_getI2 (v := ((A.n : Nat) : Int)) hx fl_X4_79 cl_X5 dX4_readRun_12 hC.y2.o (by decide) rfl hY2.pp ?_
  have rg1 := hWA.n8
  refine J_iconst (v := 1) hx dX4_readRun_15 (by decide) ?_
  refine J_isub (v := ((A.n : Nat) : Int) - 1) hx dX4_readRun_16 (w32_id (by omega) (by omega)) ?_
  refine J_invV (As := [vI (0), vI (((A.n : Nat) : Int) - 1)]) (st := []) hx lk_X4_82 okX4_number dX4_readRun_17 hC.k63 (by decide) rfl rfl rfl (Nat.le_of_ble_eq_true rfl) (Nat.zero_add _).symm (Nat.zero_add _).symm rfl (c_X4_number hE2 (lo := 0) (hi := ((A.n : Nat) : Int) - 1) (by omega) (nk_wf hwt 1).1 hP2 ?_ ?_)
  · intro hk1 M3 hP3 hT3
    replace hP3 : TPc M3 (o + 63) (nk B z 2 tk) (-1) := hP3
    have hE3 := hE2.fr hT3
    have hY3 := hY2.t hT3
    have hF3 := hF2.tr (FrZ.t hT3)
    have rv1 : 2 = 2 ∧ (0) ≤ vk B z 1 tk ∧ vk B z 1 tk ≤ (((A.n : Nat) : Int) - 1) := ⟨rfl, (okT_t hk1).2⟩
    have en1 : vlT B (nk B z 1 tk) = (((vk B z 1 tk).toNat : Nat) : Int) := by show vk B z 1 tk = _; omega
    rw [en1]
    refine J_istore_n (lsn := [vR (o + 63), vR (o + 23), vI ((((nk B z 1 tk).1 : Nat) : Int)), vI ((((vk B z 1 tk).toNat : Nat) : Int)), vU, vU, vU]) hx dX4_readRun_20 (i := 3) rfl (Nat.le_of_ble_eq_true rfl) rfl rfl ?_
    refine J_aload_n hx dX4_readRun_21 (i := 0) rfl rfl ?_
    refine J_getI2 (v := (-1)) hx fl_X4_15 cl_X4 dX4_readRun_22 hC.k63 (by decide) rfl hP3.1 ?_
    refine J_iconst (v := -1) hx dX4_readRun_25 (by decide) ?_
    refine J_icmp_ne (tgt := 49) hx dX4_readRun_26 (by decide) (fun c9 => absurd c9 (by decide)) (fun _ => ?_)
    refine J_aload_n hx dX4_readRun_29 (i := 1) rfl rfl ?_
    refine J_invV (As := []) (st := []) hx lk_X4_91 okX5_isOver dX4_readRun_30 hC.y2.o (by decide) rfl rfl rfl (Nat.le_of_ble_eq_true rfl) (Nat.zero_add _).symm (Nat.zero_add _).symm rfl (c_X5_isOver hC.y2 hY3 hWA  ?_)
    intro v3 hv3
    refine J_if_ne (tgt := 44) hx dX4_readRun_33 (by decide) (fun c4 => ?_) (fun c4 => ?_)
    · refine J_aload_n hx dX4_readRun_44 (i := 0) rfl rfl ?_
      refine J_iload_n hx dX4_readRun_45 (i := 2) rfl rfl ?_
      refine J_putI hx fl_X4_15 cl_X4 dX4_readRun_46 hC.k63 (by decide) rfl (Or.inl rfl) (by decide) ?_
      generalize eM4 : up2 M3 (o + 63) 2 (((nk B z 1 tk).1 : Nat) : Int) = M4
      have hM4a : M4 (o + 63) 2 = (((nk B z 1 tk).1 : Nat) : Int) := by rw [← eM4]; exact up2_at
      have hM4o : ∀ b9 j9, (b9 ≠ o + 63 ∨ j9 ≠ 2) → M4 b9 j9 = M3 b9 j9 := fun b9 j9 h9 => by rw [← eM4]; exact up2_ne h9
      have hM4r : ∀ b9, b9 ≠ o + 63 → M4 b9 = M3 b9 := fun b9 h9 => by rw [← eM4]; exact up2_row h9
      have hP4 : TPc M4 (o + 63) (nk B z 2 tk) (((nk B z 1 tk).1 : Nat) : Int) := hP3.put2 hM4a hM4o
      have hT4 : FrT (o + 63) M3 M4 := fun a9 j9 h9 => hM4o _ _ (by omega)
      have hE4 := hE3.fr hT4
      have hY4 := hY3.t hT4
      have hF4 := hF3.tr (FrZ.t hT4)
      refine J_aload_n hx dX4_readRun_49 (i := 0) rfl rfl ?_
      refine J_iconst (v := 0) hx dX4_readRun_50 (by decide) ?_
      refine J_aload_n hx dX4_readRun_51 (i := 1) rfl rfl ?_
      refine J_getR (b := o + 23 + 10) hx fl_X4_99 cl_X5 dX4_readRun_52 hC.y2.o (by decide) rfl hC.y2.r7 ?_
      refine J_aload_n hx dX4_readRun_55 (i := 1) rfl rfl ?_
      refine J_getI2 (v := ((A.tn : Nat) : Int)) hx fl_X4_101 cl_X5 dX4_readRun_56 hC.y2.o (by decide) rfl (hY4.tn hWA) ?_
      have rg5 := hWA.tn2
      refine J_iald2 (v := (((A.ch A.tn).length : Nat) : Int)) hx A.tn dX4_readRun_59 hC.y2.k10 (by omega) (hC.y2.l10 (by omega)) (hY4.sz (by omega)) ?_
      have rg6 := hWA.len8 (c := A.tn) (by omega)
      have rg7 := hWA.lenN (c := A.tn) (by omega)
      refine J_iconst (v := 2) hx dX4_readRun_60 (by decide) ?_
      refine J_isub (v := (((A.ch A.tn).length : Nat) : Int) - 2) hx dX4_readRun_61 (w32_id (by omega) (by omega)) ?_
      refine J_invV (As := [vI (0), vI ((((A.ch A.tn).length : Nat) : Int) - 2)]) (st := []) hx lk_X4_82 okX4_number dX4_readRun_62 hC.k63 (by decide) rfl rfl rfl (Nat.le_of_ble_eq_true rfl) (Nat.zero_add _).symm (Nat.zero_add _).symm rfl (c_X4_number_b hE4 hP4.1 (by omega) ?_)
      refine J_istore (lsn := [vR (o + 63), vR (o + 23), vI ((((nk B z 1 tk).1 : Nat) : Int)), vI ((((vk B z 1 tk).toNat : Nat) : Int)), vI ((-1)), vU, vU]) hx dX4_readRun_65 (Nat.le_of_ble_eq_true rfl) rfl rfl ?_
      refine J_aload_n hx dX4_readRun_67 (i := 0) rfl rfl ?_
      refine J_getI2 (v := (((nk B z 2 tk).1 : Nat) : Int)) hx fl_X4_35 cl_X4 dX4_readRun_68 hC.k63 (by decide) rfl hP4.2.2.1 ?_
      refine J_istore (lsn := [vR (o + 63), vR (o + 23), vI ((((nk B z 1 tk).1 : Nat) : Int)), vI ((((vk B z 1 tk).toNat : Nat) : Int)), vI ((-1)), vI ((((nk B z 2 tk).1 : Nat) : Int)), vU]) hx dX4_readRun_71 (Nat.le_of_ble_eq_true rfl) rfl rfl ?_
      refine J_aload_n hx dX4_readRun_73 (i := 0) rfl rfl ?_
      refine J_getI2 (v := (nk B z 2 tk).2.1) hx fl_X4_32 cl_X4 dX4_readRun_74 hC.k63 (by decide) rfl hP4.2.1 ?_
      refine J_iconst (v := 2) hx dX4_readRun_77 (by decide) ?_
      refine J_icmp_ne (tgt := 92) hx dX4_readRun_78 (by decide) (fun c8 => ?_) (fun c8 => ?_)
      · refine J_iconst (v := 0) hx dX4_readRun_92 (by decide) ?_
        refine J_istore (lsn := [vR (o + 63), vR (o + 23), vI ((((nk B z 1 tk).1 : Nat) : Int)), vI ((((vk B z 1 tk).toNat : Nat) : Int)), vI ((-1)), vI ((((nk B z 2 tk).1 : Nat) : Int)), vI (0)]) hx dX4_readRun_93 (Nat.le_of_ble_eq_true rfl) rfl rfl ?_
        refine J_aload_n hx dX4_readRun_95 (i := 0) rfl rfl ?_
        refine J_getI2 (v := (((nk B z 1 tk).1 : Nat) : Int)) hx fl_X4_15 cl_X4 dX4_readRun_96 hC.k63 (by decide) rfl hP4.1 ?_
        refine J_iconst (v := -1) hx dX4_readRun_99 (by decide) ?_
        refine J_icmp_eq (tgt := 104) hx dX4_readRun_100 (by decide) (fun c9 => ?_) (fun c9 => ?_)
        · exfalso; omega
        · refine J_vret hx hr dX4_readRun_103 ?_
          have eR : sRun B z A tk = ((((nk B z 1 tk).1 : Nat) : Int), A, tk) := by
            unfold sRun
            rw [if_pos (Or.inr (by unfold overY at *; omega))]
          rw [eR] at hQ
          exact hQ M4 hP4.1 (fun h9 => absurd h9 (show ((_ : Nat) : Int) ≠ -1 by omega)) hF4
      · refine J_iconst (v := 1) hx dX4_readRun_81 (by decide) ?_
        refine J_aload_n hx dX4_readRun_82 (i := 0) rfl rfl ?_
        refine J_iconst (v := 0) hx dX4_readRun_83 (by decide) ?_
        refine J_iconst (v := 1) hx dX4_readRun_84 (by decide) ?_
        refine J_invV (As := [vI (0), vI (1)]) (st := [vI (1)]) hx lk_X4_82 okX4_number dX4_readRun_85 hC.k63 (by decide) rfl rfl rfl (Nat.le_of_ble_eq_true rfl) (Nat.zero_add _).symm (Nat.zero_add _).symm rfl (c_X4_number_b hE4 hP4.1 (by omega) ?_)
        refine J_iadd (v := 0) hx dX4_readRun_88 (by decide) ?_
        refine J_goto (tgt := 93) hx dX4_readRun_89 (by decide) ?_
        refine J_istore (lsn := [vR (o + 63), vR (o + 23), vI ((((nk B z 1 tk).1 : Nat) : Int)), vI ((((vk B z 1 tk).toNat : Nat) : Int)), vI ((-1)), vI ((((nk B z 2 tk).1 : Nat) : Int)), vI (0)]) hx dX4_readRun_93 (Nat.le_of_ble_eq_true rfl) rfl rfl ?_
        refine J_aload_n hx dX4_readRun_95 (i := 0) rfl rfl ?_
        refine J_getI2 (v := (((nk B z 1 tk).1 : Nat) : Int)) hx fl_X4_15 cl_X4 dX4_readRun_96 hC.k63 (by decide) rfl hP4.1 ?_
        refine J_iconst (v := -1) hx dX4_readRun_99 (by decide) ?_
        refine J_icmp_eq (tgt := 104) hx dX4_readRun_100 (by decide) (fun c10 => ?_) (fun c10 => ?_)
        · exfalso; omega
        · refine J_vret hx hr dX4_readRun_103 ?_
          have eR : sRun B z A tk = ((((nk B z 1 tk).1 : Nat) : Int), A, tk) := by
            unfold sRun
            rw [if_pos (Or.inr (by unfold overY at *; omega))]
          rw [eR] at hQ
          exact hQ M4 hP4.1 (fun h9 => absurd h9 (show ((_ : Nat) : Int) ≠ -1 by omega)) hF4
    · refine J_aload_n hx dX4_readRun_36 (i := 1) rfl rfl ?_
      refine J_iload_n hx dX4_readRun_37 (i := 3) rfl rfl ?_
      refine J_invV (As := [vI ((((vk B z 1 tk).toNat : Nat) : Int))]) (st := []) hx lk_X4_95 okX5_isCalled dX4_readRun_38 hC.y2.o (by decide) rfl rfl rfl (Nat.le_of_ble_eq_true rfl) (Nat.zero_add _).symm (Nat.zero_add _).symm rfl (c_X5_isCalled hC.y2 hY3 hWA (p := (vk B z 1 tk).toNat) (by omega) ?_)
      intro v11 hv11
      refine J_if_ne (tgt := 49) hx dX4_readRun_41 (by decide) (fun c12 => ?_) (fun c12 => ?_)
      · have hov : ¬ overY A := fun q9 => by unfold overY at *; omega
        have hcl : A.co ((vk B z 1 tk).toNat) ≠ A.tn := by omega
        refine J_aload_n hx dX4_readRun_49 (i := 0) rfl rfl ?_
        refine J_iconst (v := 0) hx dX4_readRun_50 (by decide) ?_
        refine J_aload_n hx dX4_readRun_51 (i := 1) rfl rfl ?_
        refine J_getR (b := o + 23 + 10) hx fl_X4_99 cl_X5 dX4_readRun_52 hC.y2.o (by decide) rfl hC.y2.r7 ?_
        refine J_aload_n hx dX4_readRun_55 (i := 1) rfl rfl ?_
        refine J_getI2 (v := ((A.tn : Nat) : Int)) hx fl_X4_101 cl_X5 dX4_readRun_56 hC.y2.o (by decide) rfl (hY3.tn hWA) ?_
        have rg13 := hWA.tn2
        refine J_iald2 (v := (((A.ch A.tn).length : Nat) : Int)) hx A.tn dX4_readRun_59 hC.y2.k10 (by omega) (hC.y2.l10 (by omega)) (hY3.sz (by omega)) ?_
        have rg14 := hWA.len8 (c := A.tn) (by omega)
        have rg15 := hWA.lenN (c := A.tn) (by omega)
        refine J_iconst (v := 2) hx dX4_readRun_60 (by decide) ?_
        refine J_isub (v := (((A.ch A.tn).length : Nat) : Int) - 2) hx dX4_readRun_61 (w32_id (by omega) (by omega)) ?_
        refine J_invV (As := [vI (0), vI ((((A.ch A.tn).length : Nat) : Int) - 2)]) (st := []) hx lk_X4_82 okX4_number dX4_readRun_62 hC.k63 (by decide) rfl rfl rfl (Nat.le_of_ble_eq_true rfl) (Nat.zero_add _).symm (Nat.zero_add _).symm rfl (c_X4_number hE3 (lo := 0) (hi := (((A.ch A.tn).length : Nat) : Int) - 2) (by omega) (nk_wf hwt 2).1 hP3 ?_ ?_)
        · intro hk2 M4 hP4 hT4
          replace hP4 : TPc M4 (o + 63) (nk B z 3 tk) (-1) := hP4
          have hE4 := hE3.fr hT4
          have hY4 := hY3.t hT4
          have hF4 := hF3.tr (FrZ.t hT4)
          have rv2 : 2 = 2 ∧ (0) ≤ vk B z 2 tk ∧ vk B z 2 tk ≤ ((((A.ch A.tn).length : Nat) : Int) - 2) := ⟨rfl, (okT_t hk2).2⟩
          have en2 : vlT B (nk B z 2 tk) = (((vk B z 2 tk).toNat : Nat) : Int) := by show vk B z 2 tk = _; omega
          rw [en2]
          refine J_istore (lsn := [vR (o + 63), vR (o + 23), vI ((((nk B z 1 tk).1 : Nat) : Int)), vI ((((vk B z 1 tk).toNat : Nat) : Int)), vI ((((vk B z 2 tk).toNat : Nat) : Int)), vU, vU]) hx dX4_readRun_65 (Nat.le_of_ble_eq_true rfl) rfl rfl ?_
          refine J_aload_n hx dX4_readRun_67 (i := 0) rfl rfl ?_
          refine J_getI2 (v := (((nk B z 3 tk).1 : Nat) : Int)) hx fl_X4_35 cl_X4 dX4_readRun_68 hC.k63 (by decide) rfl hP4.2.2.1 ?_
          refine J_istore (lsn := [vR (o + 63), vR (o + 23), vI ((((nk B z 1 tk).1 : Nat) : Int)), vI ((((vk B z 1 tk).toNat : Nat) : Int)), vI ((((vk B z 2 tk).toNat : Nat) : Int)), vI ((((nk B z 3 tk).1 : Nat) : Int)), vU]) hx dX4_readRun_71 (Nat.le_of_ble_eq_true rfl) rfl rfl ?_
          refine J_aload_n hx dX4_readRun_73 (i := 0) rfl rfl ?_
          refine J_getI2 (v := (nk B z 3 tk).2.1) hx fl_X4_32 cl_X4 dX4_readRun_74 hC.k63 (by decide) rfl hP4.2.1 ?_
          refine J_iconst (v := 2) hx dX4_readRun_77 (by decide) ?_
          refine J_icmp_ne (tgt := 92) hx dX4_readRun_78 (by decide) (fun c16 => ?_) (fun c16 => ?_)
          · refine J_iconst (v := 0) hx dX4_readRun_92 (by decide) ?_
            refine J_istore (lsn := [vR (o + 63), vR (o + 23), vI ((((nk B z 1 tk).1 : Nat) : Int)), vI ((((vk B z 1 tk).toNat : Nat) : Int)), vI ((((vk B z 2 tk).toNat : Nat) : Int)), vI ((((nk B z 3 tk).1 : Nat) : Int)), vI (0)]) hx dX4_readRun_93 (Nat.le_of_ble_eq_true rfl) rfl rfl ?_
            refine J_aload_n hx dX4_readRun_95 (i := 0) rfl rfl ?_
            refine J_getI2 (v := (-1)) hx fl_X4_15 cl_X4 dX4_readRun_96 hC.k63 (by decide) rfl hP4.1 ?_
            refine J_iconst (v := -1) hx dX4_readRun_99 (by decide) ?_
            refine J_icmp_eq (tgt := 104) hx dX4_readRun_100 (by decide) (fun _ => ?_) (fun c9 => absurd c9 (by decide))
            refine J_aload_n hx dX4_readRun_104 (i := 1) rfl rfl ?_
            refine J_iload_n hx dX4_readRun_105 (i := 3) rfl rfl ?_
            refine J_iload hx dX4_readRun_106 rfl ?_
            refine J_iload hx dX4_readRun_108 rfl ?_
            refine J_invV (As := [vI ((((vk B z 1 tk).toNat : Nat) : Int)), vI ((((vk B z 2 tk).toNat : Nat) : Int)), vI (0)]) (st := []) hx lk_X4_104 okX5_canEnd dX4_readRun_110 hC.y2.o (by decide) rfl rfl rfl (Nat.le_of_ble_eq_true rfl) (Nat.zero_add _).symm (Nat.zero_add _).symm rfl (c_X5_canEnd hC.y2 hY4 hWA (p := (vk B z 1 tk).toNat) (by omega) (j := (vk B z 2 tk).toNat) (by omega) (e := 0) ?_)
            intro ve hve
            have rgo : 0 ≤ oddsY A ((vk B z 1 tk).toNat) ((vk B z 2 tk).toNat) ∧ oddsY A ((vk B z 1 tk).toNat) ((vk B z 2 tk).toNat) ≤ 1000000 := oddsB_rg hWA _ _
            refine J_if_ne (tgt := 123) hx dX4_readRun_113 (by decide) (fun c18 => ?_) (fun c18 => ?_)
            · refine J_aload_n hx dX4_readRun_123 (i := 1) rfl rfl ?_
              refine J_iload_n hx dX4_readRun_124 (i := 3) rfl rfl ?_
              refine J_iload hx dX4_readRun_125 rfl ?_
              refine J_iload hx dX4_readRun_127 rfl ?_
              refine J_invVv (As := [vI ((((vk B z 1 tk).toNat : Nat) : Int)), vI ((((vk B z 2 tk).toNat : Nat) : Int)), vI (0)]) (st := []) hx lk_X4_108 okX5_comeToPass dX4_readRun_129 hC.y2.o (by decide) rfl rfl rfl (Nat.le_of_ble_eq_true rfl) (Nat.zero_add _).symm (Nat.zero_add _).symm rfl (c_X5_comeToPass_held hC.y2 hY4 hWA (p := (vk B z 1 tk).toNat) (j := (vk B z 2 tk).toNat) (by omega) hcl (by omega) hov ?_)
              intro M5 hYx hYf
              have hP5 := hP4.y hYf
              have hF5 := hF4.tr (FrZ.y hYf)
              refine J_vret hx hr dX4_readRun_132 ?_
              have eR : sRun B z A tk = (-1, runH A ((vk B z 1 tk).toNat) ((vk B z 2 tk).toNat), nk B z 3 tk) := by
                unfold sRun
                rw [if_neg (fun q9 => q9.elim (fun q8 => by rw [hk1] at q8; cases q8) (fun q8 => q8.elim (fun q7 => hov q7) (fun q7 => hcl q7))), if_neg (by rw [hk2]; decide), if_neg (by omega), if_pos (by omega)]
              rw [eR] at hQ
              exact hQ M5 hP5.1 (fun _ => ⟨hYx, hP5⟩) hF5
            · refine J_aload_n hx dX4_readRun_116 (i := 0) rfl rfl ?_
              refine J_iload hx dX4_readRun_117 rfl ?_
              refine J_putI hx fl_X4_15 cl_X4 dX4_readRun_119 hC.k63 (by decide) rfl (Or.inl rfl) (by decide) ?_
              generalize eM5 : up2 M4 (o + 63) 2 (((nk B z 3 tk).1 : Nat) : Int) = M5
              have hM5a : M5 (o + 63) 2 = (((nk B z 3 tk).1 : Nat) : Int) := by rw [← eM5]; exact up2_at
              have hM5o : ∀ b9 j9, (b9 ≠ o + 63 ∨ j9 ≠ 2) → M5 b9 j9 = M4 b9 j9 := fun b9 j9 h9 => by rw [← eM5]; exact up2_ne h9
              have hM5r : ∀ b9, b9 ≠ o + 63 → M5 b9 = M4 b9 := fun b9 h9 => by rw [← eM5]; exact up2_row h9
              have hP5 : TPc M5 (o + 63) (nk B z 3 tk) (((nk B z 3 tk).1 : Nat) : Int) := hP4.put2 hM5a hM5o
              have hT5 : FrT (o + 63) M4 M5 := fun a9 j9 h9 => hM5o _ _ (by omega)
              have hE5 := hE4.fr hT5
              have hY5 := hY4.t hT5
              have hF5 := hF4.tr (FrZ.t hT5)
              refine J_vret hx hr dX4_readRun_122 ?_
              have eR : sRun B z A tk = ((((nk B z 3 tk).1 : Nat) : Int), A, tk) := by
                unfold sRun
                rw [if_neg (fun q9 => q9.elim (fun q8 => by rw [hk1] at q8; cases q8) (fun q8 => q8.elim (fun q7 => hov q7) (fun q7 => hcl q7))), if_neg (by rw [hk2]; decide), if_neg (by omega), if_neg (by omega)]
              rw [eR] at hQ
              exact hQ M5 hP5.1 (fun h9 => absurd h9 (show ((_ : Nat) : Int) ≠ -1 by omega)) hF5
          · refine J_iconst (v := 1) hx dX4_readRun_81 (by decide) ?_
            refine J_aload_n hx dX4_readRun_82 (i := 0) rfl rfl ?_
            refine J_iconst (v := 0) hx dX4_readRun_83 (by decide) ?_
            refine J_iconst (v := 1) hx dX4_readRun_84 (by decide) ?_
            refine J_invV (As := [vI (0), vI (1)]) (st := [vI (1)]) hx lk_X4_82 okX4_number dX4_readRun_85 hC.k63 (by decide) rfl rfl rfl (Nat.le_of_ble_eq_true rfl) (Nat.zero_add _).symm (Nat.zero_add _).symm rfl (c_X4_number hE4 (lo := 0) (hi := 1) (by omega) (nk_wf hwt 3).1 hP4 ?_ ?_)
            · intro hk3 M5 hP5 hT5
              replace hP5 : TPc M5 (o + 63) (nk B z 4 tk) (-1) := hP5
              have hE5 := hE4.fr hT5
              have hY5 := hY4.t hT5
              have hF5 := hF4.tr (FrZ.t hT5)
              have rv3 : 2 = 2 ∧ (0) ≤ vk B z 3 tk ∧ vk B z 3 tk ≤ (1) := ⟨rfl, (okT_t hk3).2⟩
              have en3 : vlT B (nk B z 3 tk) = (((vk B z 3 tk).toNat : Nat) : Int) := by show vk B z 3 tk = _; omega
              rw [en3]
              refine J_iadd (v := 1 + (((vk B z 3 tk).toNat : Nat) : Int)) hx dX4_readRun_88 (w32_id (by omega) (by omega)) ?_
              refine J_goto (tgt := 93) hx dX4_readRun_89 (by decide) ?_
              refine J_istore (lsn := [vR (o + 63), vR (o + 23), vI ((((nk B z 1 tk).1 : Nat) : Int)), vI ((((vk B z 1 tk).toNat : Nat) : Int)), vI ((((vk B z 2 tk).toNat : Nat) : Int)), vI ((((nk B z 3 tk).1 : Nat) : Int)), vI (1 + (((vk B z 3 tk).toNat : Nat) : Int))]) hx dX4_readRun_93 (Nat.le_of_ble_eq_true rfl) rfl rfl ?_
              refine J_aload_n hx dX4_readRun_95 (i := 0) rfl rfl ?_
              refine J_getI2 (v := (-1)) hx fl_X4_15 cl_X4 dX4_readRun_96 hC.k63 (by decide) rfl hP5.1 ?_
              refine J_iconst (v := -1) hx dX4_readRun_99 (by decide) ?_
              refine J_icmp_eq (tgt := 104) hx dX4_readRun_100 (by decide) (fun _ => ?_) (fun c9 => absurd c9 (by decide))
              refine J_aload_n hx dX4_readRun_104 (i := 1) rfl rfl ?_
              refine J_iload_n hx dX4_readRun_105 (i := 3) rfl rfl ?_
              refine J_iload hx dX4_readRun_106 rfl ?_
              refine J_iload hx dX4_readRun_108 rfl ?_
              refine J_invV (As := [vI ((((vk B z 1 tk).toNat : Nat) : Int)), vI ((((vk B z 2 tk).toNat : Nat) : Int)), vI (1 + (((vk B z 3 tk).toNat : Nat) : Int))]) (st := []) hx lk_X4_104 okX5_canEnd dX4_readRun_110 hC.y2.o (by decide) rfl rfl rfl (Nat.le_of_ble_eq_true rfl) (Nat.zero_add _).symm (Nat.zero_add _).symm rfl (c_X5_canEnd hC.y2 hY5 hWA (p := (vk B z 1 tk).toNat) (by omega) (j := (vk B z 2 tk).toNat) (by omega) (e := 1 + (((vk B z 3 tk).toNat : Nat) : Int)) ?_)
              intro ve hve
              have rgo : 0 ≤ oddsY A ((vk B z 1 tk).toNat) ((vk B z 2 tk).toNat) ∧ oddsY A ((vk B z 1 tk).toNat) ((vk B z 2 tk).toNat) ≤ 1000000 := oddsB_rg hWA _ _
              refine J_if_ne (tgt := 123) hx dX4_readRun_113 (by decide) (fun c20 => ?_) (fun c20 => ?_)
              · refine J_aload_n hx dX4_readRun_123 (i := 1) rfl rfl ?_
                refine J_iload_n hx dX4_readRun_124 (i := 3) rfl rfl ?_
                refine J_iload hx dX4_readRun_125 rfl ?_
                refine J_iload hx dX4_readRun_127 rfl ?_
                refine J_invVv (As := [vI ((((vk B z 1 tk).toNat : Nat) : Int)), vI ((((vk B z 2 tk).toNat : Nat) : Int)), vI (1 + (((vk B z 3 tk).toNat : Nat) : Int))]) (st := []) hx lk_X4_108 okX5_comeToPass dX4_readRun_129 hC.y2.o (by decide) rfl rfl rfl (Nat.le_of_ble_eq_true rfl) (Nat.zero_add _).symm (Nat.zero_add _).symm rfl (c_X5_comeT hC.y2 hY5 hWA (p := (vk B z 1 tk).toNat) (j := (vk B z 2 tk).toNat) (sd := (vk B z 3 tk).toNat) (by omega) hcl (by omega) hov (by omega) ?_)
                intro M6 hYx hYf
                have hP6 := hP5.y hYf
                have hF6 := hF5.tr (FrZ.y hYf)
                refine J_vret hx hr dX4_readRun_132 ?_
                have eR : sRun B z A tk = (-1, runT A ((vk B z 1 tk).toNat) ((vk B z 2 tk).toNat) (takenY A ((vk B z 2 tk).toNat) (vk B z 3 tk).toNat), nk B z 4 tk) := by
                  unfold sRun
                  rw [if_neg (fun q9 => q9.elim (fun q8 => by rw [hk1] at q8; cases q8) (fun q8 => q8.elim (fun q7 => hov q7) (fun q7 => hcl q7))), if_neg (by rw [hk2]; decide), if_pos (by omega), if_neg (fun q9 => q9.elim (fun q8 => by rw [hk3] at q8; cases q8) (fun q8 => by omega))]
                rw [eR] at hQ
                exact hQ M6 hP6.1 (fun _ => ⟨hYx, hP6⟩) hF6
              · refine J_aload_n hx dX4_readRun_116 (i := 0) rfl rfl ?_
                refine J_iload hx dX4_readRun_117 rfl ?_
                refine J_putI hx fl_X4_15 cl_X4 dX4_readRun_119 hC.k63 (by decide) rfl (Or.inl rfl) (by decide) ?_
                generalize eM6 : up2 M5 (o + 63) 2 (((nk B z 3 tk).1 : Nat) : Int) = M6
                have hM6a : M6 (o + 63) 2 = (((nk B z 3 tk).1 : Nat) : Int) := by rw [← eM6]; exact up2_at
                have hM6o : ∀ b9 j9, (b9 ≠ o + 63 ∨ j9 ≠ 2) → M6 b9 j9 = M5 b9 j9 := fun b9 j9 h9 => by rw [← eM6]; exact up2_ne h9
                have hM6r : ∀ b9, b9 ≠ o + 63 → M6 b9 = M5 b9 := fun b9 h9 => by rw [← eM6]; exact up2_row h9
                have hP6 : TPc M6 (o + 63) (nk B z 4 tk) (((nk B z 3 tk).1 : Nat) : Int) := hP5.put2 hM6a hM6o
                have hT6 : FrT (o + 63) M5 M6 := fun a9 j9 h9 => hM6o _ _ (by omega)
                have hE6 := hE5.fr hT6
                have hY6 := hY5.t hT6
                have hF6 := hF5.tr (FrZ.t hT6)
                refine J_vret hx hr dX4_readRun_122 ?_
                have eR : sRun B z A tk = ((((nk B z 3 tk).1 : Nat) : Int), A, tk) := by
                  unfold sRun
                  rw [if_neg (fun q9 => q9.elim (fun q8 => by rw [hk1] at q8; cases q8) (fun q8 => q8.elim (fun q7 => hov q7) (fun q7 => hcl q7))), if_neg (by rw [hk2]; decide), if_pos (by omega), if_pos (Or.inr (by omega))]
                rw [eR] at hQ
                exact hQ M6 hP6.1 (fun h9 => absurd h9 (show ((_ : Nat) : Int) ≠ -1 by omega)) hF6
            · intro hk3 M5 hP5 hT5
              have hE5 := hE4.fr hT5
              have hY5 := hY4.t hT5
              have hF5 := hF4.tr (FrZ.t hT5)
              refine J_iadd (v := 0) hx dX4_readRun_88 (by decide) ?_
              refine J_goto (tgt := 93) hx dX4_readRun_89 (by decide) ?_
              refine J_istore (lsn := [vR (o + 63), vR (o + 23), vI ((((nk B z 1 tk).1 : Nat) : Int)), vI ((((vk B z 1 tk).toNat : Nat) : Int)), vI ((((vk B z 2 tk).toNat : Nat) : Int)), vI ((((nk B z 3 tk).1 : Nat) : Int)), vI (0)]) hx dX4_readRun_93 (Nat.le_of_ble_eq_true rfl) rfl rfl ?_
              refine J_aload_n hx dX4_readRun_95 (i := 0) rfl rfl ?_
              refine J_getI2 (v := (((nk B z 3 tk).1 : Nat) : Int)) hx fl_X4_15 cl_X4 dX4_readRun_96 hC.k63 (by decide) rfl hP5.1 ?_
              refine J_iconst (v := -1) hx dX4_readRun_99 (by decide) ?_
              refine J_icmp_eq (tgt := 104) hx dX4_readRun_100 (by decide) (fun c21 => ?_) (fun c21 => ?_)
              · exfalso; omega
              · refine J_vret hx hr dX4_readRun_103 ?_
                have eR : sRun B z A tk = ((((nk B z 3 tk).1 : Nat) : Int), A, tk) := by
                  unfold sRun
                  rw [if_neg (fun q9 => q9.elim (fun q8 => by rw [hk1] at q8; cases q8) (fun q8 => q8.elim (fun q7 => hov q7) (fun q7 => hcl q7))), if_neg (by rw [hk2]; decide), if_pos (by omega), if_pos (Or.inl hk3)]
                rw [eR] at hQ
                exact hQ M5 hP5.1 (fun h9 => absurd h9 (show ((_ : Nat) : Int) ≠ -1 by omega)) hF5
        · intro hk2 M4 hP4 hT4
          have hE4 := hE3.fr hT4
          have hY4 := hY3.t hT4
          have hF4 := hF3.tr (FrZ.t hT4)
          refine J_istore (lsn := [vR (o + 63), vR (o + 23), vI ((((nk B z 1 tk).1 : Nat) : Int)), vI ((((vk B z 1 tk).toNat : Nat) : Int)), vI ((-1)), vU, vU]) hx dX4_readRun_65 (Nat.le_of_ble_eq_true rfl) rfl rfl ?_
          refine J_aload_n hx dX4_readRun_67 (i := 0) rfl rfl ?_
          refine J_getI2 (v := (((nk B z 2 tk).1 : Nat) : Int)) hx fl_X4_35 cl_X4 dX4_readRun_68 hC.k63 (by decide) rfl hP4.2.2.1 ?_
          refine J_istore (lsn := [vR (o + 63), vR (o + 23), vI ((((nk B z 1 tk).1 : Nat) : Int)), vI ((((vk B z 1 tk).toNat : Nat) : Int)), vI ((-1)), vI ((((nk B z 2 tk).1 : Nat) : Int)), vU]) hx dX4_readRun_71 (Nat.le_of_ble_eq_true rfl) rfl rfl ?_
          refine J_aload_n hx dX4_readRun_73 (i := 0) rfl rfl ?_
          refine J_getI2 (v := (nk B z 2 tk).2.1) hx fl_X4_32 cl_X4 dX4_readRun_74 hC.k63 (by decide) rfl hP4.2.1 ?_
          refine J_iconst (v := 2) hx dX4_readRun_77 (by decide) ?_
          refine J_icmp_ne (tgt := 92) hx dX4_readRun_78 (by decide) (fun c22 => ?_) (fun c22 => ?_)
          · refine J_iconst (v := 0) hx dX4_readRun_92 (by decide) ?_
            refine J_istore (lsn := [vR (o + 63), vR (o + 23), vI ((((nk B z 1 tk).1 : Nat) : Int)), vI ((((vk B z 1 tk).toNat : Nat) : Int)), vI ((-1)), vI ((((nk B z 2 tk).1 : Nat) : Int)), vI (0)]) hx dX4_readRun_93 (Nat.le_of_ble_eq_true rfl) rfl rfl ?_
            refine J_aload_n hx dX4_readRun_95 (i := 0) rfl rfl ?_
            refine J_getI2 (v := (((nk B z 2 tk).1 : Nat) : Int)) hx fl_X4_15 cl_X4 dX4_readRun_96 hC.k63 (by decide) rfl hP4.1 ?_
            refine J_iconst (v := -1) hx dX4_readRun_99 (by decide) ?_
            refine J_icmp_eq (tgt := 104) hx dX4_readRun_100 (by decide) (fun c23 => ?_) (fun c23 => ?_)
            · exfalso; omega
            · refine J_vret hx hr dX4_readRun_103 ?_
              have eR : sRun B z A tk = ((((nk B z 2 tk).1 : Nat) : Int), A, tk) := by
                unfold sRun
                rw [if_neg (fun q9 => q9.elim (fun q8 => by rw [hk1] at q8; cases q8) (fun q8 => q8.elim (fun q7 => hov q7) (fun q7 => hcl q7))), if_pos hk2]
              rw [eR] at hQ
              exact hQ M4 hP4.1 (fun h9 => absurd h9 (show ((_ : Nat) : Int) ≠ -1 by omega)) hF4
          · refine J_iconst (v := 1) hx dX4_readRun_81 (by decide) ?_
            refine J_aload_n hx dX4_readRun_82 (i := 0) rfl rfl ?_
            refine J_iconst (v := 0) hx dX4_readRun_83 (by decide) ?_
            refine J_iconst (v := 1) hx dX4_readRun_84 (by decide) ?_
            refine J_invV (As := [vI (0), vI (1)]) (st := [vI (1)]) hx lk_X4_82 okX4_number dX4_readRun_85 hC.k63 (by decide) rfl rfl rfl (Nat.le_of_ble_eq_true rfl) (Nat.zero_add _).symm (Nat.zero_add _).symm rfl (c_X4_number_b hE4 hP4.1 (by omega) ?_)
            refine J_iadd (v := 0) hx dX4_readRun_88 (by decide) ?_
            refine J_goto (tgt := 93) hx dX4_readRun_89 (by decide) ?_
            refine J_istore (lsn := [vR (o + 63), vR (o + 23), vI ((((nk B z 1 tk).1 : Nat) : Int)), vI ((((vk B z 1 tk).toNat : Nat) : Int)), vI ((-1)), vI ((((nk B z 2 tk).1 : Nat) : Int)), vI (0)]) hx dX4_readRun_93 (Nat.le_of_ble_eq_true rfl) rfl rfl ?_
            refine J_aload_n hx dX4_readRun_95 (i := 0) rfl rfl ?_
            refine J_getI2 (v := (((nk B z 2 tk).1 : Nat) : Int)) hx fl_X4_15 cl_X4 dX4_readRun_96 hC.k63 (by decide) rfl hP4.1 ?_
            refine J_iconst (v := -1) hx dX4_readRun_99 (by decide) ?_
            refine J_icmp_eq (tgt := 104) hx dX4_readRun_100 (by decide) (fun c24 => ?_) (fun c24 => ?_)
            · exfalso; omega
            · refine J_vret hx hr dX4_readRun_103 ?_
              have eR : sRun B z A tk = ((((nk B z 2 tk).1 : Nat) : Int), A, tk) := by
                unfold sRun
                rw [if_neg (fun q9 => q9.elim (fun q8 => by rw [hk1] at q8; cases q8) (fun q8 => q8.elim (fun q7 => hov q7) (fun q7 => hcl q7))), if_pos hk2]
              rw [eR] at hQ
              exact hQ M4 hP4.1 (fun h9 => absurd h9 (show ((_ : Nat) : Int) ≠ -1 by omega)) hF4
      · refine J_aload_n hx dX4_readRun_44 (i := 0) rfl rfl ?_
        refine J_iload_n hx dX4_readRun_45 (i := 2) rfl rfl ?_
        refine J_putI hx fl_X4_15 cl_X4 dX4_readRun_46 hC.k63 (by decide) rfl (Or.inl rfl) (by decide) ?_
        generalize eM4 : up2 M3 (o + 63) 2 (((nk B z 1 tk).1 : Nat) : Int) = M4
        have hM4a : M4 (o + 63) 2 = (((nk B z 1 tk).1 : Nat) : Int) := by rw [← eM4]; exact up2_at
        have hM4o : ∀ b9 j9, (b9 ≠ o + 63 ∨ j9 ≠ 2) → M4 b9 j9 = M3 b9 j9 := fun b9 j9 h9 => by rw [← eM4]; exact up2_ne h9
        have hM4r : ∀ b9, b9 ≠ o + 63 → M4 b9 = M3 b9 := fun b9 h9 => by rw [← eM4]; exact up2_row h9
        have hP4 : TPc M4 (o + 63) (nk B z 2 tk) (((nk B z 1 tk).1 : Nat) : Int) := hP3.put2 hM4a hM4o
        have hT4 : FrT (o + 63) M3 M4 := fun a9 j9 h9 => hM4o _ _ (by omega)
        have hE4 := hE3.fr hT4
        have hY4 := hY3.t hT4
        have hF4 := hF3.tr (FrZ.t hT4)
        refine J_aload_n hx dX4_readRun_49 (i := 0) rfl rfl ?_
        refine J_iconst (v := 0) hx dX4_readRun_50 (by decide) ?_
        refine J_aload_n hx dX4_readRun_51 (i := 1) rfl rfl ?_
        refine J_getR (b := o + 23 + 10) hx fl_X4_99 cl_X5 dX4_readRun_52 hC.y2.o (by decide) rfl hC.y2.r7 ?_
        refine J_aload_n hx dX4_readRun_55 (i := 1) rfl rfl ?_
        refine J_getI2 (v := ((A.tn : Nat) : Int)) hx fl_X4_101 cl_X5 dX4_readRun_56 hC.y2.o (by decide) rfl (hY4.tn hWA) ?_
        have rg25 := hWA.tn2
        refine J_iald2 (v := (((A.ch A.tn).length : Nat) : Int)) hx A.tn dX4_readRun_59 hC.y2.k10 (by omega) (hC.y2.l10 (by omega)) (hY4.sz (by omega)) ?_
        have rg26 := hWA.len8 (c := A.tn) (by omega)
        have rg27 := hWA.lenN (c := A.tn) (by omega)
        refine J_iconst (v := 2) hx dX4_readRun_60 (by decide) ?_
        refine J_isub (v := (((A.ch A.tn).length : Nat) : Int) - 2) hx dX4_readRun_61 (w32_id (by omega) (by omega)) ?_
        refine J_invV (As := [vI (0), vI ((((A.ch A.tn).length : Nat) : Int) - 2)]) (st := []) hx lk_X4_82 okX4_number dX4_readRun_62 hC.k63 (by decide) rfl rfl rfl (Nat.le_of_ble_eq_true rfl) (Nat.zero_add _).symm (Nat.zero_add _).symm rfl (c_X4_number_b hE4 hP4.1 (by omega) ?_)
        refine J_istore (lsn := [vR (o + 63), vR (o + 23), vI ((((nk B z 1 tk).1 : Nat) : Int)), vI ((((vk B z 1 tk).toNat : Nat) : Int)), vI ((-1)), vU, vU]) hx dX4_readRun_65 (Nat.le_of_ble_eq_true rfl) rfl rfl ?_
        refine J_aload_n hx dX4_readRun_67 (i := 0) rfl rfl ?_
        refine J_getI2 (v := (((nk B z 2 tk).1 : Nat) : Int)) hx fl_X4_35 cl_X4 dX4_readRun_68 hC.k63 (by decide) rfl hP4.2.2.1 ?_
        refine J_istore (lsn := [vR (o + 63), vR (o + 23), vI ((((nk B z 1 tk).1 : Nat) : Int)), vI ((((vk B z 1 tk).toNat : Nat) : Int)), vI ((-1)), vI ((((nk B z 2 tk).1 : Nat) : Int)), vU]) hx dX4_readRun_71 (Nat.le_of_ble_eq_true rfl) rfl rfl ?_
        refine J_aload_n hx dX4_readRun_73 (i := 0) rfl rfl ?_
        refine J_getI2 (v := (nk B z 2 tk).2.1) hx fl_X4_32 cl_X4 dX4_readRun_74 hC.k63 (by decide) rfl hP4.2.1 ?_
        refine J_iconst (v := 2) hx dX4_readRun_77 (by decide) ?_
        refine J_icmp_ne (tgt := 92) hx dX4_readRun_78 (by decide) (fun c28 => ?_) (fun c28 => ?_)
        · refine J_iconst (v := 0) hx dX4_readRun_92 (by decide) ?_
          refine J_istore (lsn := [vR (o + 63), vR (o + 23), vI ((((nk B z 1 tk).1 : Nat) : Int)), vI ((((vk B z 1 tk).toNat : Nat) : Int)), vI ((-1)), vI ((((nk B z 2 tk).1 : Nat) : Int)), vI (0)]) hx dX4_readRun_93 (Nat.le_of_ble_eq_true rfl) rfl rfl ?_
          refine J_aload_n hx dX4_readRun_95 (i := 0) rfl rfl ?_
          refine J_getI2 (v := (((nk B z 1 tk).1 : Nat) : Int)) hx fl_X4_15 cl_X4 dX4_readRun_96 hC.k63 (by decide) rfl hP4.1 ?_
          refine J_iconst (v := -1) hx dX4_readRun_99 (by decide) ?_
          refine J_icmp_eq (tgt := 104) hx dX4_readRun_100 (by decide) (fun c29 => ?_) (fun c29 => ?_)
          · exfalso; omega
          · refine J_vret hx hr dX4_readRun_103 ?_
            have eR : sRun B z A tk = ((((nk B z 1 tk).1 : Nat) : Int), A, tk) := by
              unfold sRun
              rw [if_pos (Or.inr (by unfold overY at *; omega))]
            rw [eR] at hQ
            exact hQ M4 hP4.1 (fun h9 => absurd h9 (show ((_ : Nat) : Int) ≠ -1 by omega)) hF4
        · refine J_iconst (v := 1) hx dX4_readRun_81 (by decide) ?_
          refine J_aload_n hx dX4_readRun_82 (i := 0) rfl rfl ?_
          refine J_iconst (v := 0) hx dX4_readRun_83 (by decide) ?_
          refine J_iconst (v := 1) hx dX4_readRun_84 (by decide) ?_
          refine J_invV (As := [vI (0), vI (1)]) (st := [vI (1)]) hx lk_X4_82 okX4_number dX4_readRun_85 hC.k63 (by decide) rfl rfl rfl (Nat.le_of_ble_eq_true rfl) (Nat.zero_add _).symm (Nat.zero_add _).symm rfl (c_X4_number_b hE4 hP4.1 (by omega) ?_)
          refine J_iadd (v := 0) hx dX4_readRun_88 (by decide) ?_
          refine J_goto (tgt := 93) hx dX4_readRun_89 (by decide) ?_
          refine J_istore (lsn := [vR (o + 63), vR (o + 23), vI ((((nk B z 1 tk).1 : Nat) : Int)), vI ((((vk B z 1 tk).toNat : Nat) : Int)), vI ((-1)), vI ((((nk B z 2 tk).1 : Nat) : Int)), vI (0)]) hx dX4_readRun_93 (Nat.le_of_ble_eq_true rfl) rfl rfl ?_
          refine J_aload_n hx dX4_readRun_95 (i := 0) rfl rfl ?_
          refine J_getI2 (v := (((nk B z 1 tk).1 : Nat) : Int)) hx fl_X4_15 cl_X4 dX4_readRun_96 hC.k63 (by decide) rfl hP4.1 ?_
          refine J_iconst (v := -1) hx dX4_readRun_99 (by decide) ?_
          refine J_icmp_eq (tgt := 104) hx dX4_readRun_100 (by decide) (fun c30 => ?_) (fun c30 => ?_)
          · exfalso; omega
          · refine J_vret hx hr dX4_readRun_103 ?_
            have eR : sRun B z A tk = ((((nk B z 1 tk).1 : Nat) : Int), A, tk) := by
              unfold sRun
              rw [if_pos (Or.inr (by unfold overY at *; omega))]
            rw [eR] at hQ
            exact hQ M4 hP4.1 (fun h9 => absurd h9 (show ((_ : Nat) : Int) ≠ -1 by omega)) hF4
  · intro hk1 M3 hP3 hT3
    have hE3 := hE2.fr hT3
    have hY3 := hY2.t hT3
    have hF3 := hF2.tr (FrZ.t hT3)
    refine J_istore_n (lsn := [vR (o + 63), vR (o + 23), vI ((((nk B z 1 tk).1 : Nat) : Int)), vI ((-1)), vU, vU, vU]) hx dX4_readRun_20 (i := 3) rfl (Nat.le_of_ble_eq_true rfl) rfl rfl ?_
    refine J_aload_n hx dX4_readRun_21 (i := 0) rfl rfl ?_
    refine J_getI2 (v := (((nk B z 1 tk).1 : Nat) : Int)) hx fl_X4_15 cl_X4 dX4_readRun_22 hC.k63 (by decide) rfl hP3.1 ?_
    refine J_iconst (v := -1) hx dX4_readRun_25 (by decide) ?_
    refine J_icmp_ne (tgt := 49) hx dX4_readRun_26 (by decide) (fun c31 => ?_) (fun c31 => ?_)
    · refine J_aload_n hx dX4_readRun_49 (i := 0) rfl rfl ?_
      refine J_iconst (v := 0) hx dX4_readRun_50 (by decide) ?_
      refine J_aload_n hx dX4_readRun_51 (i := 1) rfl rfl ?_
      refine J_getR (b := o + 23 + 10) hx fl_X4_99 cl_X5 dX4_readRun_52 hC.y2.o (by decide) rfl hC.y2.r7 ?_
      refine J_aload_n hx dX4_readRun_55 (i := 1) rfl rfl ?_
      refine J_getI2 (v := ((A.tn : Nat) : Int)) hx fl_X4_101 cl_X5 dX4_readRun_56 hC.y2.o (by decide) rfl (hY3.tn hWA) ?_
      have rg32 := hWA.tn2
      refine J_iald2 (v := (((A.ch A.tn).length : Nat) : Int)) hx A.tn dX4_readRun_59 hC.y2.k10 (by omega) (hC.y2.l10 (by omega)) (hY3.sz (by omega)) ?_
      have rg33 := hWA.len8 (c := A.tn) (by omega)
      have rg34 := hWA.lenN (c := A.tn) (by omega)
      refine J_iconst (v := 2) hx dX4_readRun_60 (by decide) ?_
      refine J_isub (v := (((A.ch A.tn).length : Nat) : Int) - 2) hx dX4_readRun_61 (w32_id (by omega) (by omega)) ?_
      refine J_invV (As := [vI (0), vI ((((A.ch A.tn).length : Nat) : Int) - 2)]) (st := []) hx lk_X4_82 okX4_number dX4_readRun_62 hC.k63 (by decide) rfl rfl rfl (Nat.le_of_ble_eq_true rfl) (Nat.zero_add _).symm (Nat.zero_add _).symm rfl (c_X4_number_b hE3 hP3.1 (by omega) ?_)
      refine J_istore (lsn := [vR (o + 63), vR (o + 23), vI ((((nk B z 1 tk).1 : Nat) : Int)), vI ((-1)), vI ((-1)), vU, vU]) hx dX4_readRun_65 (Nat.le_of_ble_eq_true rfl) rfl rfl ?_
      refine J_aload_n hx dX4_readRun_67 (i := 0) rfl rfl ?_
      refine J_getI2 (v := (((nk B z 1 tk).1 : Nat) : Int)) hx fl_X4_35 cl_X4 dX4_readRun_68 hC.k63 (by decide) rfl hP3.2.2.1 ?_
      refine J_istore (lsn := [vR (o + 63), vR (o + 23), vI ((((nk B z 1 tk).1 : Nat) : Int)), vI ((-1)), vI ((-1)), vI ((((nk B z 1 tk).1 : Nat) : Int)), vU]) hx dX4_readRun_71 (Nat.le_of_ble_eq_true rfl) rfl rfl ?_
      refine J_aload_n hx dX4_readRun_73 (i := 0) rfl rfl ?_
      refine J_getI2 (v := (nk B z 1 tk).2.1) hx fl_X4_32 cl_X4 dX4_readRun_74 hC.k63 (by decide) rfl hP3.2.1 ?_
      refine J_iconst (v := 2) hx dX4_readRun_77 (by decide) ?_
      refine J_icmp_ne (tgt := 92) hx dX4_readRun_78 (by decide) (fun c35 => ?_) (fun c35 => ?_)
      · refine J_iconst (v := 0) hx dX4_readRun_92 (by decide) ?_
        refine J_istore (lsn := [vR (o + 63), vR (o + 23), vI ((((nk B z 1 tk).1 : Nat) : Int)), vI ((-1)), vI ((-1)), vI ((((nk B z 1 tk).1 : Nat) : Int)), vI (0)]) hx dX4_readRun_93 (Nat.le_of_ble_eq_true rfl) rfl rfl ?_
        refine J_aload_n hx dX4_readRun_95 (i := 0) rfl rfl ?_
        refine J_getI2 (v := (((nk B z 1 tk).1 : Nat) : Int)) hx fl_X4_15 cl_X4 dX4_readRun_96 hC.k63 (by decide) rfl hP3.1 ?_
        refine J_iconst (v := -1) hx dX4_readRun_99 (by decide) ?_
        refine J_icmp_eq (tgt := 104) hx dX4_readRun_100 (by decide) (fun c36 => ?_) (fun c36 => ?_)
        · exfalso; omega
        · refine J_vret hx hr dX4_readRun_103 ?_
          have eR : sRun B z A tk = ((((nk B z 1 tk).1 : Nat) : Int), A, tk) := by
            unfold sRun
            rw [if_pos (Or.inl hk1)]
          rw [eR] at hQ
          exact hQ M3 hP3.1 (fun h9 => absurd h9 (show ((_ : Nat) : Int) ≠ -1 by omega)) hF3
      · refine J_iconst (v := 1) hx dX4_readRun_81 (by decide) ?_
        refine J_aload_n hx dX4_readRun_82 (i := 0) rfl rfl ?_
        refine J_iconst (v := 0) hx dX4_readRun_83 (by decide) ?_
        refine J_iconst (v := 1) hx dX4_readRun_84 (by decide) ?_
        refine J_invV (As := [vI (0), vI (1)]) (st := [vI (1)]) hx lk_X4_82 okX4_number dX4_readRun_85 hC.k63 (by decide) rfl rfl rfl (Nat.le_of_ble_eq_true rfl) (Nat.zero_add _).symm (Nat.zero_add _).symm rfl (c_X4_number_b hE3 hP3.1 (by omega) ?_)
        refine J_iadd (v := 0) hx dX4_readRun_88 (by decide) ?_
        refine J_goto (tgt := 93) hx dX4_readRun_89 (by decide) ?_
        refine J_istore (lsn := [vR (o + 63), vR (o + 23), vI ((((nk B z 1 tk).1 : Nat) : Int)), vI ((-1)), vI ((-1)), vI ((((nk B z 1 tk).1 : Nat) : Int)), vI (0)]) hx dX4_readRun_93 (Nat.le_of_ble_eq_true rfl) rfl rfl ?_
        refine J_aload_n hx dX4_readRun_95 (i := 0) rfl rfl ?_
        refine J_getI2 (v := (((nk B z 1 tk).1 : Nat) : Int)) hx fl_X4_15 cl_X4 dX4_readRun_96 hC.k63 (by decide) rfl hP3.1 ?_
        refine J_iconst (v := -1) hx dX4_readRun_99 (by decide) ?_
        refine J_icmp_eq (tgt := 104) hx dX4_readRun_100 (by decide) (fun c37 => ?_) (fun c37 => ?_)
        · exfalso; omega
        · refine J_vret hx hr dX4_readRun_103 ?_
          have eR : sRun B z A tk = ((((nk B z 1 tk).1 : Nat) : Int), A, tk) := by
            unfold sRun
            rw [if_pos (Or.inl hk1)]
          rw [eR] at hQ
          exact hQ M3 hP3.1 (fun h9 => absurd h9 (show ((_ : Nat) : Int) ≠ -1 by omega)) hF3
    · exfalso; omega

