set_option maxHeartbeats 4000000 in
theorem c_X7_goesTold {g : WG} {d : Nat} {T : TT} {M : MM} {r sz : Nat} {A : YA} {Q : MVal → TT → MM → Nat → Prop} (hT : MT T r) (hN : MN M r A) (hW : WFY A) {v : Int} (hQ1 : bkOK A v → ∀ M', MN M' r (bkN A v.toNat) → FrN r M M' → Q (vI 1) T M' sz) (hQ0 : ¬ bkOK A v → Q (vI 0) T M sz) : Ct g (d + 4) mX7_goesTold [vR (r), vL (v)] T M sz 0 0 Q := by
  refine Ct_of2 (ls := [vR (r), vL (v), vU, vU, vU, vU, vU]) okX7_goesTold rfl (Nat.le_of_ble_eq_true rfl) rfl ?_
  intro x hx hr hnm
  have hn8 := hW.n8
  have ht2 := hW.tn2
  have hl8 := hW.len8 ht2
  refine J_lload_n hx dX7_goesTold_0 (i := 1) rfl rfl ?_
  refine J_ldc2 (v := 1000) hx ct_X7_336 dX7_goesTold_1 (by decide) ?_
  refine J_ldiv (v := (v.tdiv 1000).bmod 18446744073709551616) hx dX7_goesTold_4 (by decide) rfl ?_
  refine J_l2i (v := w32 ((v.tdiv 1000).bmod 18446744073709551616)) hx dX7_goesTold_5 rfl ?_
  refine J_istore_n (lsn := [vR (r), vL (v), vU, vI (w32 ((v.tdiv 1000).bmod 18446744073709551616)), vU, vU, vU]) hx dX7_goesTold_6 (i := 3) rfl (Nat.le_of_ble_eq_true rfl) rfl rfl ?_
  refine J_lload_n hx dX7_goesTold_7 (i := 1) rfl rfl ?_
  refine J_ldc2 (v := 100) hx ct_X7_338 dX7_goesTold_8 (by decide) ?_
  refine J_ldiv (v := (v.tdiv 100).bmod 18446744073709551616) hx dX7_goesTold_11 (by decide) rfl ?_
  refine J_ldc2 (v := 10) hx ct_X7_141 dX7_goesTold_12 (by decide) ?_
  refine J_lrem (v := ((v.tdiv 100).bmod 18446744073709551616).tmod 10) hx dX7_goesTold_15 (by decide) rfl ?_
  refine J_l2i (v := w32 (((v.tdiv 100).bmod 18446744073709551616).tmod 10)) hx dX7_goesTold_16 rfl ?_
  refine J_istore (lsn := [vR (r), vL (v), vU, vI (w32 ((v.tdiv 1000).bmod 18446744073709551616)), vI (w32 (((v.tdiv 100).bmod 18446744073709551616).tmod 10)), vU, vU]) hx dX7_goesTold_17 (Nat.le_of_ble_eq_true rfl) rfl rfl ?_
  refine J_lload_n hx dX7_goesTold_19 (i := 1) rfl rfl ?_
  refine J_ldc2 (v := 100) hx ct_X7_338 dX7_goesTold_20 (by decide) ?_
  refine J_lrem (v := v.tmod 100) hx dX7_goesTold_23 (by decide) rfl ?_
  refine J_l2i (v := w32 (v.tmod 100)) hx dX7_goesTold_24 rfl ?_
  refine J_istore (lsn := [vR (r), vL (v), vU, vI (w32 ((v.tdiv 1000).bmod 18446744073709551616)), vI (w32 (((v.tdiv 100).bmod 18446744073709551616).tmod 10)), vI (w32 (v.tmod 100)), vU]) hx dX7_goesTold_25 (Nat.le_of_ble_eq_true rfl) rfl rfl ?_
  refine J_lload_n hx dX7_goesTold_27 (i := 1) rfl rfl ?_
  refine J_lconst (v := 0) hx dX7_goesTold_28 (by decide) ?_
  refine J_ldc2 (v := 7999) hx ct_X7_340 dX7_goesTold_29 (by decide) ?_
  refine J_invS (As := [vL (v), vL (0), vL (7999)]) (st := []) hx lk_X7_85 okX7_in dX7_goesTold_32 rfl rfl (Nat.le_of_ble_eq_true rfl) (Nat.zero_add _).symm (Nat.zero_add _).symm rfl (c_X7_in (a := v) (lo := 0) (hi := 7999) ?_)
  intro v1 hv1
  refine J_if_eq (tgt := 84) hx dX7_goesTold_35 (by decide) (fun c2 => ?_) (fun c2 => ?_)
  · refine J_iconst (v := 0) hx dX7_goesTold_84 (by decide) ?_
    refine J_zret hx hr dX7_goesTold_85 (by omega) ?_
    exact hQ0 (fun h9 => by obtain ⟨h1, h2, h3⟩ := h9; omega)
  · obtain ⟨vN, rfl⟩ : ∃ z : Nat, v = ((z : Nat) : Int) := ⟨v.toNat, by omega⟩
    rw [td1 (by omega), td2 (by omega), td3 (by omega)]
    refine J_aload_n hx dX7_goesTold_38 (i := 0) rfl rfl ?_
    refine J_iload_n hx dX7_goesTold_39 (i := 3) rfl rfl ?_
    refine J_invV (As := [vI (((vN / 1000 : Nat) : Int))]) (st := []) hx lk_X7_109 okX7_isOne dX7_goesTold_40 hT.o (by decide) rfl rfl rfl (Nat.le_of_ble_eq_true rfl) (Nat.zero_add _).symm (Nat.zero_add _).symm rfl (c_X7_isOne hT hN hW (one := ((vN / 1000 : Nat) : Int)) (by omega) ?_)
    intro v3 hv3
    refine J_if_eq (tgt := 84) hx dX7_goesTold_43 (by decide) (fun c4 => ?_) (fun c4 => ?_)
    · refine J_iconst (v := 0) hx dX7_goesTold_84 (by decide) ?_
      refine J_zret hx hr dX7_goesTold_85 (by omega) ?_
      exact hQ0 (fun h9 => by
        obtain ⟨h1, h2, h3⟩ := h9
        rw [Int.toNat_natCast] at h3
        obtain ⟨k1, k2, k3, k4, k5, k6⟩ := h3
        first | omega | (unfold overY at *; omega))
    · refine J_aload_n hx dX7_goesTold_46 (i := 0) rfl rfl ?_
      refine J_invV (As := []) (st := []) hx lk_X7_208 okX7_isOver dX7_goesTold_47 hT.o (by decide) rfl rfl rfl (Nat.le_of_ble_eq_true rfl) (Nat.zero_add _).symm (Nat.zero_add _).symm rfl (c_X7_isOver hT hN hW  ?_)
      intro v5 hv5
      refine J_if_ne (tgt := 84) hx dX7_goesTold_50 (by decide) (fun c6 => ?_) (fun c6 => ?_)
      · refine J_iconst (v := 0) hx dX7_goesTold_84 (by decide) ?_
        refine J_zret hx hr dX7_goesTold_85 (by omega) ?_
        exact hQ0 (fun h9 => by
          obtain ⟨h1, h2, h3⟩ := h9
          rw [Int.toNat_natCast] at h3
          obtain ⟨k1, k2, k3, k4, k5, k6⟩ := h3
          first | omega | (unfold overY at *; omega))
      · have hno : ¬ overY A := fun q9 => by unfold overY at *; omega
        refine J_aload_n hx dX7_goesTold_53 (i := 0) rfl rfl ?_
        refine J_iload_n hx dX7_goesTold_54 (i := 3) rfl rfl ?_
        refine J_invV (As := [vI (((vN / 1000 : Nat) : Int))]) (st := []) hx lk_X7_119 okX7_chainAt dX7_goesTold_55 hT.o (by decide) rfl rfl rfl (Nat.le_of_ble_eq_true rfl) (Nat.zero_add _).symm (Nat.zero_add _).symm rfl (c_X7_chainAt hT hN hW (p := vN / 1000) (by omega) ?_)
        have rg7 := A.co2 (vN / 1000)
        refine J_aload_n hx dX7_goesTold_58 (i := 0) rfl rfl ?_
        refine J_getI2 (v := ((A.tn : Nat) : Int)) hx fl_X7_148 cl_X7 dX7_goesTold_59 hT.o (by decide) rfl (hN.tn hW) ?_
        have rg8 := hW.tn2
        refine J_icmp_eq (tgt := 84) hx dX7_goesTold_62 (by decide) (fun c9 => ?_) (fun c9 => ?_)
        · refine J_iconst (v := 0) hx dX7_goesTold_84 (by decide) ?_
          refine J_zret hx hr dX7_goesTold_85 (by omega) ?_
          exact hQ0 (fun h9 => by
            obtain ⟨h1, h2, h3⟩ := h9
            rw [Int.toNat_natCast] at h3
            obtain ⟨k1, k2, k3, k4, k5, k6⟩ := h3
            first | omega | (unfold overY at *; omega))
        · refine J_aload_n hx dX7_goesTold_65 (i := 0) rfl rfl ?_
          refine J_aload_n hx dX7_goesTold_66 (i := 0) rfl rfl ?_
          refine J_getI2 (v := ((A.tn : Nat) : Int)) hx fl_X7_148 cl_X7 dX7_goesTold_67 hT.o (by decide) rfl (hN.tn hW) ?_
          have rg10 := hW.tn2
          refine J_iload hx dX7_goesTold_70 rfl ?_
          refine J_invV (As := [vI (((A.tn : Nat) : Int)), vI (((vN / 100 % 10 : Nat) : Int))]) (st := []) hx lk_X7_263 okX7_isJoint dX7_goesTold_72 hT.o (by decide) rfl rfl rfl (Nat.le_of_ble_eq_true rfl) (Nat.zero_add _).symm (Nat.zero_add _).symm rfl (c_X7_isJoint hT hN hW (c := A.tn) (by omega) (k := ((vN / 100 % 10 : Nat) : Int)) ?_)
          intro v11 hv11
          refine J_if_eq (tgt := 84) hx dX7_goesTold_75 (by decide) (fun c12 => ?_) (fun c12 => ?_)
          · refine J_iconst (v := 0) hx dX7_goesTold_84 (by decide) ?_
            refine J_zret hx hr dX7_goesTold_85 (by omega) ?_
            exact hQ0 (fun h9 => by
              obtain ⟨h1, h2, h3⟩ := h9
              rw [Int.toNat_natCast] at h3
              obtain ⟨k1, k2, k3, k4, k5, k6⟩ := h3
              first | omega | (unfold overY at *; omega))
          · refine J_iload hx dX7_goesTold_78 rfl ?_
            refine J_iconst (v := 2) hx dX7_goesTold_80 (by decide) ?_
            refine J_icmp_le (tgt := 86) hx dX7_goesTold_81 (by decide) (fun c13 => ?_) (fun c13 => ?_)
            · refine J_aload_n hx dX7_goesTold_86 (i := 0) rfl rfl ?_
              refine J_iload_n hx dX7_goesTold_87 (i := 3) rfl rfl ?_
              refine J_iload hx dX7_goesTold_88 rfl ?_
              refine J_invV (As := [vI (((vN / 1000 : Nat) : Int)), vI (((vN / 100 % 10 : Nat) : Int))]) (st := []) hx lk_X7_211 okX7_oddsOf dX7_goesTold_90 hT.o (by decide) rfl rfl rfl (Nat.le_of_ble_eq_true rfl) (Nat.zero_add _).symm (Nat.zero_add _).symm rfl (c_X7_oddsOf hT hN hW (p := vN / 1000) (by omega) (j := vN / 100 % 10) (by omega) ?_)
              have rg14 : 0 ≤ oddsY A (vN / 1000) (vN / 100 % 10) ∧ oddsY A (vN / 1000) (vN / 100 % 10) ≤ 1000000 := oddsB_rg hW _ _
              refine J_istore (lsn := [vR (r), vL (((vN : Nat) : Int)), vU, vI (((vN / 1000 : Nat) : Int)), vI (((vN / 100 % 10 : Nat) : Int)), vI (((vN % 100 : Nat) : Int)), vI (oddsY A (vN / 1000) (vN / 100 % 10))]) hx dX7_goesTold_93 (Nat.le_of_ble_eq_true rfl) rfl rfl ?_
              refine J_iload hx dX7_goesTold_95 rfl ?_
              refine J_if_ne (tgt := 110) hx dX7_goesTold_97 (by decide) (fun c15 => ?_) (fun c15 => ?_)
              · refine J_iload hx dX7_goesTold_110 rfl ?_
                refine J_if_ne (tgt := 117) hx dX7_goesTold_112 (by decide) (fun c16 => ?_) (fun c16 => ?_)
                · refine J_iload hx dX7_goesTold_117 rfl ?_
                  refine J_if_ne (tgt := 132) hx dX7_goesTold_119 (by decide) (fun c17 => ?_) (fun c17 => ?_)
                  · refine J_aload_n hx dX7_goesTold_132 (i := 0) rfl rfl ?_
                    refine J_iload_n hx dX7_goesTold_133 (i := 3) rfl rfl ?_
                    refine J_iload hx dX7_goesTold_134 rfl ?_
                    refine J_iload hx dX7_goesTold_136 rfl ?_
                    refine J_iconst (v := 1) hx dX7_goesTold_138 (by decide) ?_
                    refine J_isub (v := ((vN % 100 - 1 : Nat) : Int)) hx dX7_goesTold_139 (by rw [w32_id (by omega) (by omega)]; omega) ?_
                    refine J_invVv (As := [vI (((vN / 1000 : Nat) : Int)), vI (((vN / 100 % 10 : Nat) : Int)), vI (((vN % 100 - 1 : Nat) : Int))]) (st := []) hx lk_X7_214 okX7_runsTorn dX7_goesTold_140 hT.o (by decide) rfl rfl rfl (Nat.le_of_ble_eq_true rfl) (Nat.zero_add _).symm (Nat.zero_add _).symm rfl (c_X7_runsTorn hT hN hW (p := vN / 1000) (j := vN / 100 % 10) (sd := vN % 100 - 1) (by omega) (by omega) (by omega) hno (by omega) ?_)
                    intro M2 hY2 hF2
                    refine J_iconst (v := 1) hx dX7_goesTold_143 (by decide) ?_
                    refine J_zret hx hr dX7_goesTold_144 (by omega) ?_
                    exact hQ1 ⟨by omega, by omega, by rw [Int.toNat_natCast]; exact ⟨hno, by omega, by omega, by omega, by omega, by omega⟩⟩ M2 (by rw [Int.toNat_natCast]; unfold bkN; rw [if_neg (by omega)]; exact hY2) hF2
                  · refine J_aload_n hx dX7_goesTold_122 (i := 0) rfl rfl ?_
                    refine J_iload_n hx dX7_goesTold_123 (i := 3) rfl rfl ?_
                    refine J_iload hx dX7_goesTold_124 rfl ?_
                    refine J_invVv (As := [vI (((vN / 1000 : Nat) : Int)), vI (((vN / 100 % 10 : Nat) : Int))]) (st := []) hx lk_X7_219 okX7_runsHeld dX7_goesTold_126 hT.o (by decide) rfl rfl rfl (Nat.le_of_ble_eq_true rfl) (Nat.zero_add _).symm (Nat.zero_add _).symm rfl (c_X7_runsHeld hT hN hW (p := vN / 1000) (j := vN / 100 % 10) (by omega) (by omega) (by omega) hno ?_)
                    intro M2 hY2 hF2
                    refine J_goto (tgt := 143) hx dX7_goesTold_129 (by decide) ?_
                    refine J_iconst (v := 1) hx dX7_goesTold_143 (by decide) ?_
                    refine J_zret hx hr dX7_goesTold_144 (by omega) ?_
                    exact hQ1 ⟨by omega, by omega, by rw [Int.toNat_natCast]; exact ⟨hno, by omega, by omega, by omega, by omega, by omega⟩⟩ M2 (by rw [Int.toNat_natCast]; unfold bkN; rw [if_pos (by omega)]; exact hY2) hF2
                · refine J_iconst (v := 0) hx dX7_goesTold_115 (by decide) ?_
                  refine J_zret hx hr dX7_goesTold_116 (by omega) ?_
                  exact hQ0 (fun h9 => by
                    obtain ⟨h1, h2, h3⟩ := h9
                    rw [Int.toNat_natCast] at h3
                    obtain ⟨k1, k2, k3, k4, k5, k6⟩ := h3
                    first | omega | (unfold overY at *; omega))
              · refine J_iload hx dX7_goesTold_100 rfl ?_
                refine J_ldc (v := 1000000) hx ct_X7_218 dX7_goesTold_102 (by decide) ?_
                refine J_icmp_ne (tgt := 117) hx dX7_goesTold_104 (by decide) (fun c18 => ?_) (fun c18 => ?_)
                · refine J_iload hx dX7_goesTold_117 rfl ?_
                  refine J_if_ne (tgt := 132) hx dX7_goesTold_119 (by decide) (fun c19 => ?_) (fun c19 => ?_)
                  · refine J_aload_n hx dX7_goesTold_132 (i := 0) rfl rfl ?_
                    refine J_iload_n hx dX7_goesTold_133 (i := 3) rfl rfl ?_
                    refine J_iload hx dX7_goesTold_134 rfl ?_
                    refine J_iload hx dX7_goesTold_136 rfl ?_
                    refine J_iconst (v := 1) hx dX7_goesTold_138 (by decide) ?_
                    refine J_isub (v := ((vN % 100 - 1 : Nat) : Int)) hx dX7_goesTold_139 (by rw [w32_id (by omega) (by omega)]; omega) ?_
                    refine J_invVv (As := [vI (((vN / 1000 : Nat) : Int)), vI (((vN / 100 % 10 : Nat) : Int)), vI (((vN % 100 - 1 : Nat) : Int))]) (st := []) hx lk_X7_214 okX7_runsTorn dX7_goesTold_140 hT.o (by decide) rfl rfl rfl (Nat.le_of_ble_eq_true rfl) (Nat.zero_add _).symm (Nat.zero_add _).symm rfl (c_X7_runsTorn hT hN hW (p := vN / 1000) (j := vN / 100 % 10) (sd := vN % 100 - 1) (by omega) (by omega) (by omega) hno (by omega) ?_)
                    intro M2 hY2 hF2
                    refine J_iconst (v := 1) hx dX7_goesTold_143 (by decide) ?_
                    refine J_zret hx hr dX7_goesTold_144 (by omega) ?_
                    exact hQ1 ⟨by omega, by omega, by rw [Int.toNat_natCast]; exact ⟨hno, by omega, by omega, by omega, by omega, by omega⟩⟩ M2 (by rw [Int.toNat_natCast]; unfold bkN; rw [if_neg (by omega)]; exact hY2) hF2
                  · refine J_aload_n hx dX7_goesTold_122 (i := 0) rfl rfl ?_
                    refine J_iload_n hx dX7_goesTold_123 (i := 3) rfl rfl ?_
                    refine J_iload hx dX7_goesTold_124 rfl ?_
                    refine J_invVv (As := [vI (((vN / 1000 : Nat) : Int)), vI (((vN / 100 % 10 : Nat) : Int))]) (st := []) hx lk_X7_219 okX7_runsHeld dX7_goesTold_126 hT.o (by decide) rfl rfl rfl (Nat.le_of_ble_eq_true rfl) (Nat.zero_add _).symm (Nat.zero_add _).symm rfl (c_X7_runsHeld hT hN hW (p := vN / 1000) (j := vN / 100 % 10) (by omega) (by omega) (by omega) hno ?_)
                    intro M2 hY2 hF2
                    refine J_goto (tgt := 143) hx dX7_goesTold_129 (by decide) ?_
                    refine J_iconst (v := 1) hx dX7_goesTold_143 (by decide) ?_
                    refine J_zret hx hr dX7_goesTold_144 (by omega) ?_
                    exact hQ1 ⟨by omega, by omega, by rw [Int.toNat_natCast]; exact ⟨hno, by omega, by omega, by omega, by omega, by omega⟩⟩ M2 (by rw [Int.toNat_natCast]; unfold bkN; rw [if_pos (by omega)]; exact hY2) hF2
                · refine J_goto (tgt := 115) hx dX7_goesTold_107 (by decide) ?_
                  refine J_iconst (v := 0) hx dX7_goesTold_115 (by decide) ?_
                  refine J_zret hx hr dX7_goesTold_116 (by omega) ?_
                  exact hQ0 (fun h9 => by
                    obtain ⟨h1, h2, h3⟩ := h9
                    rw [Int.toNat_natCast] at h3
                    obtain ⟨k1, k2, k3, k4, k5, k6⟩ := h3
                    first | omega | (unfold overY at *; omega))
            · refine J_iconst (v := 0) hx dX7_goesTold_84 (by decide) ?_
              refine J_zret hx hr dX7_goesTold_85 (by omega) ?_
              exact hQ0 (fun h9 => by
                obtain ⟨h1, h2, h3⟩ := h9
                rw [Int.toNat_natCast] at h3
                obtain ⟨k1, k2, k3, k4, k5, k6⟩ := h3
                first | omega | (unfold overY at *; omega))

set_option maxHeartbeats 4000000 in
theorem lp_X7_wrongIn {g : WG} {d : Nat} {T : TT} {M : MM} {r sz : Nat} {S : ST} {Q : MVal → TT → MM → Nat → Prop} (hX : RX T M r sz S) (hW : WFS S) {x : CX} (hx : OKx g x RX7 cX7_wrongIn (d + 5)) (hr : RTx g x (some .int) Q) {s n : Nat} (hs8 : s < 8) (hrw : rowH (S.sh s).1) (hn : ((n : Nat) : Int) ≤ (S.sh s).2.1) {t : Nat} (hTr : TRD T r t) {A : YA} (k i : Nat) (M1 : MM) (hk : i + k = n) (hWA : WFY A) (hX1 : RX T M1 r sz S) (hY1 : MN M1 t A) (hF1 : FrN t M M1) (hQ : ∀ M', RX T M' r sz S → MN M' t (bkZ (S.sh s).2.2 k i A).2 → FrN t M M' → Q (vI (bkZ (S.sh s).2.2 k i A).1) T M' sz) : Jd g x 8 [vR (r), vR (r + 5 + s), vI (((n : Nat) : Int)), vR (t), vI (((i : Nat) : Int))] [] T M1 sz 0 0 := by
  have hz9 := hW.z hs8
  refine J_iload hx dX7_wrongIn_8 rfl ?_
  refine J_iload_n hx dX7_wrongIn_10 (i := 2) rfl rfl ?_
  refine J_icmp_ge (tgt := 34) hx dX7_wrongIn_11 (by decide) (fun c1 => ?_) (fun c1 => ?_)
  · refine J_iconst (v := -1) hx dX7_wrongIn_34 (by decide) ?_
    refine J_iret hx hr dX7_wrongIn_35 ?_
    have ek : k = 0 := by omega
    subst ek
    exact hQ M1 hX1 hY1 hF1
  · refine J_aload_n hx dX7_wrongIn_14 (i := 3) rfl rfl ?_
    refine J_aload_n hx dX7_wrongIn_15 (i := 1) rfl rfl ?_
    refine J_iload hx dX7_wrongIn_16 rfl ?_
    refine J_lald2 (v := (S.sh s).2.2 i) hx i dX7_wrongIn_18 (hX.t.kr hs8) (by omega) (hX.t.lr hs8 (by omega)) (hX1.n.se hs8 hrw (by omega)) ?_
    refine J_invV (As := [vL ((S.sh s).2.2 i)]) (st := []) hx lk_X7_342 okX7_goesTold dX7_wrongIn_19 hTr.2.1.o (by decide) rfl rfl rfl (Nat.le_of_ble_eq_true rfl) (Nat.zero_add _).symm (Nat.zero_add _).symm rfl (c_X7_goesTold hTr.2.1 hY1 hWA (v := (S.sh s).2.2 i) ?_ ?_)
    · intro hb M2 hY2 hF2
      refine J_if_ne (tgt := 28) hx dX7_wrongIn_22 (by decide) (fun _ => ?_) (fun c9 => absurd c9 (by decide))
      refine J_iinc (v := ((i : Nat) : Int) + 1) (lsn := [vR (r), vR (r + 5 + s), vI (((n : Nat) : Int)), vR (t), vI (((i : Nat) : Int) + 1)]) hx dX7_wrongIn_28 rfl (jinc1 (by omega) (by omega)) rfl rfl ?_
      refine J_goto (tgt := 8) hx dX7_wrongIn_31 (by decide) ?_
      obtain ⟨k, rfl⟩ : ∃ k9, k = k9 + 1 := ⟨k - 1, by omega⟩
      rw [bkZ_y hb] at hQ
      exact lp_X7_wrongIn hX hW hx hr hs8 hrw hn hTr k (i + 1) M2 (by omega) (bkN_wf hWA hb.2.2) (hX1.tr hTr hF2) hY2 (hF1.tr hF2) hQ
    · intro hb
      refine J_if_ne (tgt := 28) hx dX7_wrongIn_22 (by decide) (fun c9 => absurd c9 (by decide)) (fun _ => ?_)
      refine J_iload hx dX7_wrongIn_25 rfl ?_
      refine J_iret hx hr dX7_wrongIn_27 ?_
      obtain ⟨k, rfl⟩ : ∃ k9, k = k9 + 1 := ⟨k - 1, by omega⟩
      rw [bkZ_n hb] at hQ
      exact hQ M1 hX1 hY1 hF1
termination_by k
decreasing_by all_goals omega

set_option maxHeartbeats 4000000 in
theorem c_X7_wrongIn {g : WG} {d : Nat} {T : TT} {M : MM} {r sz : Nat} {S : ST} {Q : MVal → TT → MM → Nat → Prop} (hX : RX T M r sz S) (hW : WFS S) {s n : Nat} (hs8 : s < 8) (hrw : rowH (S.sh s).1) (hn : ((n : Nat) : Int) ≤ (S.sh s).2.1) (hQ : ∀ T' M' sz' t, RX T' M' r sz' S → TRD T' r t → MN M' t (bkZ (S.sh s).2.2 n 0 S.1).2 → (∀ b, b < r → T' b = T b ∧ M' b = M b) → Q (vI (bkZ (S.sh s).2.2 n 0 S.1).1) T' M' sz') : Ct g (d + 5) mX7_wrongIn [vR (r), vR (r + 5 + s), vI (((n : Nat) : Int))] T M sz 29 777 Q := by
  refine Ct_of2 (ls := [vR (r), vR (r + 5 + s), vI (((n : Nat) : Int)), vU, vU]) okX7_wrongIn rfl (Nat.le_of_ble_eq_true rfl) rfl ?_
  intro x hx hr hnm
  refine J_aload_n hx dX7_wrongIn_0 (i := 0) rfl rfl ?_
  refine J_invV (As := []) (st := []) hx lk_X7_250 okX7_fresh dX7_wrongIn_1 hX.t.o (by decide) rfl rfl rfl (Nat.le_of_ble_eq_true rfl) (Nat.add_zero _).symm (Nat.add_zero _).symm rfl (c_X7_fresh hX hW ?_)
  intro T1 M1 sz1 t hX1 hTr hY1 hlo
  refine J_astore_n (lsn := [vR (r), vR (r + 5 + s), vI (((n : Nat) : Int)), vR (t), vU]) hx dX7_wrongIn_4 (i := 3) rfl (Nat.le_of_ble_eq_true rfl) rfl rfl ?_
  refine J_iconst (v := 0) hx dX7_wrongIn_5 (by decide) ?_
  refine J_istore (lsn := [vR (r), vR (r + 5 + s), vI (((n : Nat) : Int)), vR (t), vI (0)]) hx dX7_wrongIn_6 (Nat.le_of_ble_eq_true rfl) rfl rfl ?_
  exact lp_X7_wrongIn hX1 hW hx hr hs8 hrw hn hTr n 0 M1 (by omega) hW.y hX1 hY1 FrN.rf (fun M9 h7 h8 h9 => hQ T1 M9 sz1 t h7 hTr h8 (fun b hb => ⟨(hlo b hb).1, by rw [h9.out (by have := hTr.2.2.1; omega)]; exact (hlo b hb).2⟩))

set_option maxHeartbeats 4000000 in
theorem c_X7_noBook {g : WG} {d : Nat} {T : TT} {M : MM} {r sz : Nat} {S : ST} {Q : MVal → TT → MM → Nat → Prop} (hT : MT T r) (hN : RN M r S) (hW : WFS S) {s n : Int} (hQ0 : (¬ (0 ≤ s ∧ s < 8 ∧ 0 ≤ n ∧ n ≤ 40) ∨ ((0 ≤ s ∧ s < 8 ∧ 0 ≤ n ∧ n ≤ 40) ∧ (0 ≤ (S.sh s.toNat).1 ∧ (S.sh s.toNat).1 ≤ 4) ∧ (S.sh s.toNat).2.1 < n)) → ∀ M', RN M' r (rfS S 0) → (∀ b, (b < r ∨ r + 29 ≤ b) → M' b = M b) → Q (vI (-2)) T M' sz) (hQ1 : ((0 ≤ s ∧ s < 8 ∧ 0 ≤ n ∧ n ≤ 40) ∧ 10 ≤ (S.sh s.toNat).1) → ∀ M', RN M' r (rfS S 1) → (∀ b, (b < r ∨ r + 29 ≤ b) → M' b = M b) → Q (vI (-3)) T M' sz) (hQ2 : ((0 ≤ s ∧ s < 8 ∧ 0 ≤ n ∧ n ≤ 40) ∧ (S.sh s.toNat).1 = -1) → ∀ M', RN M' r (rfS S 2) → (∀ b, (b < r ∨ r + 29 ≤ b) → M' b = M b) → Q (vI (-4)) T M' sz) (hQ3 : ((0 ≤ s ∧ s < 8 ∧ 0 ≤ n ∧ n ≤ 40) ∧ (0 ≤ (S.sh s.toNat).1 ∧ (S.sh s.toNat).1 ≤ 4) ∧ n ≤ (S.sh s.toNat).2.1) → Q (vI 0) T M sz) : Ct g (d + 3) mX7_noBook [vR (r), vI (s), vI (n)] T M sz 0 0 Q := by
  refine Ct_of2 (ls := [vR (r), vI (s), vI (n), vU]) okX7_noBook rfl (Nat.le_of_ble_eq_true rfl) rfl ?_
  intro x hx hr hnm
  refine J_iload_n hx dX7_noBook_0 (i := 1) rfl rfl ?_
  refine J_i2l hx dX7_noBook_1 ?_
  refine J_lconst (v := 0) hx dX7_noBook_2 (by decide) ?_
  refine J_ldc2 (v := 7) hx ct_X7_93 dX7_noBook_3 (by decide) ?_
  refine J_invS (As := [vL (s), vL (0), vL (7)]) (st := []) hx lk_X7_85 okX7_in dX7_noBook_6 rfl rfl (Nat.le_of_ble_eq_true rfl) (Nat.zero_add _).symm (Nat.zero_add _).symm rfl (c_X7_in (a := s) (lo := 0) (hi := 7) ?_)
  intro v1 hv1
  refine J_if_eq (tgt := 24) hx dX7_noBook_9 (by decide) (fun c2 => ?_) (fun c2 => ?_)
  · refine J_aload_n hx dX7_noBook_24 (i := 0) rfl rfl ?_
    refine J_bipush (v := -2) hx dX7_noBook_25 (by decide) ?_
    refine J_invV (As := [vI ((-2))]) (st := []) hx lk_X7_99 okX7_refuse dX7_noBook_27 hT.o (by decide) rfl rfl rfl (Nat.le_of_ble_eq_true rfl) (Nat.zero_add _).symm (Nat.zero_add _).symm rfl (c_X7_refuseS hT hN hW (k := 0) (by decide) ?_)
    intro M1 hN1 hf1
    refine J_iret hx hr dX7_noBook_30 ?_
    exact hQ0 (by (try simp only [Int.toNat_natCast] at *); omega) M1 hN1 hf1
  · refine J_iload_n hx dX7_noBook_12 (i := 2) rfl rfl ?_
    refine J_i2l hx dX7_noBook_13 ?_
    refine J_lconst (v := 0) hx dX7_noBook_14 (by decide) ?_
    refine J_ldc2 (v := 40) hx ct_X7_97 dX7_noBook_15 (by decide) ?_
    refine J_invS (As := [vL (n), vL (0), vL (40)]) (st := []) hx lk_X7_85 okX7_in dX7_noBook_18 rfl rfl (Nat.le_of_ble_eq_true rfl) (Nat.zero_add _).symm (Nat.zero_add _).symm rfl (c_X7_in (a := n) (lo := 0) (hi := 40) ?_)
    intro v3 hv3
    refine J_if_ne (tgt := 31) hx dX7_noBook_21 (by decide) (fun c4 => ?_) (fun c4 => ?_)
    · refine J_aload_n hx dX7_noBook_31 (i := 0) rfl rfl ?_
      refine J_iload_n hx dX7_noBook_32 (i := 1) rfl rfl ?_
      refine J_invV (As := [vI (s)]) (st := []) hx lk_X7_102 okX7_noRow dX7_noBook_33 hT.o (by decide) rfl rfl rfl (Nat.le_of_ble_eq_true rfl) (Nat.zero_add _).symm (Nat.zero_add _).symm rfl (c_X7_noRow hT hN hW (s := s) ?_ ?_ ?_ ?_)
      · intro hvf M1 hN1 hf1
        refine J_istore_n (lsn := [vR (r), vI (s), vI (n), vI ((-2))]) hx dX7_noBook_36 (i := 3) rfl (Nat.le_of_ble_eq_true rfl) rfl rfl ?_
        refine J_iload_n hx dX7_noBook_37 (i := 3) rfl rfl ?_
        refine J_if_eq (tgt := 43) hx dX7_noBook_38 (by decide) (fun c9 => absurd c9 (by decide)) (fun _ => ?_)
        refine J_iload_n hx dX7_noBook_41 (i := 3) rfl rfl ?_
        refine J_iret hx hr dX7_noBook_42 ?_
        exact hQ0 (by (try simp only [Int.toNat_natCast] at *); omega) M1 hN1 hf1
      · intro hvf M1 hN1 hf1
        refine J_istore_n (lsn := [vR (r), vI (s), vI (n), vI ((-3))]) hx dX7_noBook_36 (i := 3) rfl (Nat.le_of_ble_eq_true rfl) rfl rfl ?_
        refine J_iload_n hx dX7_noBook_37 (i := 3) rfl rfl ?_
        refine J_if_eq (tgt := 43) hx dX7_noBook_38 (by decide) (fun c9 => absurd c9 (by decide)) (fun _ => ?_)
        refine J_iload_n hx dX7_noBook_41 (i := 3) rfl rfl ?_
        refine J_iret hx hr dX7_noBook_42 ?_
        exact hQ1 (by (try simp only [Int.toNat_natCast] at *); omega) M1 hN1 hf1
      · intro hvf M1 hN1 hf1
        refine J_istore_n (lsn := [vR (r), vI (s), vI (n), vI ((-4))]) hx dX7_noBook_36 (i := 3) rfl (Nat.le_of_ble_eq_true rfl) rfl rfl ?_
        refine J_iload_n hx dX7_noBook_37 (i := 3) rfl rfl ?_
        refine J_if_eq (tgt := 43) hx dX7_noBook_38 (by decide) (fun c9 => absurd c9 (by decide)) (fun _ => ?_)
        refine J_iload_n hx dX7_noBook_41 (i := 3) rfl rfl ?_
        refine J_iret hx hr dX7_noBook_42 ?_
        exact hQ2 (by (try simp only [Int.toNat_natCast] at *); omega) M1 hN1 hf1
      · intro hvf
        refine J_istore_n (lsn := [vR (r), vI (s), vI (n), vI (0)]) hx dX7_noBook_36 (i := 3) rfl (Nat.le_of_ble_eq_true rfl) rfl rfl ?_
        refine J_iload_n hx dX7_noBook_37 (i := 3) rfl rfl ?_
        refine J_if_eq (tgt := 43) hx dX7_noBook_38 (by decide) (fun _ => ?_) (fun c9 => absurd c9 (by decide))
        obtain ⟨sN, rfl⟩ : ∃ z : Nat, s = ((z : Nat) : Int) := ⟨s.toNat, by omega⟩
        simp only [Int.toNat_natCast] at hvf
        refine J_aload_n hx dX7_noBook_43 (i := 0) rfl rfl ?_
        refine J_getR (b := r + 3) hx fl_X7_16 cl_X7 dX7_noBook_44 hT.o (by decide) rfl hT.r2 ?_
        refine J_iload_n hx dX7_noBook_47 (i := 1) rfl rfl ?_
        refine J_iald2 (v := (S.sh sN).2.1) hx sN dX7_noBook_48 hT.k3 (by omega) (hT.l3 (by omega)) (hN.sz (by omega) (show rowH _ from by unfold rowH; omega)) ?_
        have rg9 := hW.z (s := sN) (by omega)
        refine J_iload_n hx dX7_noBook_49 (i := 2) rfl rfl ?_
        refine J_icmp_ge (tgt := 62) hx dX7_noBook_50 (by decide) (fun c10 => ?_) (fun c10 => ?_)
        · refine J_iconst (v := 0) hx dX7_noBook_62 (by decide) ?_
          refine J_iret hx hr dX7_noBook_63 ?_
          exact hQ3 (by (try simp only [Int.toNat_natCast] at *); omega)
        · refine J_aload_n hx dX7_noBook_53 (i := 0) rfl rfl ?_
          refine J_bipush (v := -2) hx dX7_noBook_54 (by decide) ?_
          refine J_invV (As := [vI ((-2))]) (st := []) hx lk_X7_99 okX7_refuse dX7_noBook_56 hT.o (by decide) rfl rfl rfl (Nat.le_of_ble_eq_true rfl) (Nat.zero_add _).symm (Nat.zero_add _).symm rfl (c_X7_refuseS hT hN hW (k := 0) (by decide) ?_)
          intro M1 hN1 hf1
          refine J_goto (tgt := 63) hx dX7_noBook_59 (by decide) ?_
          refine J_iret hx hr dX7_noBook_63 ?_
          exact hQ0 (by (try simp only [Int.toNat_natCast] at *); omega) M1 hN1 hf1
    · refine J_aload_n hx dX7_noBook_24 (i := 0) rfl rfl ?_
      refine J_bipush (v := -2) hx dX7_noBook_25 (by decide) ?_
      refine J_invV (As := [vI ((-2))]) (st := []) hx lk_X7_99 okX7_refuse dX7_noBook_27 hT.o (by decide) rfl rfl rfl (Nat.le_of_ble_eq_true rfl) (Nat.zero_add _).symm (Nat.zero_add _).symm rfl (c_X7_refuseS hT hN hW (k := 0) (by decide) ?_)
      intro M1 hN1 hf1
      refine J_iret hx hr dX7_noBook_30 ?_
      exact hQ0 (by (try simp only [Int.toNat_natCast] at *); omega) M1 hN1 hf1

set_option maxHeartbeats 4000000 in
theorem c_X7_judge {g : WG} {d : Nat} {T : TT} {M : MM} {r sz : Nat} {S : ST} {Q : MVal → TT → MM → Nat → Prop} (hX : RX T M r sz S) (hW : WFS S) {s n : Int} (h_s : -2147483648 ≤ s ∧ s ≤ 2147483647) (h_n : -2147483648 ≤ n ∧ n ≤ 2147483647) (hQ : RQX r T M sz Q (a_judge S s n)) : Ct g (d + 6) mX7_judge [vR (r), vI (s), vI (n)] T M sz 29 777 Q := by
  refine Ct_of2 (ls := [vR (r), vI (s), vI (n), vU]) okX7_judge rfl (Nat.le_of_ble_eq_true rfl) rfl ?_
  intro x hx hr hnm
  have hT := hX.t
  have hN := hX.n
  have hn8 := hW.y.n8
  have ht2 := hW.y.tn2
  have hl8 := hW.y.len8 ht2
  refine J_aload_n hx dX7_judge_0 (i := 0) rfl rfl ?_
  refine J_iload_n hx dX7_judge_1 (i := 1) rfl rfl ?_
  refine J_iload_n hx dX7_judge_2 (i := 2) rfl rfl ?_
  refine J_invV (As := [vI (s), vI (n)]) (st := []) hx lk_X7_346 okX7_noBook dX7_judge_3 hT.o (by decide) rfl rfl rfl (Nat.le_of_ble_eq_true rfl) (Nat.zero_add _).symm (Nat.zero_add _).symm rfl (c_X7_noBook hT hN hW (s := s) (n := n) ?_ ?_ ?_ ?_)
  · intro hvf M1 hN1 hf1
    refine J_istore_n (lsn := [vR (r), vI (s), vI (n), vI ((-2))]) hx dX7_judge_6 (i := 3) rfl (Nat.le_of_ble_eq_true rfl) rfl rfl ?_
    refine J_iload_n hx dX7_judge_7 (i := 3) rfl rfl ?_
    refine J_if_eq (tgt := 15) hx dX7_judge_8 (by decide) (fun c9 => absurd c9 (by decide)) (fun _ => ?_)
    refine J_iload_n hx dX7_judge_11 (i := 3) rfl rfl ?_
    refine J_goto (tgt := 26) hx dX7_judge_12 (by decide) ?_
    refine J_iret hx hr dX7_judge_26 ?_
    exact hQ.to (v := -((0 + 2 : Nat) : Int)) (S := rfS S 0) (by
      unfold a_judge
      all_goals (try unfold overY at *)
      all_goals (try unfold mayQ at *)
      all_goals (try simp only [Int.toNat_natCast] at *)
      all_goals ((repeat' split) <;> first | rfl | (exfalso; omega) | (congr 1; omega))) (hX.rq rfl hN1 hf1) (fun b hb => ⟨rfl, hf1 b (Or.inl hb)⟩)
  · intro hvf M1 hN1 hf1
    refine J_istore_n (lsn := [vR (r), vI (s), vI (n), vI ((-3))]) hx dX7_judge_6 (i := 3) rfl (Nat.le_of_ble_eq_true rfl) rfl rfl ?_
    refine J_iload_n hx dX7_judge_7 (i := 3) rfl rfl ?_
    refine J_if_eq (tgt := 15) hx dX7_judge_8 (by decide) (fun c9 => absurd c9 (by decide)) (fun _ => ?_)
    refine J_iload_n hx dX7_judge_11 (i := 3) rfl rfl ?_
    refine J_goto (tgt := 26) hx dX7_judge_12 (by decide) ?_
    refine J_iret hx hr dX7_judge_26 ?_
    exact hQ.to (v := -((1 + 2 : Nat) : Int)) (S := rfS S 1) (by
      unfold a_judge
      all_goals (try unfold overY at *)
      all_goals (try unfold mayQ at *)
      all_goals (try simp only [Int.toNat_natCast] at *)
      all_goals ((repeat' split) <;> first | rfl | (exfalso; omega) | (congr 1; omega))) (hX.rq rfl hN1 hf1) (fun b hb => ⟨rfl, hf1 b (Or.inl hb)⟩)
  · intro hvf M1 hN1 hf1
    refine J_istore_n (lsn := [vR (r), vI (s), vI (n), vI ((-4))]) hx dX7_judge_6 (i := 3) rfl (Nat.le_of_ble_eq_true rfl) rfl rfl ?_
    refine J_iload_n hx dX7_judge_7 (i := 3) rfl rfl ?_
    refine J_if_eq (tgt := 15) hx dX7_judge_8 (by decide) (fun c9 => absurd c9 (by decide)) (fun _ => ?_)
    refine J_iload_n hx dX7_judge_11 (i := 3) rfl rfl ?_
    refine J_goto (tgt := 26) hx dX7_judge_12 (by decide) ?_
    refine J_iret hx hr dX7_judge_26 ?_
    exact hQ.to (v := -((2 + 2 : Nat) : Int)) (S := rfS S 2) (by
      unfold a_judge
      all_goals (try unfold overY at *)
      all_goals (try unfold mayQ at *)
      all_goals (try simp only [Int.toNat_natCast] at *)
      all_goals ((repeat' split) <;> first | rfl | (exfalso; omega) | (congr 1; omega))) (hX.rq rfl hN1 hf1) (fun b hb => ⟨rfl, hf1 b (Or.inl hb)⟩)
  · intro hvf
    refine J_istore_n (lsn := [vR (r), vI (s), vI (n), vI (0)]) hx dX7_judge_6 (i := 3) rfl (Nat.le_of_ble_eq_true rfl) rfl rfl ?_
    refine J_iload_n hx dX7_judge_7 (i := 3) rfl rfl ?_
    refine J_if_eq (tgt := 15) hx dX7_judge_8 (by decide) (fun _ => ?_) (fun c9 => absurd c9 (by decide))
    obtain ⟨sN, rfl⟩ : ∃ z : Nat, s = ((z : Nat) : Int) := ⟨s.toNat, by omega⟩
    obtain ⟨nN, rfl⟩ : ∃ z : Nat, n = ((z : Nat) : Int) := ⟨n.toNat, by omega⟩
    simp only [Int.toNat_natCast] at hvf
    refine J_aload_n hx dX7_judge_15 (i := 0) rfl rfl ?_
    refine J_aload_n hx dX7_judge_16 (i := 0) rfl rfl ?_
    refine J_getR (b := r + 4) hx fl_X7_21 cl_X7 dX7_judge_17 hX.t.o (by decide) rfl hX.t.r3 ?_
    refine J_iload_n hx dX7_judge_20 (i := 1) rfl rfl ?_
    refine J_aald (b := r + 5 + sN) hx sN dX7_judge_21 hX.t.k4 (by decide) (by omega) (hX.t.l4 (by omega)) (hX.t.f4 (by omega)) ?_
    refine J_iload_n hx dX7_judge_22 (i := 2) rfl rfl ?_
    refine J_invV (As := [vR (r + 5 + sN), vI (((nN : Nat) : Int))]) (st := []) hx lk_X7_349 okX7_wrongIn dX7_judge_23 hX.t.o (by decide) rfl rfl rfl (Nat.le_of_ble_eq_true rfl) (Nat.add_zero _).symm (Nat.add_zero _).symm rfl (c_X7_wrongIn hX hW (s := sN) (n := nN) (by omega) (show rowH _ from by unfold rowH; omega) (by omega) ?_)
    intro T2 M2 sz2 t hX2 hTr hYz hlo2
    have hWz : WFY (bkZ (S.sh sN).2.2 nN 0 S.1).2 := bkZ_wf nN 0 hW.y
    refine J_iret hx hr dX7_judge_26 ?_
    exact hQ.to (v := (bkZ (S.sh sN).2.2 nN 0 S.1).1) (S := S) (by
      unfold a_judge
      all_goals (try unfold overY at *)
      all_goals (try unfold mayQ at *)
      all_goals (try simp only [Int.toNat_natCast] at *)
      all_goals ((repeat' split) <;> first | rfl | (exfalso; omega) | (congr 1; omega))) hX2 hlo2

set_option maxHeartbeats 4000000 in
theorem c_X7_behind {g : WG} {d : Nat} {T : TT} {M : MM} {r sz : Nat} {S : ST} {Q : MVal → TT → MM → Nat → Prop} (hX : RX T M r sz S) (hW : WFS S) {s n w : Int} (h_s : -2147483648 ≤ s ∧ s ≤ 2147483647) (h_n : -2147483648 ≤ n ∧ n ≤ 2147483647) (h_w : -2147483648 ≤ w ∧ w ≤ 2147483647) (hQ : RQX r T M sz Q (a_behind S s n w)) : Ct g (d + 6) mX7_behind [vR (r), vI (s), vI (n), vI (w)] T M sz 29 777 Q := by
  refine Ct_of2 (ls := [vR (r), vI (s), vI (n), vI (w), vU]) okX7_behind rfl (Nat.le_of_ble_eq_true rfl) rfl ?_
  intro x hx hr hnm
  have hT := hX.t
  have hN := hX.n
  have hn8 := hW.y.n8
  have ht2 := hW.y.tn2
  have hl8 := hW.y.len8 ht2
  refine J_iload_n hx dX7_behind_0 (i := 1) rfl rfl ?_
  refine J_i2l hx dX7_behind_1 ?_
  refine J_lconst (v := 0) hx dX7_behind_2 (by decide) ?_
  refine J_ldc2 (v := 7) hx ct_X7_93 dX7_behind_3 (by decide) ?_
  refine J_invS (As := [vL (s), vL (0), vL (7)]) (st := []) hx lk_X7_85 okX7_in dX7_behind_6 rfl rfl (Nat.le_of_ble_eq_true rfl) (Nat.zero_add _).symm (Nat.zero_add _).symm rfl (c_X7_in (a := s) (lo := 0) (hi := 7) ?_)
  intro v1 hv1
  refine J_if_eq (tgt := 36) hx dX7_behind_9 (by decide) (fun c2 => ?_) (fun c2 => ?_)
  · refine J_aload_n hx dX7_behind_36 (i := 0) rfl rfl ?_
    refine J_bipush (v := -2) hx dX7_behind_37 (by decide) ?_
    refine J_invV (As := [vI ((-2))]) (st := []) hx lk_X7_99 okX7_refuse dX7_behind_39 hX.t.o (by decide) rfl rfl rfl (Nat.le_of_ble_eq_true rfl) (Nat.zero_add _).symm (Nat.zero_add _).symm rfl (c_X7_refuseS hT hN hW (k := 0) (by decide) ?_)
    intro M1 hN1 hf1
    refine J_iret hx hr dX7_behind_42 ?_
    exact hQ.to (v := -((0 + 2 : Nat) : Int)) (S := rfS S 0) (by
      unfold a_behind
      all_goals (try unfold overY at *)
      all_goals (try unfold mayQ at *)
      all_goals (try simp only [Int.toNat_natCast] at *)
      all_goals ((repeat' split) <;> first | rfl | (exfalso; omega) | (congr 1; omega))) (hX.rq rfl hN1 hf1) (fun b hb => ⟨rfl, hf1 b (Or.inl hb)⟩)
  · refine J_iload_n hx dX7_behind_12 (i := 2) rfl rfl ?_
    refine J_i2l hx dX7_behind_13 ?_
    refine J_lconst (v := 0) hx dX7_behind_14 (by decide) ?_
    refine J_ldc2 (v := 40) hx ct_X7_97 dX7_behind_15 (by decide) ?_
    refine J_invS (As := [vL (n), vL (0), vL (40)]) (st := []) hx lk_X7_85 okX7_in dX7_behind_18 rfl rfl (Nat.le_of_ble_eq_true rfl) (Nat.zero_add _).symm (Nat.zero_add _).symm rfl (c_X7_in (a := n) (lo := 0) (hi := 40) ?_)
    intro v3 hv3
    refine J_if_eq (tgt := 36) hx dX7_behind_21 (by decide) (fun c4 => ?_) (fun c4 => ?_)
    · refine J_aload_n hx dX7_behind_36 (i := 0) rfl rfl ?_
      refine J_bipush (v := -2) hx dX7_behind_37 (by decide) ?_
      refine J_invV (As := [vI ((-2))]) (st := []) hx lk_X7_99 okX7_refuse dX7_behind_39 hX.t.o (by decide) rfl rfl rfl (Nat.le_of_ble_eq_true rfl) (Nat.zero_add _).symm (Nat.zero_add _).symm rfl (c_X7_refuseS hT hN hW (k := 0) (by decide) ?_)
      intro M1 hN1 hf1
      refine J_iret hx hr dX7_behind_42 ?_
      exact hQ.to (v := -((0 + 2 : Nat) : Int)) (S := rfS S 0) (by
        unfold a_behind
        all_goals (try unfold overY at *)
        all_goals (try unfold mayQ at *)
        all_goals (try simp only [Int.toNat_natCast] at *)
        all_goals ((repeat' split) <;> first | rfl | (exfalso; omega) | (congr 1; omega))) (hX.rq rfl hN1 hf1) (fun b hb => ⟨rfl, hf1 b (Or.inl hb)⟩)
    · refine J_iload_n hx dX7_behind_24 (i := 3) rfl rfl ?_
      refine J_i2l hx dX7_behind_25 ?_
      refine J_lconst (v := 0) hx dX7_behind_26 (by decide) ?_
      refine J_ldc2 (v := 2) hx ct_X7_137 dX7_behind_27 (by decide) ?_
      refine J_invS (As := [vL (w), vL (0), vL (2)]) (st := []) hx lk_X7_85 okX7_in dX7_behind_30 rfl rfl (Nat.le_of_ble_eq_true rfl) (Nat.zero_add _).symm (Nat.zero_add _).symm rfl (c_X7_in (a := w) (lo := 0) (hi := 2) ?_)
      intro v5 hv5
      refine J_if_ne (tgt := 43) hx dX7_behind_33 (by decide) (fun c6 => ?_) (fun c6 => ?_)
      · refine J_aload_n hx dX7_behind_43 (i := 0) rfl rfl ?_
        refine J_iload_n hx dX7_behind_44 (i := 1) rfl rfl ?_
        refine J_iload_n hx dX7_behind_45 (i := 2) rfl rfl ?_
        refine J_invV (As := [vI (s), vI (n)]) (st := []) hx lk_X7_346 okX7_noBook dX7_behind_46 hT.o (by decide) rfl rfl rfl (Nat.le_of_ble_eq_true rfl) (Nat.zero_add _).symm (Nat.zero_add _).symm rfl (c_X7_noBook hT hN hW (s := s) (n := n) ?_ ?_ ?_ ?_)
        · intro hvf M1 hN1 hf1
          refine J_istore (lsn := [vR (r), vI (s), vI (n), vI (w), vI ((-2))]) hx dX7_behind_49 (Nat.le_of_ble_eq_true rfl) rfl rfl ?_
          refine J_iload hx dX7_behind_51 rfl ?_
          refine J_if_eq (tgt := 59) hx dX7_behind_53 (by decide) (fun c9 => absurd c9 (by decide)) (fun _ => ?_)
          refine J_iload hx dX7_behind_56 rfl ?_
          refine J_iret hx hr dX7_behind_58 ?_
          exact hQ.to (v := -((0 + 2 : Nat) : Int)) (S := rfS S 0) (by
            unfold a_behind
            all_goals (try unfold overY at *)
            all_goals (try unfold mayQ at *)
            all_goals (try simp only [Int.toNat_natCast] at *)
            all_goals ((repeat' split) <;> first | rfl | (exfalso; omega) | (congr 1; omega))) (hX.rq rfl hN1 hf1) (fun b hb => ⟨rfl, hf1 b (Or.inl hb)⟩)
        · intro hvf M1 hN1 hf1
          refine J_istore (lsn := [vR (r), vI (s), vI (n), vI (w), vI ((-3))]) hx dX7_behind_49 (Nat.le_of_ble_eq_true rfl) rfl rfl ?_
          refine J_iload hx dX7_behind_51 rfl ?_
          refine J_if_eq (tgt := 59) hx dX7_behind_53 (by decide) (fun c9 => absurd c9 (by decide)) (fun _ => ?_)
          refine J_iload hx dX7_behind_56 rfl ?_
          refine J_iret hx hr dX7_behind_58 ?_
          exact hQ.to (v := -((1 + 2 : Nat) : Int)) (S := rfS S 1) (by
            unfold a_behind
            all_goals (try unfold overY at *)
            all_goals (try unfold mayQ at *)
            all_goals (try simp only [Int.toNat_natCast] at *)
            all_goals ((repeat' split) <;> first | rfl | (exfalso; omega) | (congr 1; omega))) (hX.rq rfl hN1 hf1) (fun b hb => ⟨rfl, hf1 b (Or.inl hb)⟩)
        · intro hvf M1 hN1 hf1
          refine J_istore (lsn := [vR (r), vI (s), vI (n), vI (w), vI ((-4))]) hx dX7_behind_49 (Nat.le_of_ble_eq_true rfl) rfl rfl ?_
          refine J_iload hx dX7_behind_51 rfl ?_
          refine J_if_eq (tgt := 59) hx dX7_behind_53 (by decide) (fun c9 => absurd c9 (by decide)) (fun _ => ?_)
          refine J_iload hx dX7_behind_56 rfl ?_
          refine J_iret hx hr dX7_behind_58 ?_
          exact hQ.to (v := -((2 + 2 : Nat) : Int)) (S := rfS S 2) (by
            unfold a_behind
            all_goals (try unfold overY at *)
            all_goals (try unfold mayQ at *)
            all_goals (try simp only [Int.toNat_natCast] at *)
            all_goals ((repeat' split) <;> first | rfl | (exfalso; omega) | (congr 1; omega))) (hX.rq rfl hN1 hf1) (fun b hb => ⟨rfl, hf1 b (Or.inl hb)⟩)
        · intro hvf
          refine J_istore (lsn := [vR (r), vI (s), vI (n), vI (w), vI (0)]) hx dX7_behind_49 (Nat.le_of_ble_eq_true rfl) rfl rfl ?_
          refine J_iload hx dX7_behind_51 rfl ?_
          refine J_if_eq (tgt := 59) hx dX7_behind_53 (by decide) (fun _ => ?_) (fun c9 => absurd c9 (by decide))
          obtain ⟨sN, rfl⟩ : ∃ z : Nat, s = ((z : Nat) : Int) := ⟨s.toNat, by omega⟩
          obtain ⟨nN, rfl⟩ : ∃ z : Nat, n = ((z : Nat) : Int) := ⟨n.toNat, by omega⟩
          simp only [Int.toNat_natCast] at hvf
          refine J_aload_n hx dX7_behind_59 (i := 0) rfl rfl ?_
          refine J_aload_n hx dX7_behind_60 (i := 0) rfl rfl ?_
          refine J_getR (b := r + 4) hx fl_X7_21 cl_X7 dX7_behind_61 hX.t.o (by decide) rfl hX.t.r3 ?_
          refine J_iload_n hx dX7_behind_64 (i := 1) rfl rfl ?_
          refine J_aald (b := r + 5 + sN) hx sN dX7_behind_65 hX.t.k4 (by decide) (by omega) (hX.t.l4 (by omega)) (hX.t.f4 (by omega)) ?_
          refine J_iload_n hx dX7_behind_66 (i := 2) rfl rfl ?_
          refine J_invV (As := [vR (r + 5 + sN), vI (((nN : Nat) : Int))]) (st := []) hx lk_X7_349 okX7_wrongIn dX7_behind_67 hX.t.o (by decide) rfl rfl rfl (Nat.le_of_ble_eq_true rfl) (Nat.add_zero _).symm (Nat.add_zero _).symm rfl (c_X7_wrongIn hX hW (s := sN) (n := nN) (by omega) (show rowH _ from by unfold rowH; omega) (by omega) ?_)
          intro T2 M2 sz2 t hX2 hTr hYz hlo2
          have hWz : WFY (bkZ (S.sh sN).2.2 nN 0 S.1).2 := bkZ_wf nN 0 hW.y
          refine J_iconst (v := -1) hx dX7_behind_70 (by decide) ?_
          refine J_icmp_eq (tgt := 81) hx dX7_behind_71 (by decide) (fun c11 => ?_) (fun c11 => ?_)
          · refine J_iload_n hx dX7_behind_81 (i := 3) rfl rfl ?_
            refine J_iconst (v := 2) hx dX7_behind_82 (by decide) ?_
            refine J_icmp_ne (tgt := 96) hx dX7_behind_83 (by decide) (fun c12 => ?_) (fun c12 => ?_)
            · obtain ⟨wN, rfl⟩ : ∃ z : Nat, w = ((z : Nat) : Int) := ⟨w.toNat, by omega⟩
              refine J_aload_n hx dX7_behind_96 (i := 0) rfl rfl ?_
              refine J_getR (b := t) hx fl_X7_299 cl_X7 dX7_behind_97 hX2.t.o (by decide) rfl hTr.1 ?_
              refine J_getR (b := t + 25) hx fl_X7_57 cl_X7 dX7_behind_100 hTr.2.1.o (by decide) rfl hTr.2.1.r16 ?_
              refine J_iload_n hx dX7_behind_103 (i := 3) rfl rfl ?_
              refine J_iald2 (v := ((((bkZ (S.sh sN).2.2 nN 0 S.1).2.ch wN).length : Nat) : Int)) hx wN dX7_behind_104 hTr.2.1.k25 (by omega) (hTr.2.1.l25 (by omega)) (hYz.sz (by omega)) ?_
              refine J_iret hx hr dX7_behind_105 ?_
              exact hQ.to (v := ((((bkZ (S.sh sN).2.2 nN 0 S.1).2.ch wN).length : Nat) : Int)) (S := S) (by
                unfold a_behind
                all_goals (try unfold overY at *)
                all_goals (try unfold mayQ at *)
                all_goals (try simp only [Int.toNat_natCast] at *)
                all_goals ((repeat' split) <;> first | rfl | (exfalso; omega) | (congr 1; omega))) hX2 hlo2
            · refine J_aload_n hx dX7_behind_86 (i := 0) rfl rfl ?_
              refine J_getR (b := t) hx fl_X7_299 cl_X7 dX7_behind_87 hX2.t.o (by decide) rfl hTr.1 ?_
              refine J_invV (As := []) (st := []) hx lk_X7_277 okX7_wonNow dX7_behind_90 hTr.2.1.o (by decide) rfl rfl rfl (Nat.le_of_ble_eq_true rfl) (Nat.zero_add _).symm (Nat.zero_add _).symm rfl (c_X7_wonNow hTr.2.1 hYz hWz ?_)
              intro vw hvw
              have ew := wonY_of hvw
              subst ew
              refine J_goto (tgt := 105) hx dX7_behind_93 (by decide) ?_
              refine J_iret hx hr dX7_behind_105 ?_
              exact hQ.to (v := wonY (bkZ (S.sh sN).2.2 nN 0 S.1).2) (S := S) (by
                unfold a_behind
                all_goals (try unfold overY at *)
                all_goals (try unfold mayQ at *)
                all_goals (try simp only [Int.toNat_natCast] at *)
                all_goals ((repeat' split) <;> first | rfl | (exfalso; omega) | (congr 1; omega))) hX2 hlo2
          · refine J_aload_n hx dX7_behind_74 (i := 0) rfl rfl ?_
            refine J_bipush (v := -5) hx dX7_behind_75 (by decide) ?_
            refine J_invV (As := [vI ((-5))]) (st := []) hx lk_X7_99 okX7_refuse dX7_behind_77 hX2.t.o (by decide) rfl rfl rfl (Nat.le_of_ble_eq_true rfl) (Nat.zero_add _).symm (Nat.zero_add _).symm rfl (c_X7_refuseS hX2.t hX2.n hW (k := 3) (by decide) ?_)
            intro M1 hN1 hf1
            refine J_iret hx hr dX7_behind_80 ?_
            exact hQ.to (v := -((3 + 2 : Nat) : Int)) (S := rfS S 3) (by
              unfold a_behind
              all_goals (try unfold overY at *)
              all_goals (try unfold mayQ at *)
              all_goals (try simp only [Int.toNat_natCast] at *)
              all_goals ((repeat' split) <;> first | rfl | (exfalso; omega) | (congr 1; omega))) (hX2.rq rfl hN1 hf1) (fun b hb => ⟨(hlo2 b hb).1, by rw [hf1 b (Or.inl hb)]; exact (hlo2 b hb).2⟩)
      · refine J_aload_n hx dX7_behind_36 (i := 0) rfl rfl ?_
        refine J_bipush (v := -2) hx dX7_behind_37 (by decide) ?_
        refine J_invV (As := [vI ((-2))]) (st := []) hx lk_X7_99 okX7_refuse dX7_behind_39 hX.t.o (by decide) rfl rfl rfl (Nat.le_of_ble_eq_true rfl) (Nat.zero_add _).symm (Nat.zero_add _).symm rfl (c_X7_refuseS hT hN hW (k := 0) (by decide) ?_)
        intro M1 hN1 hf1
        refine J_iret hx hr dX7_behind_42 ?_
        exact hQ.to (v := -((0 + 2 : Nat) : Int)) (S := rfS S 0) (by
          unfold a_behind
          all_goals (try unfold overY at *)
          all_goals (try unfold mayQ at *)
          all_goals (try simp only [Int.toNat_natCast] at *)
          all_goals ((repeat' split) <;> first | rfl | (exfalso; omega) | (congr 1; omega))) (hX.rq rfl hN1 hf1) (fun b hb => ⟨rfl, hf1 b (Or.inl hb)⟩)

set_option maxHeartbeats 4000000 in
theorem c_X7_booked {g : WG} {d : Nat} {T : TT} {M : MM} {r sz : Nat} {S : ST} {Q : MVal → TT → MM → Nat → Prop} (hX : RX T M r sz S) (hW : WFS S) {s n : Int} (h_s : -2147483648 ≤ s ∧ s ≤ 2147483647) (h_n : -2147483648 ≤ n ∧ n ≤ 2147483647) (hQ : RQX r T M sz Q (a_booked S s n)) : Ct g (d + 6) mX7_booked [vR (r), vI (s), vI (n)] T M sz 29 777 Q := by
  refine Ct_of2 (ls := [vR (r), vI (s), vI (n), vU]) okX7_booked rfl (Nat.le_of_ble_eq_true rfl) rfl ?_
  intro x hx hr hnm
  have hT := hX.t
  have hN := hX.n
  have hn8 := hW.y.n8
  have ht2 := hW.y.tn2
  have hl8 := hW.y.len8 ht2
  refine J_aload_n hx dX7_booked_0 (i := 0) rfl rfl ?_
  refine J_iload_n hx dX7_booked_1 (i := 1) rfl rfl ?_
  refine J_iload_n hx dX7_booked_2 (i := 2) rfl rfl ?_
  refine J_invV (As := [vI (s), vI (n)]) (st := []) hx lk_X7_346 okX7_noBook dX7_booked_3 hT.o (by decide) rfl rfl rfl (Nat.le_of_ble_eq_true rfl) (Nat.zero_add _).symm (Nat.zero_add _).symm rfl (c_X7_noBook hT hN hW (s := s) (n := n) ?_ ?_ ?_ ?_)
  · intro hvf M1 hN1 hf1
    refine J_istore_n (lsn := [vR (r), vI (s), vI (n), vI ((-2))]) hx dX7_booked_6 (i := 3) rfl (Nat.le_of_ble_eq_true rfl) rfl rfl ?_
    refine J_iload_n hx dX7_booked_7 (i := 3) rfl rfl ?_
    refine J_if_eq (tgt := 13) hx dX7_booked_8 (by decide) (fun c9 => absurd c9 (by decide)) (fun _ => ?_)
    refine J_iload_n hx dX7_booked_11 (i := 3) rfl rfl ?_
    refine J_iret hx hr dX7_booked_12 ?_
    exact hQ.to (v := -((0 + 2 : Nat) : Int)) (S := rfS S 0) (by
      unfold a_booked
      all_goals (try unfold overY at *)
      all_goals (try unfold mayQ at *)
      all_goals (try simp only [Int.toNat_natCast] at *)
      all_goals ((repeat' split) <;> first | rfl | (exfalso; omega) | (congr 1; omega))) (hX.rq rfl hN1 hf1) (fun b hb => ⟨rfl, hf1 b (Or.inl hb)⟩)
  · intro hvf M1 hN1 hf1
    refine J_istore_n (lsn := [vR (r), vI (s), vI (n), vI ((-3))]) hx dX7_booked_6 (i := 3) rfl (Nat.le_of_ble_eq_true rfl) rfl rfl ?_
    refine J_iload_n hx dX7_booked_7 (i := 3) rfl rfl ?_
    refine J_if_eq (tgt := 13) hx dX7_booked_8 (by decide) (fun c9 => absurd c9 (by decide)) (fun _ => ?_)
    refine J_iload_n hx dX7_booked_11 (i := 3) rfl rfl ?_
    refine J_iret hx hr dX7_booked_12 ?_
    exact hQ.to (v := -((1 + 2 : Nat) : Int)) (S := rfS S 1) (by
      unfold a_booked
      all_goals (try unfold overY at *)
      all_goals (try unfold mayQ at *)
      all_goals (try simp only [Int.toNat_natCast] at *)
      all_goals ((repeat' split) <;> first | rfl | (exfalso; omega) | (congr 1; omega))) (hX.rq rfl hN1 hf1) (fun b hb => ⟨rfl, hf1 b (Or.inl hb)⟩)
  · intro hvf M1 hN1 hf1
    refine J_istore_n (lsn := [vR (r), vI (s), vI (n), vI ((-4))]) hx dX7_booked_6 (i := 3) rfl (Nat.le_of_ble_eq_true rfl) rfl rfl ?_
    refine J_iload_n hx dX7_booked_7 (i := 3) rfl rfl ?_
    refine J_if_eq (tgt := 13) hx dX7_booked_8 (by decide) (fun c9 => absurd c9 (by decide)) (fun _ => ?_)
    refine J_iload_n hx dX7_booked_11 (i := 3) rfl rfl ?_
    refine J_iret hx hr dX7_booked_12 ?_
    exact hQ.to (v := -((2 + 2 : Nat) : Int)) (S := rfS S 2) (by
      unfold a_booked
      all_goals (try unfold overY at *)
      all_goals (try unfold mayQ at *)
      all_goals (try simp only [Int.toNat_natCast] at *)
      all_goals ((repeat' split) <;> first | rfl | (exfalso; omega) | (congr 1; omega))) (hX.rq rfl hN1 hf1) (fun b hb => ⟨rfl, hf1 b (Or.inl hb)⟩)
  · intro hvf
    refine J_istore_n (lsn := [vR (r), vI (s), vI (n), vI (0)]) hx dX7_booked_6 (i := 3) rfl (Nat.le_of_ble_eq_true rfl) rfl rfl ?_
    refine J_iload_n hx dX7_booked_7 (i := 3) rfl rfl ?_
    refine J_if_eq (tgt := 13) hx dX7_booked_8 (by decide) (fun _ => ?_) (fun c9 => absurd c9 (by decide))
    obtain ⟨sN, rfl⟩ : ∃ z : Nat, s = ((z : Nat) : Int) := ⟨s.toNat, by omega⟩
    obtain ⟨nN, rfl⟩ : ∃ z : Nat, n = ((z : Nat) : Int) := ⟨n.toNat, by omega⟩
    simp only [Int.toNat_natCast] at hvf
    refine J_aload_n hx dX7_booked_13 (i := 0) rfl rfl ?_
    refine J_aload_n hx dX7_booked_14 (i := 0) rfl rfl ?_
    refine J_getR (b := r + 4) hx fl_X7_21 cl_X7 dX7_booked_15 hX.t.o (by decide) rfl hX.t.r3 ?_
    refine J_iload_n hx dX7_booked_18 (i := 1) rfl rfl ?_
    refine J_aald (b := r + 5 + sN) hx sN dX7_booked_19 hX.t.k4 (by decide) (by omega) (hX.t.l4 (by omega)) (hX.t.f4 (by omega)) ?_
    refine J_iload_n hx dX7_booked_20 (i := 2) rfl rfl ?_
    refine J_invV (As := [vR (r + 5 + sN), vI (((nN : Nat) : Int))]) (st := []) hx lk_X7_349 okX7_wrongIn dX7_booked_21 hX.t.o (by decide) rfl rfl rfl (Nat.le_of_ble_eq_true rfl) (Nat.add_zero _).symm (Nat.add_zero _).symm rfl (c_X7_wrongIn hX hW (s := sN) (n := nN) (by omega) (show rowH _ from by unfold rowH; omega) (by omega) ?_)
    intro T2 M2 sz2 t hX2 hTr hYz hlo2
    have hWz : WFY (bkZ (S.sh sN).2.2 nN 0 S.1).2 := bkZ_wf nN 0 hW.y
    refine J_iconst (v := -1) hx dX7_booked_24 (by decide) ?_
    refine J_icmp_eq (tgt := 35) hx dX7_booked_25 (by decide) (fun c5 => ?_) (fun c5 => ?_)
    · refine J_aload_n hx dX7_booked_35 (i := 0) rfl rfl ?_
      refine J_aload_n hx dX7_booked_36 (i := 0) rfl rfl ?_
      refine J_getR (b := t) hx fl_X7_299 cl_X7 dX7_booked_37 hX2.t.o (by decide) rfl hTr.1 ?_
      refine J_invVv (As := [vR (t)]) (st := []) hx lk_X7_257 okX7_takeFrom dX7_booked_40 hX2.t.o (by decide) rfl rfl rfl (Nat.le_of_ble_eq_true rfl) (Nat.zero_add _).symm (Nat.zero_add _).symm rfl (c_X7_takeFrom hX2.t hTr.2.1 hYz hWz (by have := hTr.2.2.1; omega) ?_)
      intro M4 hY4 hF4
      refine J_aload_n hx dX7_booked_43 (i := 0) rfl rfl ?_
      refine J_getI2 (v := (bkZ (S.sh sN).2.2 nN 0 S.1).2.sc 6) hx fl_X7_274 cl_X7 dX7_booked_44 hX2.t.o (by decide) rfl hY4.s6 ?_
      refine J_iret hx hr dX7_booked_47 ?_
      exact hQ.to (v := (bkZ (S.sh sN).2.2 nN 0 S.1).2.sc 6) (S := yS S (bkZ (S.sh sN).2.2 nN 0 S.1).2) (by
        unfold a_booked
        all_goals (try unfold overY at *)
        all_goals (try unfold mayQ at *)
        all_goals (try simp only [Int.toNat_natCast] at *)
        all_goals ((repeat' split) <;> first | rfl | (exfalso; omega) | (congr 1; omega))) (hX2.rq rfl (hX2.n.yard hY4 hF4) (fun b hb => hF4.out hb)) (fun b hb => ⟨(hlo2 b hb).1, by rw [hF4.out (Or.inl hb)]; exact (hlo2 b hb).2⟩)
    · refine J_aload_n hx dX7_booked_28 (i := 0) rfl rfl ?_
      refine J_bipush (v := -5) hx dX7_booked_29 (by decide) ?_
      refine J_invV (As := [vI ((-5))]) (st := []) hx lk_X7_99 okX7_refuse dX7_booked_31 hX2.t.o (by decide) rfl rfl rfl (Nat.le_of_ble_eq_true rfl) (Nat.zero_add _).symm (Nat.zero_add _).symm rfl (c_X7_refuseS hX2.t hX2.n hW (k := 3) (by decide) ?_)
      intro M1 hN1 hf1
      refine J_iret hx hr dX7_booked_34 ?_
      exact hQ.to (v := -((3 + 2 : Nat) : Int)) (S := rfS S 3) (by
        unfold a_booked
        all_goals (try unfold overY at *)
        all_goals (try unfold mayQ at *)
        all_goals (try simp only [Int.toNat_natCast] at *)
        all_goals ((repeat' split) <;> first | rfl | (exfalso; omega) | (congr 1; omega))) (hX2.rq rfl hN1 hf1) (fun b hb => ⟨(hlo2 b hb).1, by rw [hf1 b (Or.inl hb)]; exact (hlo2 b hb).2⟩)

