set_option maxHeartbeats 4000000 in
theorem lp2_X7_order {g : WG} {d : Nat} {T : TT} {M : MM} {r sz : Nat} {S : ST} {Q : MVal → TT → MM → Nat → Prop} (hT : MT T r) (hN : RN M r S) (hW : WFS S) {x : CX} (hx : OKx g x RX7 cX7_order (d + 3)) (hr : RTx g x (some .int) Q) {c s : Nat} (hc : c < 2) (hs8 : s < 8) (hrw : rowH (S.sh s).1) (hsz : ((S.1.ch c).length : Int) ≤ (S.sh s).2.1) (ho : ordP S.1 c (S.sh s).2.2 (S.1.ch c).length) (hQ : RQ r T M sz Q (a_order S ((c : Nat) : Int) ((s : Nat) : Int))) (k : Nat) (sn : Int) (u6 u7 : MVal) (M1 : MM) (hk : k ≤ (S.1.ch c).length) (hrow : ∀ j, j < k → M1 (r + 23 + c) j = (S.sh s).2.2 j) (ho1 : ∀ a, a ≠ r + 23 + c → M1 a = M a) : Jd g x 155 [vR (r), vI (((c : Nat) : Int)), vI (((s : Nat) : Int)), vI (0), vI (sn), vI (((k : Nat) : Int)), u6, u7] [] T M1 sz 0 0 := by
  have hl8 := hW.y.len8 hc
  have hn8 := hW.y.n8
  have hrw2 : 0 ≤ (S.sh s).1 ∧ (S.sh s).1 ≤ 4 := hrw
  refine J_iload hx dX7_order_155 rfl ?_
  refine J_aload_n hx dX7_order_157 (i := 0) rfl rfl ?_
  refine J_getR (b := r + 25) hx fl_X7_57 cl_X7 dX7_order_158 hT.o (by decide) rfl hT.r16 ?_
  refine J_iload_n hx dX7_order_161 (i := 1) rfl rfl ?_
  refine J_iald2 (v := (((S.1.ch c).length : Nat) : Int)) hx c dX7_order_162 hT.k25 (by omega) (hT.l25 (by omega)) (by rw [ho1 _ (by omega)]; exact hN.y.sz hc) ?_
  refine J_icmp_ge (tgt := 191) hx dX7_order_163 (by decide) (fun c1 => ?_) (fun c1 => ?_)
  · refine J_aload_n hx dX7_order_191 (i := 0) rfl rfl ?_
    refine J_getR (b := r + 25) hx fl_X7_57 cl_X7 dX7_order_192 hT.o (by decide) rfl hT.r16 ?_
    refine J_iload_n hx dX7_order_195 (i := 1) rfl rfl ?_
    refine J_iald2 (v := (((S.1.ch c).length : Nat) : Int)) hx c dX7_order_196 hT.k25 (by omega) (hT.l25 (by omega)) (by rw [ho1 _ (by omega)]; exact hN.y.sz hc) ?_
    refine J_iret hx hr dX7_order_197 ?_
    have hall : k = (S.1.ch c).length := by omega
    subst hall
    have hP := MN.setC hN.y (M' := M1) (c := c) (l := (oLst (S.sh s).2.2 (S.1.ch c).length)) hc (fun k9 h9 => ?_) ?_ ?_ (fun a9 h8 h9 => ho1 a9 (by omega))
    · exact hQ.to (v := (((S.1.ch c).length : Nat) : Int)) (S := yS S (S.1.setC c (oLst (S.sh s).2.2 (S.1.ch c).length))) (by
      unfold a_order
      (try simp only [Int.toNat_natCast] at *)
      ((repeat' split) <;> first | rfl | (exfalso; omega) | (exfalso; contradiction) | (congr 1; omega))) (hN.yard hP (fun a9 j9 h8 h9 => by rw [ho1 a9 (by omega)])) (fun b9 h9 => ho1 b9 (by omega))
    · rw [oLst_len] at h9
      rw [oLst_getD _ h9, hrow k9 h9]
      have h8 := ho.1 k9 h9
      omega
    · rw [ho1 _ (by omega), oLst_len]; exact hN.y.sz hc
    · rw [ho1 _ (by omega)]
  · refine J_aload_n hx dX7_order_166 (i := 0) rfl rfl ?_
    refine J_getR (b := r + 22) hx fl_X7_54 cl_X7 dX7_order_167 hT.o (by decide) rfl hT.r15 ?_
    refine J_iload_n hx dX7_order_170 (i := 1) rfl rfl ?_
    refine J_aald (b := r + 23 + c) hx c dX7_order_171 hT.k22 (by decide) (by omega) (hT.l22 (by omega)) (hT.f22 (by omega)) ?_
    refine J_iload hx dX7_order_172 rfl ?_
    refine J_aload_n hx dX7_order_174 (i := 0) rfl rfl ?_
    refine J_getR (b := r + 4) hx fl_X7_21 cl_X7 dX7_order_175 hT.o (by decide) rfl hT.r3 ?_
    refine J_iload_n hx dX7_order_178 (i := 2) rfl rfl ?_
    refine J_aald (b := r + 5 + s) hx s dX7_order_179 hT.k4 (by decide) (by omega) (hT.l4 (by omega)) (hT.f4 (by omega)) ?_
    refine J_iload hx dX7_order_180 rfl ?_
    refine J_lald2 (v := (S.sh s).2.2 k) hx k dX7_order_182 (hT.kr (by omega)) (by omega) (hT.lr (by omega) (by omega)) (by rw [ho1 _ (by omega)]; exact hN.se (by omega) hrw (by omega)) ?_
    refine J_l2i (v := (S.sh s).2.2 k) hx dX7_order_183 (by have h9 := ho.1 k (by omega); rw [w32_id (by omega) (by omega)]) ?_
    refine J_iast hx k dX7_order_184 (hT.kl (by omega)) (by omega) (hT.ll (by omega) (by omega)) ?_
    generalize eM2 : up2 M1 (r + 23 + c) k ((S.sh s).2.2 k) = M2
    have hM2a : M2 (r + 23 + c) k = (S.sh s).2.2 k := by rw [← eM2]; exact up2_at
    have hM2o : ∀ b9 j9, (b9 ≠ r + 23 + c ∨ j9 ≠ k) → M2 b9 j9 = M1 b9 j9 := fun b9 j9 h9 => by rw [← eM2]; exact up2_ne h9
    have hM2r : ∀ b9, b9 ≠ r + 23 + c → M2 b9 = M1 b9 := fun b9 h9 => by rw [← eM2]; exact up2_row h9
    refine J_iinc (v := ((k : Nat) : Int) + 1) (lsn := [vR (r), vI (((c : Nat) : Int)), vI (((s : Nat) : Int)), vI (0), vI (sn), vI (((k : Nat) : Int) + 1), u6, u7]) hx dX7_order_185 rfl (jinc1 (by omega) (by omega)) rfl rfl ?_
    refine J_goto (tgt := 155) hx dX7_order_188 (by decide) ?_
    exact lp2_X7_order hT hN hW hx hr hc hs8 hrw hsz ho hQ (k + 1) _ _ _ M2 (by omega) (fun j9 h9 => by
        by_cases e : j9 = k
        · subst e; exact hM2a
        · rw [hM2o _ _ (Or.inr e)]; exact hrow j9 (by omega)) (fun a9 h9 => by rw [hM2r _ h9]; exact ho1 a9 h9)
termination_by (S.1.ch c).length - k
decreasing_by all_goals omega

set_option maxHeartbeats 4000000 in
theorem lp_X7_order {g : WG} {d : Nat} {T : TT} {M : MM} {r sz : Nat} {S : ST} {Q : MVal → TT → MM → Nat → Prop} (hT : MT T r) (hN : RN M r S) (hW : WFS S) {x : CX} (hx : OKx g x RX7 cX7_order (d + 3)) (hr : RTx g x (some .int) Q) {c s : Nat} (hc : c < 2) (hs8 : s < 8) (hrw : rowH (S.sh s).1) (hsz : ((S.1.ch c).length : Int) ≤ (S.sh s).2.1) (hQ : RQ r T M sz Q (a_order S ((c : Nat) : Int) ((s : Nat) : Int))) (k : Nat) (sn : Int) (u6 u7 : MVal) (hk : k ≤ (S.1.ch c).length) (hs : seenP (S.sh s).2.2 sn k) (ho : ordP S.1 c (S.sh s).2.2 k) : Jd g x 69 [vR (r), vI (((c : Nat) : Int)), vI (((s : Nat) : Int)), vI (0), vI (sn), vI (((k : Nat) : Int)), u6, u7] [] T M sz 0 0 := by
  have hl8 := hW.y.len8 hc
  have hn8 := hW.y.n8
  have hrw2 : 0 ≤ (S.sh s).1 ∧ (S.sh s).1 ≤ 4 := hrw
  refine J_iload hx dX7_order_69 rfl ?_
  refine J_aload_n hx dX7_order_71 (i := 0) rfl rfl ?_
  refine J_getR (b := r + 25) hx fl_X7_57 cl_X7 dX7_order_72 hT.o (by decide) rfl hT.r16 ?_
  refine J_iload_n hx dX7_order_75 (i := 1) rfl rfl ?_
  refine J_iald2 (v := (((S.1.ch c).length : Nat) : Int)) hx c dX7_order_76 hT.k25 (by omega) (hT.l25 (by omega)) (hN.y.sz (by omega)) ?_
  have rg1 := hW.y.len8 (c := c) (by omega)
  have rg2 := hW.y.lenN (c := c) (by omega)
  refine J_icmp_ge (tgt := 152) hx dX7_order_77 (by decide) (fun c3 => ?_) (fun c3 => ?_)
  · refine J_iconst (v := 0) hx dX7_order_152 (by decide) ?_
    refine J_istore (lsn := [vR (r), vI (((c : Nat) : Int)), vI (((s : Nat) : Int)), vI (0), vI (sn), vI (0), u6, u7]) hx dX7_order_153 (Nat.le_of_ble_eq_true rfl) rfl rfl ?_
    have ek : k = (S.1.ch c).length := by omega
    subst ek
    exact lp2_X7_order hT hN hW hx hr hc hs8 hrw hsz ho hQ 0 _ _ _ M (by omega) (fun j h => absurd h (Nat.not_lt_zero j)) (fun _ _ => rfl)
  · refine J_aload_n hx dX7_order_80 (i := 0) rfl rfl ?_
    refine J_getR (b := r + 4) hx fl_X7_21 cl_X7 dX7_order_81 hT.o (by decide) rfl hT.r3 ?_
    refine J_iload_n hx dX7_order_84 (i := 2) rfl rfl ?_
    refine J_aald (b := r + 5 + s) hx s dX7_order_85 hT.k4 (by decide) (by omega) (hT.l4 (by omega)) (hT.f4 (by omega)) ?_
    refine J_iload hx dX7_order_86 rfl ?_
    refine J_lald2 (v := (S.sh s).2.2 k) hx k dX7_order_88 (hT.kr (by omega)) (by omega) (hT.lr (by omega) (by omega)) (by exact hN.se (by omega) hrw (by omega)) ?_
    refine J_lstore (lsn := [vR (r), vI (((c : Nat) : Int)), vI (((s : Nat) : Int)), vI (0), vI (sn), vI (((k : Nat) : Int)), vL ((S.sh s).2.2 k), vU]) hx dX7_order_89 (Nat.le_of_ble_eq_true rfl) rfl rfl ?_
    refine J_lload hx dX7_order_91 rfl ?_
    refine J_lconst (v := 0) hx dX7_order_93 (by decide) ?_
    refine J_aload_n hx dX7_order_94 (i := 0) rfl rfl ?_
    refine J_getI2 (v := ((S.1.n : Nat) : Int)) hx fl_X7_82 cl_X7 dX7_order_95 hT.o (by decide) rfl hN.y.pp ?_
    have rg4 := hW.y.n8
    refine J_iconst (v := 1) hx dX7_order_98 (by decide) ?_
    refine J_isub (v := ((S.1.n : Nat) : Int) - 1) hx dX7_order_99 (w32_id (by omega) (by omega)) ?_
    refine J_i2l hx dX7_order_100 ?_
    refine J_invS (As := [vL ((S.sh s).2.2 k), vL (0), vL (((S.1.n : Nat) : Int) - 1)]) (st := []) hx lk_X7_85 okX7_in dX7_order_101 rfl rfl (Nat.le_of_ble_eq_true rfl) (Nat.zero_add _).symm (Nat.zero_add _).symm rfl (c_X7_in (a := (S.sh s).2.2 k) (lo := 0) (hi := ((S.1.n : Nat) : Int) - 1) ?_)
    intro v5 hv5
    refine J_if_eq (tgt := 129) hx dX7_order_104 (by decide) (fun c6 => ?_) (fun c6 => ?_)
    · refine J_aload_n hx dX7_order_129 (i := 0) rfl rfl ?_
      refine J_bipush (v := -2) hx dX7_order_130 (by decide) ?_
      refine J_invV (As := [vI ((-2))]) (st := []) hx lk_X7_99 okX7_refuse dX7_order_132 hT.o (by decide) rfl rfl rfl (Nat.le_of_ble_eq_true rfl) (Nat.zero_add _).symm (Nat.zero_add _).symm rfl (c_X7_refuseS hT hN hW (k := 0) (by decide) ?_)
      intro M1 hN1 hf1
      refine J_iret hx hr dX7_order_135 ?_
      have hbad : ¬ ordP S.1 c (S.sh s).2.2 (S.1.ch c).length := fun h9 => by
        have h8 := h9.1 k (by omega)
        have h7 := h8.2.2
        first | omega | (exfalso; rw [show ((S.sh s).2.2 k).toNat = t by omega] at h7; omega)
      exact hQ.to (v := -((0 + 2 : Nat) : Int)) (S := rfS S 0) (by
        unfold a_order
        (try simp only [Int.toNat_natCast] at *)
        ((repeat' split) <;> first | rfl | (exfalso; omega) | (exfalso; contradiction) | (congr 1; omega))) hN1 hf1
    · obtain ⟨t, et⟩ : ∃ t : Nat, (S.sh s).2.2 k = ((t : Nat) : Int) := ⟨((S.sh s).2.2 k).toNat, by omega⟩
      refine J_aload_n hx dX7_order_107 (i := 0) rfl rfl ?_
      refine J_lload hx dX7_order_108 rfl ?_
      refine J_l2i (v := ((t : Nat) : Int)) hx dX7_order_110 (by rw [w32_id (by omega) (by omega)]; exact et) ?_
      refine J_invV (As := [vI (((t : Nat) : Int))]) (st := []) hx lk_X7_119 okX7_chainAt dX7_order_111 hT.o (by decide) rfl rfl rfl (Nat.le_of_ble_eq_true rfl) (Nat.zero_add _).symm (Nat.zero_add _).symm rfl (c_X7_chainAt hT hN.y hW.y (p := t) (by omega) ?_)
      have rg7 := S.1.co2 t
      refine J_iload_n hx dX7_order_114 (i := 1) rfl rfl ?_
      refine J_icmp_ne (tgt := 129) hx dX7_order_115 (by decide) (fun c8 => ?_) (fun c8 => ?_)
      · refine J_aload_n hx dX7_order_129 (i := 0) rfl rfl ?_
        refine J_bipush (v := -2) hx dX7_order_130 (by decide) ?_
        refine J_invV (As := [vI ((-2))]) (st := []) hx lk_X7_99 okX7_refuse dX7_order_132 hT.o (by decide) rfl rfl rfl (Nat.le_of_ble_eq_true rfl) (Nat.zero_add _).symm (Nat.zero_add _).symm rfl (c_X7_refuseS hT hN hW (k := 0) (by decide) ?_)
        intro M1 hN1 hf1
        refine J_iret hx hr dX7_order_135 ?_
        have hbad : ¬ ordP S.1 c (S.sh s).2.2 (S.1.ch c).length := fun h9 => by
          have h8 := h9.1 k (by omega)
          have h7 := h8.2.2
          first | omega | (exfalso; rw [show ((S.sh s).2.2 k).toNat = t by omega] at h7; omega)
        exact hQ.to (v := -((0 + 2 : Nat) : Int)) (S := rfS S 0) (by
          unfold a_order
          (try simp only [Int.toNat_natCast] at *)
          ((repeat' split) <;> first | rfl | (exfalso; omega) | (exfalso; contradiction) | (congr 1; omega))) hN1 hf1
      · refine J_iload hx dX7_order_118 rfl ?_
        refine J_lload hx dX7_order_120 rfl ?_
        refine J_l2i (v := ((t : Nat) : Int)) hx dX7_order_122 (by rw [w32_id (by omega) (by omega)]; exact et) ?_
        refine J_ishr (v := jshr sn ((t : Nat) : Int)) hx dX7_order_123 rfl ?_
        refine J_iconst (v := 1) hx dX7_order_124 (by decide) ?_
        refine J_iand (v := jand (jshr sn ((t : Nat) : Int)) 1) hx dX7_order_125 rfl ?_
        refine J_if_eq (tgt := 136) hx dX7_order_126 (by decide) (fun c9 => ?_) (fun c9 => ?_)
        · have hz : jand (jshr sn ((t : Nat) : Int)) 1 = 0 := by assumption
          refine J_iload hx dX7_order_136 rfl ?_
          refine J_iconst (v := 1) hx dX7_order_138 (by decide) ?_
          refine J_lload hx dX7_order_139 rfl ?_
          refine J_l2i (v := ((t : Nat) : Int)) hx dX7_order_141 (by rw [w32_id (by omega) (by omega)]; exact et) ?_
          refine J_ishl (v := jshl 1 ((t : Nat) : Int)) hx dX7_order_142 rfl ?_
          refine J_ior (v := jor sn (jshl 1 ((t : Nat) : Int))) hx dX7_order_143 rfl ?_
          refine J_istore (lsn := [vR (r), vI (((c : Nat) : Int)), vI (((s : Nat) : Int)), vI (0), vI (jor sn (jshl 1 ((t : Nat) : Int))), vI (((k : Nat) : Int)), vL ((S.sh s).2.2 k), vU]) hx dX7_order_144 (Nat.le_of_ble_eq_true rfl) rfl rfl ?_
          refine J_iinc (v := ((k : Nat) : Int) + 1) (lsn := [vR (r), vI (((c : Nat) : Int)), vI (((s : Nat) : Int)), vI (0), vI (jor sn (jshl 1 ((t : Nat) : Int))), vI (((k : Nat) : Int) + 1), vL ((S.sh s).2.2 k), vU]) hx dX7_order_146 rfl (jinc1 (by omega) (by omega)) rfl rfl ?_
          refine J_goto (tgt := 69) hx dX7_order_149 (by decide) ?_
          exact lp_X7_order hT hN hW hx hr hc hs8 hrw hsz hQ (k + 1) _ _ _ (by omega) (seenP_s hs (by omega) et) (ordP_s ho ⟨by omega, by omega, by rw [show ((S.sh s).2.2 k).toNat = t by omega]; omega⟩ (fun j9 h9 h8 => absurd hz ((hs.2 t (by omega)).mpr ⟨j9, h9, by omega⟩)))
        · refine J_aload_n hx dX7_order_129 (i := 0) rfl rfl ?_
          refine J_bipush (v := -2) hx dX7_order_130 (by decide) ?_
          refine J_invV (As := [vI ((-2))]) (st := []) hx lk_X7_99 okX7_refuse dX7_order_132 hT.o (by decide) rfl rfl rfl (Nat.le_of_ble_eq_true rfl) (Nat.zero_add _).symm (Nat.zero_add _).symm rfl (c_X7_refuseS hT hN hW (k := 0) (by decide) ?_)
          intro M1 hN1 hf1
          refine J_iret hx hr dX7_order_135 ?_
          have hbad : ¬ ordP S.1 c (S.sh s).2.2 (S.1.ch c).length := fun h9 => by
            obtain ⟨j9, h8, h7⟩ := (hs.2 t (by omega)).mp (show bt sn ((t : Nat) : Int) by unfold bt; assumption)
            exact h9.2 j9 k h8 (by omega) (by omega)
          exact hQ.to (v := -((0 + 2 : Nat) : Int)) (S := rfS S 0) (by
            unfold a_order
            (try simp only [Int.toNat_natCast] at *)
            ((repeat' split) <;> first | rfl | (exfalso; omega) | (exfalso; contradiction) | (congr 1; omega))) hN1 hf1
termination_by (S.1.ch c).length - k
decreasing_by all_goals omega

set_option maxHeartbeats 4000000 in
theorem c_X7_order {g : WG} {d : Nat} {T : TT} {M : MM} {r sz : Nat} {S : ST} {Q : MVal → TT → MM → Nat → Prop} (hT : MT T r) (hN : RN M r S) (hW : WFS S) {c s : Int} (h_c : -2147483648 ≤ c ∧ c ≤ 2147483647) (h_s : -2147483648 ≤ s ∧ s ≤ 2147483647) (hQ : RQ r T M sz Q (a_order S c s)) : Ct g (d + 3) mX7_order [vR (r), vI (c), vI (s)] T M sz 0 0 Q := by
  refine Ct_of2 (ls := [vR (r), vI (c), vI (s), vU, vU, vU, vU, vU]) okX7_order rfl (Nat.le_of_ble_eq_true rfl) rfl ?_
  intro x hx hr hnm
  refine J_iload_n hx dX7_order_0 (i := 2) rfl rfl ?_
  refine J_i2l hx dX7_order_1 ?_
  refine J_lconst (v := 0) hx dX7_order_2 (by decide) ?_
  refine J_ldc2 (v := 7) hx ct_X7_93 dX7_order_3 (by decide) ?_
  refine J_invS (As := [vL (s), vL (0), vL (7)]) (st := []) hx lk_X7_85 okX7_in dX7_order_6 rfl rfl (Nat.le_of_ble_eq_true rfl) (Nat.zero_add _).symm (Nat.zero_add _).symm rfl (c_X7_in (a := s) (lo := 0) (hi := 7) ?_)
  intro v1 hv1
  refine J_if_eq (tgt := 22) hx dX7_order_9 (by decide) (fun c2 => ?_) (fun c2 => ?_)
  · refine J_aload_n hx dX7_order_22 (i := 0) rfl rfl ?_
    refine J_bipush (v := -2) hx dX7_order_23 (by decide) ?_
    refine J_invV (As := [vI ((-2))]) (st := []) hx lk_X7_99 okX7_refuse dX7_order_25 hT.o (by decide) rfl rfl rfl (Nat.le_of_ble_eq_true rfl) (Nat.zero_add _).symm (Nat.zero_add _).symm rfl (c_X7_refuseS hT hN hW (k := 0) (by decide) ?_)
    intro M1 hN1 hf1
    refine J_iret hx hr dX7_order_28 ?_
    exact hQ.to (v := -((0 + 2 : Nat) : Int)) (S := rfS S 0) (by
      unfold a_order
      (try simp only [Int.toNat_natCast] at *)
      ((repeat' split) <;> first | rfl | (exfalso; omega) | (exfalso; contradiction) | (congr 1; omega))) hN1 hf1
  · refine J_iload_n hx dX7_order_12 (i := 1) rfl rfl ?_
    refine J_i2l hx dX7_order_13 ?_
    refine J_lconst (v := 0) hx dX7_order_14 (by decide) ?_
    refine J_lconst (v := 1) hx dX7_order_15 (by decide) ?_
    refine J_invS (As := [vL (c), vL (0), vL (1)]) (st := []) hx lk_X7_85 okX7_in dX7_order_16 rfl rfl (Nat.le_of_ble_eq_true rfl) (Nat.zero_add _).symm (Nat.zero_add _).symm rfl (c_X7_in (a := c) (lo := 0) (hi := 1) ?_)
    intro v3 hv3
    refine J_if_ne (tgt := 29) hx dX7_order_19 (by decide) (fun c4 => ?_) (fun c4 => ?_)
    · obtain ⟨cN, rfl⟩ : ∃ z : Nat, c = ((z : Nat) : Int) := ⟨c.toNat, by omega⟩
      refine J_aload_n hx dX7_order_29 (i := 0) rfl rfl ?_
      refine J_iload_n hx dX7_order_30 (i := 2) rfl rfl ?_
      refine J_invV (As := [vI (s)]) (st := []) hx lk_X7_102 okX7_noRow dX7_order_31 hT.o (by decide) rfl rfl rfl (Nat.le_of_ble_eq_true rfl) (Nat.zero_add _).symm (Nat.zero_add _).symm rfl (c_X7_noRow hT hN hW (s := s) ?_ ?_ ?_ ?_)
      · intro hvf M1 hN1 hf1
        refine J_istore_n (lsn := [vR (r), vI (((cN : Nat) : Int)), vI (s), vI ((-2)), vU, vU, vU, vU]) hx dX7_order_34 (i := 3) rfl (Nat.le_of_ble_eq_true rfl) rfl rfl ?_
        refine J_iload_n hx dX7_order_35 (i := 3) rfl rfl ?_
        refine J_if_eq (tgt := 41) hx dX7_order_36 (by decide) (fun c9 => absurd c9 (by decide)) (fun _ => ?_)
        refine J_iload_n hx dX7_order_39 (i := 3) rfl rfl ?_
        refine J_iret hx hr dX7_order_40 ?_
        exact hQ.to (v := -((0 + 2 : Nat) : Int)) (S := rfS S 0) (by
          unfold a_order
          (try simp only [Int.toNat_natCast] at *)
          ((repeat' split) <;> first | rfl | (exfalso; omega) | (exfalso; contradiction) | (congr 1; omega))) hN1 hf1
      · intro hvf M1 hN1 hf1
        refine J_istore_n (lsn := [vR (r), vI (((cN : Nat) : Int)), vI (s), vI ((-3)), vU, vU, vU, vU]) hx dX7_order_34 (i := 3) rfl (Nat.le_of_ble_eq_true rfl) rfl rfl ?_
        refine J_iload_n hx dX7_order_35 (i := 3) rfl rfl ?_
        refine J_if_eq (tgt := 41) hx dX7_order_36 (by decide) (fun c9 => absurd c9 (by decide)) (fun _ => ?_)
        refine J_iload_n hx dX7_order_39 (i := 3) rfl rfl ?_
        refine J_iret hx hr dX7_order_40 ?_
        exact hQ.to (v := -((1 + 2 : Nat) : Int)) (S := rfS S 1) (by
          unfold a_order
          (try simp only [Int.toNat_natCast] at *)
          ((repeat' split) <;> first | rfl | (exfalso; omega) | (exfalso; contradiction) | (congr 1; omega))) hN1 hf1
      · intro hvf M1 hN1 hf1
        refine J_istore_n (lsn := [vR (r), vI (((cN : Nat) : Int)), vI (s), vI ((-4)), vU, vU, vU, vU]) hx dX7_order_34 (i := 3) rfl (Nat.le_of_ble_eq_true rfl) rfl rfl ?_
        refine J_iload_n hx dX7_order_35 (i := 3) rfl rfl ?_
        refine J_if_eq (tgt := 41) hx dX7_order_36 (by decide) (fun c9 => absurd c9 (by decide)) (fun _ => ?_)
        refine J_iload_n hx dX7_order_39 (i := 3) rfl rfl ?_
        refine J_iret hx hr dX7_order_40 ?_
        exact hQ.to (v := -((2 + 2 : Nat) : Int)) (S := rfS S 2) (by
          unfold a_order
          (try simp only [Int.toNat_natCast] at *)
          ((repeat' split) <;> first | rfl | (exfalso; omega) | (exfalso; contradiction) | (congr 1; omega))) hN1 hf1
      · intro hvf
        refine J_istore_n (lsn := [vR (r), vI (((cN : Nat) : Int)), vI (s), vI (0), vU, vU, vU, vU]) hx dX7_order_34 (i := 3) rfl (Nat.le_of_ble_eq_true rfl) rfl rfl ?_
        refine J_iload_n hx dX7_order_35 (i := 3) rfl rfl ?_
        refine J_if_eq (tgt := 41) hx dX7_order_36 (by decide) (fun _ => ?_) (fun c9 => absurd c9 (by decide))
        obtain ⟨sN, rfl⟩ : ∃ z : Nat, s = ((z : Nat) : Int) := ⟨s.toNat, by omega⟩
        simp only [Int.toNat_natCast] at hvf
        have hl8 := hW.y.len8 (c := cN) (by omega)
        refine J_aload_n hx dX7_order_41 (i := 0) rfl rfl ?_
        refine J_getR (b := r + 3) hx fl_X7_16 cl_X7 dX7_order_42 hT.o (by decide) rfl hT.r2 ?_
        refine J_iload_n hx dX7_order_45 (i := 2) rfl rfl ?_
        refine J_iald2 (v := (S.sh sN).2.1) hx sN dX7_order_46 hT.k3 (by omega) (hT.l3 (by omega)) (hN.sz (by omega) (show rowH _ from by unfold rowH; omega)) ?_
        have rg9 := hW.z (s := sN) (by omega)
        refine J_aload_n hx dX7_order_47 (i := 0) rfl rfl ?_
        refine J_getR (b := r + 25) hx fl_X7_57 cl_X7 dX7_order_48 hT.o (by decide) rfl hT.r16 ?_
        refine J_iload_n hx dX7_order_51 (i := 1) rfl rfl ?_
        refine J_iald2 (v := (((S.1.ch cN).length : Nat) : Int)) hx cN dX7_order_52 hT.k25 (by omega) (hT.l25 (by omega)) (hN.y.sz (by omega)) ?_
        have rg10 := hW.y.len8 (c := cN) (by omega)
        have rg11 := hW.y.lenN (c := cN) (by omega)
        refine J_icmp_ge (tgt := 63) hx dX7_order_53 (by decide) (fun c12 => ?_) (fun c12 => ?_)
        · refine J_iconst (v := 0) hx dX7_order_63 (by decide) ?_
          refine J_istore (lsn := [vR (r), vI (((cN : Nat) : Int)), vI (((sN : Nat) : Int)), vI (0), vI (0), vU, vU, vU]) hx dX7_order_64 (Nat.le_of_ble_eq_true rfl) rfl rfl ?_
          refine J_iconst (v := 0) hx dX7_order_66 (by decide) ?_
          refine J_istore (lsn := [vR (r), vI (((cN : Nat) : Int)), vI (((sN : Nat) : Int)), vI (0), vI (0), vI (0), vU, vU]) hx dX7_order_67 (Nat.le_of_ble_eq_true rfl) rfl rfl ?_
          exact lp_X7_order hT hN hW hx hr (by omega) (by omega) (show rowH _ from by unfold rowH; omega) (by omega) hQ 0 _ _ _ (by omega) (seenP_0 _) (ordP_0 _ _ _)
        · refine J_aload_n hx dX7_order_56 (i := 0) rfl rfl ?_
          refine J_bipush (v := -2) hx dX7_order_57 (by decide) ?_
          refine J_invV (As := [vI ((-2))]) (st := []) hx lk_X7_99 okX7_refuse dX7_order_59 hT.o (by decide) rfl rfl rfl (Nat.le_of_ble_eq_true rfl) (Nat.zero_add _).symm (Nat.zero_add _).symm rfl (c_X7_refuseS hT hN hW (k := 0) (by decide) ?_)
          intro M1 hN1 hf1
          refine J_iret hx hr dX7_order_62 ?_
          exact hQ.to (v := -((0 + 2 : Nat) : Int)) (S := rfS S 0) (by
            unfold a_order
            (try simp only [Int.toNat_natCast] at *)
            ((repeat' split) <;> first | rfl | (exfalso; omega) | (exfalso; contradiction) | (congr 1; omega))) hN1 hf1
    · refine J_aload_n hx dX7_order_22 (i := 0) rfl rfl ?_
      refine J_bipush (v := -2) hx dX7_order_23 (by decide) ?_
      refine J_invV (As := [vI ((-2))]) (st := []) hx lk_X7_99 okX7_refuse dX7_order_25 hT.o (by decide) rfl rfl rfl (Nat.le_of_ble_eq_true rfl) (Nat.zero_add _).symm (Nat.zero_add _).symm rfl (c_X7_refuseS hT hN hW (k := 0) (by decide) ?_)
      intro M1 hN1 hf1
      refine J_iret hx hr dX7_order_28 ?_
      exact hQ.to (v := -((0 + 2 : Nat) : Int)) (S := rfS S 0) (by
        unfold a_order
        (try simp only [Int.toNat_natCast] at *)
        ((repeat' split) <;> first | rfl | (exfalso; omega) | (exfalso; contradiction) | (congr 1; omega))) hN1 hf1

