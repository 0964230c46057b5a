set_option maxHeartbeats 4000000 in
theorem lp2_X7_copy {g : WG} {d : Nat} {T : TT} {M : MM} {r sz : Nat} {S : ST} {Q : MVal → TT → MM → Nat → Prop} (hT : MT T r) (hN : RN M r S) (hW : WFS S) {x : CX} (hx : OKx g x RX7 cX7_copy (d + 3)) (hr : RTx g x (some .int) Q) {p q i j n : Nat} (hp : p < 8) (hq : q < 8) (hrp : rowH (S.sh p).1) (hrq : rowH (S.sh q).1) (hi : ((i + n : Nat) : Int) ≤ (S.sh p).2.1) (hj : ((j + n : Nat) : Int) ≤ (S.sh q).2.1) (hQ : ∀ M', RN M' r (shS S q ((S.sh q).1, (S.sh q).2.1, fun t => if j ≤ t ∧ t < j + n then (S.sh p).2.2 (i + (t - j)) else (S.sh q).2.2 t)) → (∀ b, (b < r ∨ r + 29 ≤ b) → M' b = M b) → Q (vI ((n : Nat) : Int)) T M' sz) (hmv : ∀ t, t < n → M (r + 13) t = (S.sh p).2.2 (i + t)) (k : Nat) (M1 : MM) (hk : k ≤ n) (hrow : ∀ t, M1 (r + 5 + q) t = if j ≤ t ∧ t < j + k then (S.sh p).2.2 (i + (t - j)) else M (r + 5 + q) t) (ho1 : ∀ a, a ≠ r + 5 + q → M1 a = M a) : Jd g x 225 [vR (r), vI (((p : Nat) : Int)), vI (((q : Nat) : Int)), vI (((i : Nat) : Int)), vI (((j : Nat) : Int)), vI (((n : Nat) : Int)), vI (((k : Nat) : Int))] [] T M1 sz 0 0 := by
  have hzp := hW.z hp
  have hzq := hW.z hq
  refine J_iload hx dX7_copy_225 rfl ?_
  refine J_iload hx dX7_copy_227 rfl ?_
  refine J_icmp_ge (tgt := 257) hx dX7_copy_229 (by decide) (fun c1 => ?_) (fun c1 => ?_)
  · refine J_iload hx dX7_copy_257 rfl ?_
    refine J_iret hx hr dX7_copy_259 ?_
    have ek : k = n := by omega
    subst ek
    have hN2 : RN M1 r (shS S q ((S.sh q).1, (S.sh q).2.1, fun t => if j ≤ t ∧ t < j + k then (S.sh p).2.2 (i + (t - j)) else (S.sh q).2.2 t)) := hN.shelf hq (by rw [ho1 _ (by omega)]; exact hN.sc hq) (fun _ => ⟨by rw [ho1 _ (by omega)]; exact hN.so hq hrq, by rw [ho1 _ (by omega)]; exact hN.sz hq hrq, fun t9 h9 => by
        dsimp only
        rw [hrow t9]
        by_cases e : j ≤ t9 ∧ t9 < j + k
        · rw [if_pos e, if_pos e]
        · rw [if_neg e, if_neg e]; exact hN.se hq hrq h9⟩) (fun h9 => absurd h9 (by unfold rowH at hrq; dsimp only; omega)) (fun a9 j9 h8 h9 => by rw [ho1 a9 h9])
    exact hQ M1 hN2 (fun b9 h9 => ho1 b9 (by omega))
  · refine J_aload_n hx dX7_copy_232 (i := 0) rfl rfl ?_
    refine J_getR (b := r + 4) hx fl_X7_21 cl_X7 dX7_copy_233 hT.o (by decide) rfl hT.r3 ?_
    refine J_iload_n hx dX7_copy_236 (i := 2) rfl rfl ?_
    refine J_aald (b := r + 5 + q) hx q dX7_copy_237 hT.k4 (by decide) (by omega) (hT.l4 (by omega)) (hT.f4 (by omega)) ?_
    refine J_iload hx dX7_copy_238 rfl ?_
    refine J_iload hx dX7_copy_240 rfl ?_
    refine J_iadd (v := ((j + k : Nat) : Int)) hx dX7_copy_242 (by rw [w32_id (by omega) (by omega)]; omega) ?_
    refine J_aload_n hx dX7_copy_243 (i := 0) rfl rfl ?_
    refine J_getR (b := r + 13) hx fl_X7_24 cl_X7 dX7_copy_244 hT.o (by decide) rfl hT.r4 ?_
    refine J_iload hx dX7_copy_247 rfl ?_
    refine J_lald2 (v := (S.sh p).2.2 (i + k)) hx k dX7_copy_249 hT.k13 (by omega) (hT.l13 (by omega)) (by rw [ho1 _ (by omega), hmv k (by omega)]) ?_
    refine J_last hx (j + k) dX7_copy_250 (hT.kr (by omega)) (by omega) (hT.lr (by omega) (by omega)) ?_
    generalize eM2 : up2 M1 (r + 5 + q) (j + k) ((S.sh p).2.2 (i + k)) = M2
    have hM2a : M2 (r + 5 + q) (j + k) = (S.sh p).2.2 (i + k) := by rw [← eM2]; exact up2_at
    have hM2o : ∀ b9 j9, (b9 ≠ r + 5 + q ∨ j9 ≠ j + k) → M2 b9 j9 = M1 b9 j9 := fun b9 j9 h9 => by rw [← eM2]; exact up2_ne h9
    have hM2r : ∀ b9, b9 ≠ r + 5 + q → M2 b9 = M1 b9 := fun b9 h9 => by rw [← eM2]; exact up2_row h9
    refine J_iinc (v := ((k : Nat) : Int) + 1) (lsn := [vR (r), vI (((p : Nat) : Int)), vI (((q : Nat) : Int)), vI (((i : Nat) : Int)), vI (((j : Nat) : Int)), vI (((n : Nat) : Int)), vI (((k : Nat) : Int) + 1)]) hx dX7_copy_251 rfl (jinc1 (by omega) (by omega)) rfl rfl ?_
    refine J_goto (tgt := 225) hx dX7_copy_254 (by decide) ?_
    exact lp2_X7_copy hT hN hW hx hr hp hq hrp hrq hi hj hQ hmv (k + 1) M2 (by omega) (fun t9 => by
        by_cases e : t9 = j + k
        · subst e; rw [if_pos (by omega), hM2a, show j + k - j = k by omega]
        · rw [hM2o _ _ (Or.inr e), hrow t9]
          by_cases e2 : j ≤ t9 ∧ t9 < j + k
          · rw [if_pos e2, if_pos (by omega)]
          · rw [if_neg e2, if_neg (by omega)]) (fun a9 h9 => by rw [hM2r _ h9]; exact ho1 a9 h9)
termination_by n - k
decreasing_by all_goals omega

set_option maxHeartbeats 4000000 in
theorem lp_X7_copy {g : WG} {d : Nat} {T : TT} {M : MM} {r sz : Nat} {S : ST} {Q : MVal → TT → MM → Nat → Prop} (hT : MT T r) (hN : RN M r S) (hW : WFS S) {x : CX} (hx : OKx g x RX7 cX7_copy (d + 3)) (hr : RTx g x (some .int) Q) {p q i j n : Nat} (hp : p < 8) (hq : q < 8) (hrp : rowH (S.sh p).1) (hrq : rowH (S.sh q).1) (hi : ((i + n : Nat) : Int) ≤ (S.sh p).2.1) (hj : ((j + n : Nat) : Int) ≤ (S.sh q).2.1) (hK : ∀ (M9 : MM) (u : MVal), (∀ t, t < n → M9 (r + 13) t = (S.sh p).2.2 (i + t)) → (∀ a, a ≠ r + 13 → M9 a = M a) → Jd g x 222 [vR r, vI ((p : Nat) : Int), vI ((q : Nat) : Int), vI ((i : Nat) : Int), vI ((j : Nat) : Int), vI ((n : Nat) : Int), u] [] T M9 sz 0 0) (k : Nat) (M1 : MM) (hk : k ≤ n) (hm1 : ∀ t, t < k → M1 (r + 13) t = (S.sh p).2.2 (i + t)) (ho1 : ∀ a, a ≠ r + 13 → M1 a = M a) : Jd g x 191 [vR (r), vI (((p : Nat) : Int)), vI (((q : Nat) : Int)), vI (((i : Nat) : Int)), vI (((j : Nat) : Int)), vI (((n : Nat) : Int)), vI (((k : Nat) : Int))] [] T M1 sz 0 0 := by
  have hzp := hW.z hp
  have hzq := hW.z hq
  refine J_iload hx dX7_copy_191 rfl ?_
  refine J_iload hx dX7_copy_193 rfl ?_
  refine J_icmp_ge (tgt := 222) hx dX7_copy_195 (by decide) (fun c1 => ?_) (fun c1 => ?_)
  · have ek : k = n := by omega
    subst ek
    exact hK M1 _ hm1 ho1
  · refine J_aload_n hx dX7_copy_198 (i := 0) rfl rfl ?_
    refine J_getR (b := r + 13) hx fl_X7_24 cl_X7 dX7_copy_199 hT.o (by decide) rfl hT.r4 ?_
    refine J_iload hx dX7_copy_202 rfl ?_
    refine J_aload_n hx dX7_copy_204 (i := 0) rfl rfl ?_
    refine J_getR (b := r + 4) hx fl_X7_21 cl_X7 dX7_copy_205 hT.o (by decide) rfl hT.r3 ?_
    refine J_iload_n hx dX7_copy_208 (i := 1) rfl rfl ?_
    refine J_aald (b := r + 5 + p) hx p dX7_copy_209 hT.k4 (by decide) (by omega) (hT.l4 (by omega)) (hT.f4 (by omega)) ?_
    refine J_iload_n hx dX7_copy_210 (i := 3) rfl rfl ?_
    refine J_iload hx dX7_copy_211 rfl ?_
    refine J_iadd (v := ((i + k : Nat) : Int)) hx dX7_copy_213 (by rw [w32_id (by omega) (by omega)]; omega) ?_
    refine J_lald2 (v := (S.sh p).2.2 (i + k)) hx (i + k) dX7_copy_214 (hT.kr (by omega)) (by omega) (hT.lr (by omega) (by omega)) (by rw [ho1 _ (by omega)]; exact hN.se hp hrp (by omega)) ?_
    refine J_last hx k dX7_copy_215 hT.k13 (by omega) (hT.l13 (by omega)) ?_
    generalize eM2 : up2 M1 (r + 13) k ((S.sh p).2.2 (i + k)) = M2
    have hM2a : M2 (r + 13) k = (S.sh p).2.2 (i + k) := by rw [← eM2]; exact up2_at
    have hM2o : ∀ b9 j9, (b9 ≠ r + 13 ∨ j9 ≠ k) → M2 b9 j9 = M1 b9 j9 := fun b9 j9 h9 => by rw [← eM2]; exact up2_ne h9
    have hM2r : ∀ b9, b9 ≠ r + 13 → M2 b9 = M1 b9 := fun b9 h9 => by rw [← eM2]; exact up2_row h9
    refine J_iinc (v := ((k : Nat) : Int) + 1) (lsn := [vR (r), vI (((p : Nat) : Int)), vI (((q : Nat) : Int)), vI (((i : Nat) : Int)), vI (((j : Nat) : Int)), vI (((n : Nat) : Int)), vI (((k : Nat) : Int) + 1)]) hx dX7_copy_216 rfl (jinc1 (by omega) (by omega)) rfl rfl ?_
    refine J_goto (tgt := 191) hx dX7_copy_219 (by decide) ?_
    exact lp_X7_copy hT hN hW hx hr hp hq hrp hrq hi hj hK (k + 1) M2 (by omega) (fun t9 h9 => by
        by_cases e : t9 = k
        · subst e; exact hM2a
        · rw [hM2o _ _ (Or.inr e)]; exact hm1 t9 (by omega)) (fun a9 h9 => by rw [hM2r _ h9]; exact ho1 a9 h9)
termination_by n - k
decreasing_by all_goals omega

set_option maxHeartbeats 4000000 in
theorem c_X7_copy {g : WG} {d : Nat} {T : TT} {M : MM} {r sz : Nat} {S : ST} {Q : MVal → TT → MM → Nat → Prop} (hT : MT T r) (hN : RN M r S) (hW : WFS S) {p q i j n : Int} (h_p : -2147483648 ≤ p ∧ p ≤ 2147483647) (h_q : -2147483648 ≤ q ∧ q ≤ 2147483647) (h_i : -2147483648 ≤ i ∧ i ≤ 2147483647) (h_j : -2147483648 ≤ j ∧ j ≤ 2147483647) (h_n : -2147483648 ≤ n ∧ n ≤ 2147483647) (hQ : RQ r T M sz Q (a_copy S p q i j n)) : Ct g (d + 3) mX7_copy [vR (r), vI (p), vI (q), vI (i), vI (j), vI (n)] T M sz 0 0 Q := by
  refine Ct_of2 (ls := [vR (r), vI (p), vI (q), vI (i), vI (j), vI (n), vU]) okX7_copy rfl (Nat.le_of_ble_eq_true rfl) rfl ?_
  intro x hx hr hnm
  refine J_iload_n hx dX7_copy_0 (i := 1) rfl rfl ?_
  refine J_i2l hx dX7_copy_1 ?_
  refine J_lconst (v := 0) hx dX7_copy_2 (by decide) ?_
  refine J_ldc2 (v := 7) hx ct_X7_93 dX7_copy_3 (by decide) ?_
  refine J_invS (As := [vL (p), vL (0), vL (7)]) (st := []) hx lk_X7_85 okX7_in dX7_copy_6 rfl rfl (Nat.le_of_ble_eq_true rfl) (Nat.zero_add _).symm (Nat.zero_add _).symm rfl (c_X7_in (a := p) (lo := 0) (hi := 7) ?_)
  intro v1 hv1
  refine J_if_eq (tgt := 24) hx dX7_copy_9 (by decide) (fun c2 => ?_) (fun c2 => ?_)
  · refine J_aload_n hx dX7_copy_24 (i := 0) rfl rfl ?_
    refine J_bipush (v := -2) hx dX7_copy_25 (by decide) ?_
    refine J_invV (As := [vI ((-2))]) (st := []) hx lk_X7_99 okX7_refuse dX7_copy_27 hT.o (by decide) rfl rfl rfl (Nat.le_of_ble_eq_true rfl) (Nat.zero_add _).symm (Nat.zero_add _).symm rfl (c_X7_refuseS hT hN hW (k := 0) (by decide) ?_)
    intro M1 hN1 hf1
    refine J_iret hx hr dX7_copy_30 ?_
    exact hQ.to (v := -((0 + 2 : Nat) : Int)) (S := rfS S 0) (by
      unfold a_copy
      (try simp only [Int.toNat_natCast] at *)
      ((repeat' split) <;> first | rfl | (exfalso; omega) | (congr 1; omega))) hN1 hf1
  · refine J_iload_n hx dX7_copy_12 (i := 2) rfl rfl ?_
    refine J_i2l hx dX7_copy_13 ?_
    refine J_lconst (v := 0) hx dX7_copy_14 (by decide) ?_
    refine J_ldc2 (v := 7) hx ct_X7_93 dX7_copy_15 (by decide) ?_
    refine J_invS (As := [vL (q), vL (0), vL (7)]) (st := []) hx lk_X7_85 okX7_in dX7_copy_18 rfl rfl (Nat.le_of_ble_eq_true rfl) (Nat.zero_add _).symm (Nat.zero_add _).symm rfl (c_X7_in (a := q) (lo := 0) (hi := 7) ?_)
    intro v3 hv3
    refine J_if_ne (tgt := 31) hx dX7_copy_21 (by decide) (fun c4 => ?_) (fun c4 => ?_)
    · obtain ⟨pN, rfl⟩ : ∃ z : Nat, p = ((z : Nat) : Int) := ⟨p.toNat, by omega⟩
      obtain ⟨qN, rfl⟩ : ∃ z : Nat, q = ((z : Nat) : Int) := ⟨q.toNat, by omega⟩
      have hsp := shc_rg hW (s := pN) (by omega)
      have hsq := shc_rg hW (s := qN) (by omega)
      refine J_aload_n hx dX7_copy_31 (i := 0) rfl rfl ?_
      refine J_getR (b := r + 1) hx fl_X7_7 cl_X7 dX7_copy_32 hT.o (by decide) rfl hT.r0 ?_
      refine J_iload_n hx dX7_copy_35 (i := 1) rfl rfl ?_
      refine J_iald2 (v := shc (S.sh pN).1) hx pN dX7_copy_36 hT.k1 (by omega) (hT.l1 (by omega)) (hN.sc (by omega)) ?_
      have rg5 := hW.h (s := pN) (by omega)
      refine J_iconst (v := 2) hx dX7_copy_37 (by decide) ?_
      refine J_icmp_eq (tgt := 86) hx dX7_copy_38 (by decide) (fun c6 => ?_) (fun c6 => ?_)
      · refine J_aload_n hx dX7_copy_86 (i := 0) rfl rfl ?_
        refine J_bipush (v := -3) hx dX7_copy_87 (by decide) ?_
        refine J_invV (As := [vI ((-3))]) (st := []) hx lk_X7_99 okX7_refuse dX7_copy_89 hT.o (by decide) rfl rfl rfl (Nat.le_of_ble_eq_true rfl) (Nat.zero_add _).symm (Nat.zero_add _).symm rfl (c_X7_refuseS hT hN hW (k := 1) (by decide) ?_)
        intro M1 hN1 hf1
        refine J_iret hx hr dX7_copy_92 ?_
        exact hQ.to (v := -((1 + 2 : Nat) : Int)) (S := rfS S 1) (by
          unfold a_copy
          (try simp only [Int.toNat_natCast] at *)
          ((repeat' split) <;> first | rfl | (exfalso; omega) | (congr 1; omega))) hN1 hf1
      · refine J_aload_n hx dX7_copy_41 (i := 0) rfl rfl ?_
        refine J_getR (b := r + 1) hx fl_X7_7 cl_X7 dX7_copy_42 hT.o (by decide) rfl hT.r0 ?_
        refine J_iload_n hx dX7_copy_45 (i := 2) rfl rfl ?_
        refine J_iald2 (v := shc (S.sh qN).1) hx qN dX7_copy_46 hT.k1 (by omega) (hT.l1 (by omega)) (hN.sc (by omega)) ?_
        have rg7 := hW.h (s := qN) (by omega)
        refine J_iconst (v := 2) hx dX7_copy_47 (by decide) ?_
        refine J_icmp_eq (tgt := 86) hx dX7_copy_48 (by decide) (fun c8 => ?_) (fun c8 => ?_)
        · refine J_aload_n hx dX7_copy_86 (i := 0) rfl rfl ?_
          refine J_bipush (v := -3) hx dX7_copy_87 (by decide) ?_
          refine J_invV (As := [vI ((-3))]) (st := []) hx lk_X7_99 okX7_refuse dX7_copy_89 hT.o (by decide) rfl rfl rfl (Nat.le_of_ble_eq_true rfl) (Nat.zero_add _).symm (Nat.zero_add _).symm rfl (c_X7_refuseS hT hN hW (k := 1) (by decide) ?_)
          intro M1 hN1 hf1
          refine J_iret hx hr dX7_copy_92 ?_
          exact hQ.to (v := -((1 + 2 : Nat) : Int)) (S := rfS S 1) (by
            unfold a_copy
            (try simp only [Int.toNat_natCast] at *)
            ((repeat' split) <;> first | rfl | (exfalso; omega) | (congr 1; omega))) hN1 hf1
        · refine J_aload_n hx dX7_copy_51 (i := 0) rfl rfl ?_
          refine J_getR (b := r + 1) hx fl_X7_7 cl_X7 dX7_copy_52 hT.o (by decide) rfl hT.r0 ?_
          refine J_iload_n hx dX7_copy_55 (i := 1) rfl rfl ?_
          refine J_iald2 (v := shc (S.sh pN).1) hx pN dX7_copy_56 hT.k1 (by omega) (hT.l1 (by omega)) (hN.sc (by omega)) ?_
          have rg9 := hW.h (s := pN) (by omega)
          refine J_iconst (v := 1) hx dX7_copy_57 (by decide) ?_
          refine J_icmp_ne (tgt := 93) hx dX7_copy_58 (by decide) (fun c10 => ?_) (fun c10 => ?_)
          · refine J_aload_n hx dX7_copy_93 (i := 0) rfl rfl ?_
            refine J_getR (b := r + 1) hx fl_X7_7 cl_X7 dX7_copy_94 hT.o (by decide) rfl hT.r0 ?_
            refine J_iload_n hx dX7_copy_97 (i := 1) rfl rfl ?_
            refine J_iald2 (v := shc (S.sh pN).1) hx pN dX7_copy_98 hT.k1 (by omega) (hT.l1 (by omega)) (hN.sc (by omega)) ?_
            have rg11 := hW.h (s := pN) (by omega)
            refine J_if_eq (tgt := 111) hx dX7_copy_99 (by decide) (fun c12 => ?_) (fun c12 => ?_)
            · refine J_aload_n hx dX7_copy_111 (i := 0) rfl rfl ?_
              refine J_bipush (v := -4) hx dX7_copy_112 (by decide) ?_
              refine J_invV (As := [vI ((-4))]) (st := []) hx lk_X7_99 okX7_refuse dX7_copy_114 hT.o (by decide) rfl rfl rfl (Nat.le_of_ble_eq_true rfl) (Nat.zero_add _).symm (Nat.zero_add _).symm rfl (c_X7_refuseS hT hN hW (k := 2) (by decide) ?_)
              intro M1 hN1 hf1
              refine J_iret hx hr dX7_copy_117 ?_
              exact hQ.to (v := -((2 + 2 : Nat) : Int)) (S := rfS S 2) (by
                unfold a_copy
                (try simp only [Int.toNat_natCast] at *)
                ((repeat' split) <;> first | rfl | (exfalso; omega) | (congr 1; omega))) hN1 hf1
            · refine J_aload_n hx dX7_copy_102 (i := 0) rfl rfl ?_
              refine J_getR (b := r + 1) hx fl_X7_7 cl_X7 dX7_copy_103 hT.o (by decide) rfl hT.r0 ?_
              refine J_iload_n hx dX7_copy_106 (i := 2) rfl rfl ?_
              refine J_iald2 (v := shc (S.sh qN).1) hx qN dX7_copy_107 hT.k1 (by omega) (hT.l1 (by omega)) (hN.sc (by omega)) ?_
              have rg13 := hW.h (s := qN) (by omega)
              refine J_if_ne (tgt := 118) hx dX7_copy_108 (by decide) (fun c14 => ?_) (fun c14 => ?_)
              · have hrp : rowH (S.sh pN).1 := by unfold rowH; omega
                have hrq : rowH (S.sh qN).1 := by unfold rowH; omega
                have hzp := hW.z (s := pN) (by omega)
                have hzq := hW.z (s := qN) (by omega)
                refine J_iload hx dX7_copy_118 rfl ?_
                refine J_if_lt (tgt := 181) hx dX7_copy_120 (by decide) (fun c15 => ?_) (fun c15 => ?_)
                · refine J_aload_n hx dX7_copy_181 (i := 0) rfl rfl ?_
                  refine J_bipush (v := -2) hx dX7_copy_182 (by decide) ?_
                  refine J_invV (As := [vI ((-2))]) (st := []) hx lk_X7_99 okX7_refuse dX7_copy_184 hT.o (by decide) rfl rfl rfl (Nat.le_of_ble_eq_true rfl) (Nat.zero_add _).symm (Nat.zero_add _).symm rfl (c_X7_refuseS hT hN hW (k := 0) (by decide) ?_)
                  intro M1 hN1 hf1
                  refine J_iret hx hr dX7_copy_187 ?_
                  exact hQ.to (v := -((0 + 2 : Nat) : Int)) (S := rfS S 0) (by
                    unfold a_copy
                    (try simp only [Int.toNat_natCast] at *)
                    ((repeat' split) <;> first | rfl | (exfalso; omega) | (congr 1; omega))) hN1 hf1
                · refine J_iload_n hx dX7_copy_123 (i := 3) rfl rfl ?_
                  refine J_if_lt (tgt := 181) hx dX7_copy_124 (by decide) (fun c16 => ?_) (fun c16 => ?_)
                  · refine J_aload_n hx dX7_copy_181 (i := 0) rfl rfl ?_
                    refine J_bipush (v := -2) hx dX7_copy_182 (by decide) ?_
                    refine J_invV (As := [vI ((-2))]) (st := []) hx lk_X7_99 okX7_refuse dX7_copy_184 hT.o (by decide) rfl rfl rfl (Nat.le_of_ble_eq_true rfl) (Nat.zero_add _).symm (Nat.zero_add _).symm rfl (c_X7_refuseS hT hN hW (k := 0) (by decide) ?_)
                    intro M1 hN1 hf1
                    refine J_iret hx hr dX7_copy_187 ?_
                    exact hQ.to (v := -((0 + 2 : Nat) : Int)) (S := rfS S 0) (by
                      unfold a_copy
                      (try simp only [Int.toNat_natCast] at *)
                      ((repeat' split) <;> first | rfl | (exfalso; omega) | (congr 1; omega))) hN1 hf1
                  · refine J_iload hx dX7_copy_127 rfl ?_
                    refine J_if_lt (tgt := 181) hx dX7_copy_129 (by decide) (fun c17 => ?_) (fun c17 => ?_)
                    · refine J_aload_n hx dX7_copy_181 (i := 0) rfl rfl ?_
                      refine J_bipush (v := -2) hx dX7_copy_182 (by decide) ?_
                      refine J_invV (As := [vI ((-2))]) (st := []) hx lk_X7_99 okX7_refuse dX7_copy_184 hT.o (by decide) rfl rfl rfl (Nat.le_of_ble_eq_true rfl) (Nat.zero_add _).symm (Nat.zero_add _).symm rfl (c_X7_refuseS hT hN hW (k := 0) (by decide) ?_)
                      intro M1 hN1 hf1
                      refine J_iret hx hr dX7_copy_187 ?_
                      exact hQ.to (v := -((0 + 2 : Nat) : Int)) (S := rfS S 0) (by
                        unfold a_copy
                        (try simp only [Int.toNat_natCast] at *)
                        ((repeat' split) <;> first | rfl | (exfalso; omega) | (congr 1; omega))) hN1 hf1
                    · refine J_iload hx dX7_copy_132 rfl ?_
                      refine J_aload_n hx dX7_copy_134 (i := 0) rfl rfl ?_
                      refine J_getR (b := r + 3) hx fl_X7_16 cl_X7 dX7_copy_135 hT.o (by decide) rfl hT.r2 ?_
                      refine J_iload_n hx dX7_copy_138 (i := 1) rfl rfl ?_
                      refine J_iald2 (v := (S.sh pN).2.1) hx pN dX7_copy_139 hT.k3 (by omega) (hT.l3 (by omega)) (hN.sz (by omega) hrp) ?_
                      have rg18 := hW.z (s := pN) (by omega)
                      refine J_icmp_gt (tgt := 181) hx dX7_copy_140 (by decide) (fun c19 => ?_) (fun c19 => ?_)
                      · refine J_aload_n hx dX7_copy_181 (i := 0) rfl rfl ?_
                        refine J_bipush (v := -2) hx dX7_copy_182 (by decide) ?_
                        refine J_invV (As := [vI ((-2))]) (st := []) hx lk_X7_99 okX7_refuse dX7_copy_184 hT.o (by decide) rfl rfl rfl (Nat.le_of_ble_eq_true rfl) (Nat.zero_add _).symm (Nat.zero_add _).symm rfl (c_X7_refuseS hT hN hW (k := 0) (by decide) ?_)
                        intro M1 hN1 hf1
                        refine J_iret hx hr dX7_copy_187 ?_
                        exact hQ.to (v := -((0 + 2 : Nat) : Int)) (S := rfS S 0) (by
                          unfold a_copy
                          (try simp only [Int.toNat_natCast] at *)
                          ((repeat' split) <;> first | rfl | (exfalso; omega) | (congr 1; omega))) hN1 hf1
                      · refine J_iload hx dX7_copy_143 rfl ?_
                        refine J_aload_n hx dX7_copy_145 (i := 0) rfl rfl ?_
                        refine J_getR (b := r + 3) hx fl_X7_16 cl_X7 dX7_copy_146 hT.o (by decide) rfl hT.r2 ?_
                        refine J_iload_n hx dX7_copy_149 (i := 2) rfl rfl ?_
                        refine J_iald2 (v := (S.sh qN).2.1) hx qN dX7_copy_150 hT.k3 (by omega) (hT.l3 (by omega)) (hN.sz (by omega) hrq) ?_
                        have rg20 := hW.z (s := qN) (by omega)
                        refine J_icmp_gt (tgt := 181) hx dX7_copy_151 (by decide) (fun c21 => ?_) (fun c21 => ?_)
                        · refine J_aload_n hx dX7_copy_181 (i := 0) rfl rfl ?_
                          refine J_bipush (v := -2) hx dX7_copy_182 (by decide) ?_
                          refine J_invV (As := [vI ((-2))]) (st := []) hx lk_X7_99 okX7_refuse dX7_copy_184 hT.o (by decide) rfl rfl rfl (Nat.le_of_ble_eq_true rfl) (Nat.zero_add _).symm (Nat.zero_add _).symm rfl (c_X7_refuseS hT hN hW (k := 0) (by decide) ?_)
                          intro M1 hN1 hf1
                          refine J_iret hx hr dX7_copy_187 ?_
                          exact hQ.to (v := -((0 + 2 : Nat) : Int)) (S := rfS S 0) (by
                            unfold a_copy
                            (try simp only [Int.toNat_natCast] at *)
                            ((repeat' split) <;> first | rfl | (exfalso; omega) | (congr 1; omega))) hN1 hf1
                        · refine J_iload_n hx dX7_copy_154 (i := 3) rfl rfl ?_
                          refine J_aload_n hx dX7_copy_155 (i := 0) rfl rfl ?_
                          refine J_getR (b := r + 3) hx fl_X7_16 cl_X7 dX7_copy_156 hT.o (by decide) rfl hT.r2 ?_
                          refine J_iload_n hx dX7_copy_159 (i := 1) rfl rfl ?_
                          refine J_iald2 (v := (S.sh pN).2.1) hx pN dX7_copy_160 hT.k3 (by omega) (hT.l3 (by omega)) (hN.sz (by omega) hrp) ?_
                          have rg22 := hW.z (s := pN) (by omega)
                          refine J_iload hx dX7_copy_161 rfl ?_
                          refine J_isub (v := (S.sh pN).2.1 - n) hx dX7_copy_163 (w32_id (by omega) (by omega)) ?_
                          refine J_icmp_gt (tgt := 181) hx dX7_copy_164 (by decide) (fun c23 => ?_) (fun c23 => ?_)
                          · refine J_aload_n hx dX7_copy_181 (i := 0) rfl rfl ?_
                            refine J_bipush (v := -2) hx dX7_copy_182 (by decide) ?_
                            refine J_invV (As := [vI ((-2))]) (st := []) hx lk_X7_99 okX7_refuse dX7_copy_184 hT.o (by decide) rfl rfl rfl (Nat.le_of_ble_eq_true rfl) (Nat.zero_add _).symm (Nat.zero_add _).symm rfl (c_X7_refuseS hT hN hW (k := 0) (by decide) ?_)
                            intro M1 hN1 hf1
                            refine J_iret hx hr dX7_copy_187 ?_
                            exact hQ.to (v := -((0 + 2 : Nat) : Int)) (S := rfS S 0) (by
                              unfold a_copy
                              (try simp only [Int.toNat_natCast] at *)
                              ((repeat' split) <;> first | rfl | (exfalso; omega) | (congr 1; omega))) hN1 hf1
                          · refine J_iload hx dX7_copy_167 rfl ?_
                            refine J_aload_n hx dX7_copy_169 (i := 0) rfl rfl ?_
                            refine J_getR (b := r + 3) hx fl_X7_16 cl_X7 dX7_copy_170 hT.o (by decide) rfl hT.r2 ?_
                            refine J_iload_n hx dX7_copy_173 (i := 2) rfl rfl ?_
                            refine J_iald2 (v := (S.sh qN).2.1) hx qN dX7_copy_174 hT.k3 (by omega) (hT.l3 (by omega)) (hN.sz (by omega) hrq) ?_
                            have rg24 := hW.z (s := qN) (by omega)
                            refine J_iload hx dX7_copy_175 rfl ?_
                            refine J_isub (v := (S.sh qN).2.1 - n) hx dX7_copy_177 (w32_id (by omega) (by omega)) ?_
                            refine J_icmp_le (tgt := 188) hx dX7_copy_178 (by decide) (fun c25 => ?_) (fun c25 => ?_)
                            · obtain ⟨iN, rfl⟩ : ∃ z : Nat, i = ((z : Nat) : Int) := ⟨i.toNat, by omega⟩
                              obtain ⟨jN, rfl⟩ : ∃ z : Nat, j = ((z : Nat) : Int) := ⟨j.toNat, by omega⟩
                              obtain ⟨nN, rfl⟩ : ∃ z : Nat, n = ((z : Nat) : Int) := ⟨n.toNat, by omega⟩
                              refine J_iconst (v := 0) hx dX7_copy_188 (by decide) ?_
                              refine J_istore (lsn := [vR (r), vI (((pN : Nat) : Int)), vI (((qN : Nat) : Int)), vI (((iN : Nat) : Int)), vI (((jN : Nat) : Int)), vI (((nN : Nat) : Int)), vI (0)]) hx dX7_copy_189 (Nat.le_of_ble_eq_true rfl) rfl rfl ?_
                              have hK1 : RQ r T M sz Q (((nN : Nat) : Int), shS S qN ((S.sh qN).1, (S.sh qN).2.1, fun k => if jN ≤ k ∧ k < jN + nN then (S.sh pN).2.2 (iN + (k - jN)) else (S.sh qN).2.2 k)) := (show a_copy S ((pN : Nat) : Int) ((qN : Nat) : Int) ((iN : Nat) : Int) ((jN : Nat) : Int) ((nN : Nat) : Int) = _ from (by
                                unfold rowH at hrp hrq
                                unfold a_copy
                                simp only [Int.toNat_natCast]
                                rw [if_neg (by omega), if_neg (by omega), if_neg (by omega), if_neg (by omega)])) ▸ hQ
                              refine lp_X7_copy hT hN hW hx hr (p := pN) (q := qN) (i := iN) (j := jN) (n := nN) (by omega) (by omega) hrp hrq (by omega) (by omega) (fun M9 u h8 h9 => ?_) 0 M (by omega) (fun t h => absurd h (Nat.not_lt_zero t)) (fun _ _ => rfl)
                              refine J_iconst (v := 0) hx dX7_copy_222 (by decide) ?_
                              refine J_istore (lsn := [vR r, vI ((pN : Nat) : Int), vI ((qN : Nat) : Int), vI ((iN : Nat) : Int), vI ((jN : Nat) : Int), vI ((nN : Nat) : Int), vI 0]) hx dX7_copy_223 (Nat.le_of_ble_eq_true rfl) rfl rfl ?_
                              exact lp2_X7_copy hT (hN.moved h9) hW hx hr (p := pN) (q := qN) (i := iN) (j := jN) (n := nN) (by omega) (by omega) hrp hrq (by omega) (by omega) (fun M8 k8 k9 => hK1 M8 k8 (fun b9 hb9 => by rw [k9 b9 hb9, h9 b9 (by omega)])) h8 0 M9 (by omega) (fun t => by rw [if_neg (by omega)]) (fun _ _ => rfl)
                            · refine J_aload_n hx dX7_copy_181 (i := 0) rfl rfl ?_
                              refine J_bipush (v := -2) hx dX7_copy_182 (by decide) ?_
                              refine J_invV (As := [vI ((-2))]) (st := []) hx lk_X7_99 okX7_refuse dX7_copy_184 hT.o (by decide) rfl rfl rfl (Nat.le_of_ble_eq_true rfl) (Nat.zero_add _).symm (Nat.zero_add _).symm rfl (c_X7_refuseS hT hN hW (k := 0) (by decide) ?_)
                              intro M1 hN1 hf1
                              refine J_iret hx hr dX7_copy_187 ?_
                              exact hQ.to (v := -((0 + 2 : Nat) : Int)) (S := rfS S 0) (by
                                unfold a_copy
                                (try simp only [Int.toNat_natCast] at *)
                                ((repeat' split) <;> first | rfl | (exfalso; omega) | (congr 1; omega))) hN1 hf1
              · refine J_aload_n hx dX7_copy_111 (i := 0) rfl rfl ?_
                refine J_bipush (v := -4) hx dX7_copy_112 (by decide) ?_
                refine J_invV (As := [vI ((-4))]) (st := []) hx lk_X7_99 okX7_refuse dX7_copy_114 hT.o (by decide) rfl rfl rfl (Nat.le_of_ble_eq_true rfl) (Nat.zero_add _).symm (Nat.zero_add _).symm rfl (c_X7_refuseS hT hN hW (k := 2) (by decide) ?_)
                intro M1 hN1 hf1
                refine J_iret hx hr dX7_copy_117 ?_
                exact hQ.to (v := -((2 + 2 : Nat) : Int)) (S := rfS S 2) (by
                  unfold a_copy
                  (try simp only [Int.toNat_natCast] at *)
                  ((repeat' split) <;> first | rfl | (exfalso; omega) | (congr 1; omega))) hN1 hf1
          · refine J_aload_n hx dX7_copy_61 (i := 0) rfl rfl ?_
            refine J_getR (b := r + 1) hx fl_X7_7 cl_X7 dX7_copy_62 hT.o (by decide) rfl hT.r0 ?_
            refine J_iload_n hx dX7_copy_65 (i := 2) rfl rfl ?_
            refine J_iald2 (v := shc (S.sh qN).1) hx qN dX7_copy_66 hT.k1 (by omega) (hT.l1 (by omega)) (hN.sc (by omega)) ?_
            have rg26 := hW.h (s := qN) (by omega)
            refine J_iconst (v := 1) hx dX7_copy_67 (by decide) ?_
            refine J_icmp_ne (tgt := 93) hx dX7_copy_68 (by decide) (fun c27 => ?_) (fun c27 => ?_)
            · refine J_aload_n hx dX7_copy_93 (i := 0) rfl rfl ?_
              refine J_getR (b := r + 1) hx fl_X7_7 cl_X7 dX7_copy_94 hT.o (by decide) rfl hT.r0 ?_
              refine J_iload_n hx dX7_copy_97 (i := 1) rfl rfl ?_
              refine J_iald2 (v := shc (S.sh pN).1) hx pN dX7_copy_98 hT.k1 (by omega) (hT.l1 (by omega)) (hN.sc (by omega)) ?_
              have rg28 := hW.h (s := pN) (by omega)
              refine J_if_eq (tgt := 111) hx dX7_copy_99 (by decide) (fun c29 => ?_) (fun c29 => ?_)
              · refine J_aload_n hx dX7_copy_111 (i := 0) rfl rfl ?_
                refine J_bipush (v := -4) hx dX7_copy_112 (by decide) ?_
                refine J_invV (As := [vI ((-4))]) (st := []) hx lk_X7_99 okX7_refuse dX7_copy_114 hT.o (by decide) rfl rfl rfl (Nat.le_of_ble_eq_true rfl) (Nat.zero_add _).symm (Nat.zero_add _).symm rfl (c_X7_refuseS hT hN hW (k := 2) (by decide) ?_)
                intro M1 hN1 hf1
                refine J_iret hx hr dX7_copy_117 ?_
                exact hQ.to (v := -((2 + 2 : Nat) : Int)) (S := rfS S 2) (by
                  unfold a_copy
                  (try simp only [Int.toNat_natCast] at *)
                  ((repeat' split) <;> first | rfl | (exfalso; omega) | (congr 1; omega))) hN1 hf1
              · refine J_aload_n hx dX7_copy_102 (i := 0) rfl rfl ?_
                refine J_getR (b := r + 1) hx fl_X7_7 cl_X7 dX7_copy_103 hT.o (by decide) rfl hT.r0 ?_
                refine J_iload_n hx dX7_copy_106 (i := 2) rfl rfl ?_
                refine J_iald2 (v := shc (S.sh qN).1) hx qN dX7_copy_107 hT.k1 (by omega) (hT.l1 (by omega)) (hN.sc (by omega)) ?_
                have rg30 := hW.h (s := qN) (by omega)
                refine J_if_ne (tgt := 118) hx dX7_copy_108 (by decide) (fun c31 => ?_) (fun c31 => ?_)
                · have hrp : rowH (S.sh pN).1 := by unfold rowH; omega
                  have hrq : rowH (S.sh qN).1 := by unfold rowH; omega
                  have hzp := hW.z (s := pN) (by omega)
                  have hzq := hW.z (s := qN) (by omega)
                  refine J_iload hx dX7_copy_118 rfl ?_
                  refine J_if_lt (tgt := 181) hx dX7_copy_120 (by decide) (fun c32 => ?_) (fun c32 => ?_)
                  · refine J_aload_n hx dX7_copy_181 (i := 0) rfl rfl ?_
                    refine J_bipush (v := -2) hx dX7_copy_182 (by decide) ?_
                    refine J_invV (As := [vI ((-2))]) (st := []) hx lk_X7_99 okX7_refuse dX7_copy_184 hT.o (by decide) rfl rfl rfl (Nat.le_of_ble_eq_true rfl) (Nat.zero_add _).symm (Nat.zero_add _).symm rfl (c_X7_refuseS hT hN hW (k := 0) (by decide) ?_)
                    intro M1 hN1 hf1
                    refine J_iret hx hr dX7_copy_187 ?_
                    exact hQ.to (v := -((0 + 2 : Nat) : Int)) (S := rfS S 0) (by
                      unfold a_copy
                      (try simp only [Int.toNat_natCast] at *)
                      ((repeat' split) <;> first | rfl | (exfalso; omega) | (congr 1; omega))) hN1 hf1
                  · refine J_iload_n hx dX7_copy_123 (i := 3) rfl rfl ?_
                    refine J_if_lt (tgt := 181) hx dX7_copy_124 (by decide) (fun c33 => ?_) (fun c33 => ?_)
                    · refine J_aload_n hx dX7_copy_181 (i := 0) rfl rfl ?_
                      refine J_bipush (v := -2) hx dX7_copy_182 (by decide) ?_
                      refine J_invV (As := [vI ((-2))]) (st := []) hx lk_X7_99 okX7_refuse dX7_copy_184 hT.o (by decide) rfl rfl rfl (Nat.le_of_ble_eq_true rfl) (Nat.zero_add _).symm (Nat.zero_add _).symm rfl (c_X7_refuseS hT hN hW (k := 0) (by decide) ?_)
                      intro M1 hN1 hf1
                      refine J_iret hx hr dX7_copy_187 ?_
                      exact hQ.to (v := -((0 + 2 : Nat) : Int)) (S := rfS S 0) (by
                        unfold a_copy
                        (try simp only [Int.toNat_natCast] at *)
                        ((repeat' split) <;> first | rfl | (exfalso; omega) | (congr 1; omega))) hN1 hf1
                    · refine J_iload hx dX7_copy_127 rfl ?_
                      refine J_if_lt (tgt := 181) hx dX7_copy_129 (by decide) (fun c34 => ?_) (fun c34 => ?_)
                      · refine J_aload_n hx dX7_copy_181 (i := 0) rfl rfl ?_
                        refine J_bipush (v := -2) hx dX7_copy_182 (by decide) ?_
                        refine J_invV (As := [vI ((-2))]) (st := []) hx lk_X7_99 okX7_refuse dX7_copy_184 hT.o (by decide) rfl rfl rfl (Nat.le_of_ble_eq_true rfl) (Nat.zero_add _).symm (Nat.zero_add _).symm rfl (c_X7_refuseS hT hN hW (k := 0) (by decide) ?_)
                        intro M1 hN1 hf1
                        refine J_iret hx hr dX7_copy_187 ?_
                        exact hQ.to (v := -((0 + 2 : Nat) : Int)) (S := rfS S 0) (by
                          unfold a_copy
                          (try simp only [Int.toNat_natCast] at *)
                          ((repeat' split) <;> first | rfl | (exfalso; omega) | (congr 1; omega))) hN1 hf1
                      · refine J_iload hx dX7_copy_132 rfl ?_
                        refine J_aload_n hx dX7_copy_134 (i := 0) rfl rfl ?_
                        refine J_getR (b := r + 3) hx fl_X7_16 cl_X7 dX7_copy_135 hT.o (by decide) rfl hT.r2 ?_
                        refine J_iload_n hx dX7_copy_138 (i := 1) rfl rfl ?_
                        refine J_iald2 (v := (S.sh pN).2.1) hx pN dX7_copy_139 hT.k3 (by omega) (hT.l3 (by omega)) (hN.sz (by omega) hrp) ?_
                        have rg35 := hW.z (s := pN) (by omega)
                        refine J_icmp_gt (tgt := 181) hx dX7_copy_140 (by decide) (fun c36 => ?_) (fun c36 => ?_)
                        · refine J_aload_n hx dX7_copy_181 (i := 0) rfl rfl ?_
                          refine J_bipush (v := -2) hx dX7_copy_182 (by decide) ?_
                          refine J_invV (As := [vI ((-2))]) (st := []) hx lk_X7_99 okX7_refuse dX7_copy_184 hT.o (by decide) rfl rfl rfl (Nat.le_of_ble_eq_true rfl) (Nat.zero_add _).symm (Nat.zero_add _).symm rfl (c_X7_refuseS hT hN hW (k := 0) (by decide) ?_)
                          intro M1 hN1 hf1
                          refine J_iret hx hr dX7_copy_187 ?_
                          exact hQ.to (v := -((0 + 2 : Nat) : Int)) (S := rfS S 0) (by
                            unfold a_copy
                            (try simp only [Int.toNat_natCast] at *)
                            ((repeat' split) <;> first | rfl | (exfalso; omega) | (congr 1; omega))) hN1 hf1
                        · refine J_iload hx dX7_copy_143 rfl ?_
                          refine J_aload_n hx dX7_copy_145 (i := 0) rfl rfl ?_
                          refine J_getR (b := r + 3) hx fl_X7_16 cl_X7 dX7_copy_146 hT.o (by decide) rfl hT.r2 ?_
                          refine J_iload_n hx dX7_copy_149 (i := 2) rfl rfl ?_
                          refine J_iald2 (v := (S.sh qN).2.1) hx qN dX7_copy_150 hT.k3 (by omega) (hT.l3 (by omega)) (hN.sz (by omega) hrq) ?_
                          have rg37 := hW.z (s := qN) (by omega)
                          refine J_icmp_gt (tgt := 181) hx dX7_copy_151 (by decide) (fun c38 => ?_) (fun c38 => ?_)
                          · refine J_aload_n hx dX7_copy_181 (i := 0) rfl rfl ?_
                            refine J_bipush (v := -2) hx dX7_copy_182 (by decide) ?_
                            refine J_invV (As := [vI ((-2))]) (st := []) hx lk_X7_99 okX7_refuse dX7_copy_184 hT.o (by decide) rfl rfl rfl (Nat.le_of_ble_eq_true rfl) (Nat.zero_add _).symm (Nat.zero_add _).symm rfl (c_X7_refuseS hT hN hW (k := 0) (by decide) ?_)
                            intro M1 hN1 hf1
                            refine J_iret hx hr dX7_copy_187 ?_
                            exact hQ.to (v := -((0 + 2 : Nat) : Int)) (S := rfS S 0) (by
                              unfold a_copy
                              (try simp only [Int.toNat_natCast] at *)
                              ((repeat' split) <;> first | rfl | (exfalso; omega) | (congr 1; omega))) hN1 hf1
                          · refine J_iload_n hx dX7_copy_154 (i := 3) rfl rfl ?_
                            refine J_aload_n hx dX7_copy_155 (i := 0) rfl rfl ?_
                            refine J_getR (b := r + 3) hx fl_X7_16 cl_X7 dX7_copy_156 hT.o (by decide) rfl hT.r2 ?_
                            refine J_iload_n hx dX7_copy_159 (i := 1) rfl rfl ?_
                            refine J_iald2 (v := (S.sh pN).2.1) hx pN dX7_copy_160 hT.k3 (by omega) (hT.l3 (by omega)) (hN.sz (by omega) hrp) ?_
                            have rg39 := hW.z (s := pN) (by omega)
                            refine J_iload hx dX7_copy_161 rfl ?_
                            refine J_isub (v := (S.sh pN).2.1 - n) hx dX7_copy_163 (w32_id (by omega) (by omega)) ?_
                            refine J_icmp_gt (tgt := 181) hx dX7_copy_164 (by decide) (fun c40 => ?_) (fun c40 => ?_)
                            · refine J_aload_n hx dX7_copy_181 (i := 0) rfl rfl ?_
                              refine J_bipush (v := -2) hx dX7_copy_182 (by decide) ?_
                              refine J_invV (As := [vI ((-2))]) (st := []) hx lk_X7_99 okX7_refuse dX7_copy_184 hT.o (by decide) rfl rfl rfl (Nat.le_of_ble_eq_true rfl) (Nat.zero_add _).symm (Nat.zero_add _).symm rfl (c_X7_refuseS hT hN hW (k := 0) (by decide) ?_)
                              intro M1 hN1 hf1
                              refine J_iret hx hr dX7_copy_187 ?_
                              exact hQ.to (v := -((0 + 2 : Nat) : Int)) (S := rfS S 0) (by
                                unfold a_copy
                                (try simp only [Int.toNat_natCast] at *)
                                ((repeat' split) <;> first | rfl | (exfalso; omega) | (congr 1; omega))) hN1 hf1
                            · refine J_iload hx dX7_copy_167 rfl ?_
                              refine J_aload_n hx dX7_copy_169 (i := 0) rfl rfl ?_
                              refine J_getR (b := r + 3) hx fl_X7_16 cl_X7 dX7_copy_170 hT.o (by decide) rfl hT.r2 ?_
                              refine J_iload_n hx dX7_copy_173 (i := 2) rfl rfl ?_
                              refine J_iald2 (v := (S.sh qN).2.1) hx qN dX7_copy_174 hT.k3 (by omega) (hT.l3 (by omega)) (hN.sz (by omega) hrq) ?_
                              have rg41 := hW.z (s := qN) (by omega)
                              refine J_iload hx dX7_copy_175 rfl ?_
                              refine J_isub (v := (S.sh qN).2.1 - n) hx dX7_copy_177 (w32_id (by omega) (by omega)) ?_
                              refine J_icmp_le (tgt := 188) hx dX7_copy_178 (by decide) (fun c42 => ?_) (fun c42 => ?_)
                              · obtain ⟨iN, rfl⟩ : ∃ z : Nat, i = ((z : Nat) : Int) := ⟨i.toNat, by omega⟩
                                obtain ⟨jN, rfl⟩ : ∃ z : Nat, j = ((z : Nat) : Int) := ⟨j.toNat, by omega⟩
                                obtain ⟨nN, rfl⟩ : ∃ z : Nat, n = ((z : Nat) : Int) := ⟨n.toNat, by omega⟩
                                refine J_iconst (v := 0) hx dX7_copy_188 (by decide) ?_
                                refine J_istore (lsn := [vR (r), vI (((pN : Nat) : Int)), vI (((qN : Nat) : Int)), vI (((iN : Nat) : Int)), vI (((jN : Nat) : Int)), vI (((nN : Nat) : Int)), vI (0)]) hx dX7_copy_189 (Nat.le_of_ble_eq_true rfl) rfl rfl ?_
                                have hK1 : RQ r T M sz Q (((nN : Nat) : Int), shS S qN ((S.sh qN).1, (S.sh qN).2.1, fun k => if jN ≤ k ∧ k < jN + nN then (S.sh pN).2.2 (iN + (k - jN)) else (S.sh qN).2.2 k)) := (show a_copy S ((pN : Nat) : Int) ((qN : Nat) : Int) ((iN : Nat) : Int) ((jN : Nat) : Int) ((nN : Nat) : Int) = _ from (by
                                  unfold rowH at hrp hrq
                                  unfold a_copy
                                  simp only [Int.toNat_natCast]
                                  rw [if_neg (by omega), if_neg (by omega), if_neg (by omega), if_neg (by omega)])) ▸ hQ
                                refine lp_X7_copy hT hN hW hx hr (p := pN) (q := qN) (i := iN) (j := jN) (n := nN) (by omega) (by omega) hrp hrq (by omega) (by omega) (fun M9 u h8 h9 => ?_) 0 M (by omega) (fun t h => absurd h (Nat.not_lt_zero t)) (fun _ _ => rfl)
                                refine J_iconst (v := 0) hx dX7_copy_222 (by decide) ?_
                                refine J_istore (lsn := [vR r, vI ((pN : Nat) : Int), vI ((qN : Nat) : Int), vI ((iN : Nat) : Int), vI ((jN : Nat) : Int), vI ((nN : Nat) : Int), vI 0]) hx dX7_copy_223 (Nat.le_of_ble_eq_true rfl) rfl rfl ?_
                                exact lp2_X7_copy hT (hN.moved h9) hW hx hr (p := pN) (q := qN) (i := iN) (j := jN) (n := nN) (by omega) (by omega) hrp hrq (by omega) (by omega) (fun M8 k8 k9 => hK1 M8 k8 (fun b9 hb9 => by rw [k9 b9 hb9, h9 b9 (by omega)])) h8 0 M9 (by omega) (fun t => by rw [if_neg (by omega)]) (fun _ _ => rfl)
                              · refine J_aload_n hx dX7_copy_181 (i := 0) rfl rfl ?_
                                refine J_bipush (v := -2) hx dX7_copy_182 (by decide) ?_
                                refine J_invV (As := [vI ((-2))]) (st := []) hx lk_X7_99 okX7_refuse dX7_copy_184 hT.o (by decide) rfl rfl rfl (Nat.le_of_ble_eq_true rfl) (Nat.zero_add _).symm (Nat.zero_add _).symm rfl (c_X7_refuseS hT hN hW (k := 0) (by decide) ?_)
                                intro M1 hN1 hf1
                                refine J_iret hx hr dX7_copy_187 ?_
                                exact hQ.to (v := -((0 + 2 : Nat) : Int)) (S := rfS S 0) (by
                                  unfold a_copy
                                  (try simp only [Int.toNat_natCast] at *)
                                  ((repeat' split) <;> first | rfl | (exfalso; omega) | (congr 1; omega))) hN1 hf1
                · refine J_aload_n hx dX7_copy_111 (i := 0) rfl rfl ?_
                  refine J_bipush (v := -4) hx dX7_copy_112 (by decide) ?_
                  refine J_invV (As := [vI ((-4))]) (st := []) hx lk_X7_99 okX7_refuse dX7_copy_114 hT.o (by decide) rfl rfl rfl (Nat.le_of_ble_eq_true rfl) (Nat.zero_add _).symm (Nat.zero_add _).symm rfl (c_X7_refuseS hT hN hW (k := 2) (by decide) ?_)
                  intro M1 hN1 hf1
                  refine J_iret hx hr dX7_copy_117 ?_
                  exact hQ.to (v := -((2 + 2 : Nat) : Int)) (S := rfS S 2) (by
                    unfold a_copy
                    (try simp only [Int.toNat_natCast] at *)
                    ((repeat' split) <;> first | rfl | (exfalso; omega) | (congr 1; omega))) hN1 hf1
            · refine J_aload_n hx dX7_copy_71 (i := 0) rfl rfl ?_
              refine J_getR (b := r + 2) hx fl_X7_13 cl_X7 dX7_copy_72 hT.o (by decide) rfl hT.r1 ?_
              refine J_iload_n hx dX7_copy_75 (i := 1) rfl rfl ?_
              refine J_iald2 (v := (S.sh pN).1) hx pN dX7_copy_76 hT.k2 (by omega) (hT.l2 (by omega)) (hN.so (by omega) (show rowH _ from by unfold rowH; omega)) ?_
              refine J_aload_n hx dX7_copy_77 (i := 0) rfl rfl ?_
              refine J_getR (b := r + 2) hx fl_X7_13 cl_X7 dX7_copy_78 hT.o (by decide) rfl hT.r1 ?_
              refine J_iload_n hx dX7_copy_81 (i := 2) rfl rfl ?_
              refine J_iald2 (v := (S.sh qN).1) hx qN dX7_copy_82 hT.k2 (by omega) (hT.l2 (by omega)) (hN.so (by omega) (show rowH _ from by unfold rowH; omega)) ?_
              refine J_icmp_eq (tgt := 93) hx dX7_copy_83 (by decide) (fun c43 => ?_) (fun c43 => ?_)
              · refine J_aload_n hx dX7_copy_93 (i := 0) rfl rfl ?_
                refine J_getR (b := r + 1) hx fl_X7_7 cl_X7 dX7_copy_94 hT.o (by decide) rfl hT.r0 ?_
                refine J_iload_n hx dX7_copy_97 (i := 1) rfl rfl ?_
                refine J_iald2 (v := shc (S.sh pN).1) hx pN dX7_copy_98 hT.k1 (by omega) (hT.l1 (by omega)) (hN.sc (by omega)) ?_
                have rg44 := hW.h (s := pN) (by omega)
                refine J_if_eq (tgt := 111) hx dX7_copy_99 (by decide) (fun c45 => ?_) (fun c45 => ?_)
                · refine J_aload_n hx dX7_copy_111 (i := 0) rfl rfl ?_
                  refine J_bipush (v := -4) hx dX7_copy_112 (by decide) ?_
                  refine J_invV (As := [vI ((-4))]) (st := []) hx lk_X7_99 okX7_refuse dX7_copy_114 hT.o (by decide) rfl rfl rfl (Nat.le_of_ble_eq_true rfl) (Nat.zero_add _).symm (Nat.zero_add _).symm rfl (c_X7_refuseS hT hN hW (k := 2) (by decide) ?_)
                  intro M1 hN1 hf1
                  refine J_iret hx hr dX7_copy_117 ?_
                  exact hQ.to (v := -((2 + 2 : Nat) : Int)) (S := rfS S 2) (by
                    unfold a_copy
                    (try simp only [Int.toNat_natCast] at *)
                    ((repeat' split) <;> first | rfl | (exfalso; omega) | (congr 1; omega))) hN1 hf1
                · refine J_aload_n hx dX7_copy_102 (i := 0) rfl rfl ?_
                  refine J_getR (b := r + 1) hx fl_X7_7 cl_X7 dX7_copy_103 hT.o (by decide) rfl hT.r0 ?_
                  refine J_iload_n hx dX7_copy_106 (i := 2) rfl rfl ?_
                  refine J_iald2 (v := shc (S.sh qN).1) hx qN dX7_copy_107 hT.k1 (by omega) (hT.l1 (by omega)) (hN.sc (by omega)) ?_
                  have rg46 := hW.h (s := qN) (by omega)
                  refine J_if_ne (tgt := 118) hx dX7_copy_108 (by decide) (fun c47 => ?_) (fun c47 => ?_)
                  · have hrp : rowH (S.sh pN).1 := by unfold rowH; omega
                    have hrq : rowH (S.sh qN).1 := by unfold rowH; omega
                    have hzp := hW.z (s := pN) (by omega)
                    have hzq := hW.z (s := qN) (by omega)
                    refine J_iload hx dX7_copy_118 rfl ?_
                    refine J_if_lt (tgt := 181) hx dX7_copy_120 (by decide) (fun c48 => ?_) (fun c48 => ?_)
                    · refine J_aload_n hx dX7_copy_181 (i := 0) rfl rfl ?_
                      refine J_bipush (v := -2) hx dX7_copy_182 (by decide) ?_
                      refine J_invV (As := [vI ((-2))]) (st := []) hx lk_X7_99 okX7_refuse dX7_copy_184 hT.o (by decide) rfl rfl rfl (Nat.le_of_ble_eq_true rfl) (Nat.zero_add _).symm (Nat.zero_add _).symm rfl (c_X7_refuseS hT hN hW (k := 0) (by decide) ?_)
                      intro M1 hN1 hf1
                      refine J_iret hx hr dX7_copy_187 ?_
                      exact hQ.to (v := -((0 + 2 : Nat) : Int)) (S := rfS S 0) (by
                        unfold a_copy
                        (try simp only [Int.toNat_natCast] at *)
                        ((repeat' split) <;> first | rfl | (exfalso; omega) | (congr 1; omega))) hN1 hf1
                    · refine J_iload_n hx dX7_copy_123 (i := 3) rfl rfl ?_
                      refine J_if_lt (tgt := 181) hx dX7_copy_124 (by decide) (fun c49 => ?_) (fun c49 => ?_)
                      · refine J_aload_n hx dX7_copy_181 (i := 0) rfl rfl ?_
                        refine J_bipush (v := -2) hx dX7_copy_182 (by decide) ?_
                        refine J_invV (As := [vI ((-2))]) (st := []) hx lk_X7_99 okX7_refuse dX7_copy_184 hT.o (by decide) rfl rfl rfl (Nat.le_of_ble_eq_true rfl) (Nat.zero_add _).symm (Nat.zero_add _).symm rfl (c_X7_refuseS hT hN hW (k := 0) (by decide) ?_)
                        intro M1 hN1 hf1
                        refine J_iret hx hr dX7_copy_187 ?_
                        exact hQ.to (v := -((0 + 2 : Nat) : Int)) (S := rfS S 0) (by
                          unfold a_copy
                          (try simp only [Int.toNat_natCast] at *)
                          ((repeat' split) <;> first | rfl | (exfalso; omega) | (congr 1; omega))) hN1 hf1
                      · refine J_iload hx dX7_copy_127 rfl ?_
                        refine J_if_lt (tgt := 181) hx dX7_copy_129 (by decide) (fun c50 => ?_) (fun c50 => ?_)
                        · refine J_aload_n hx dX7_copy_181 (i := 0) rfl rfl ?_
                          refine J_bipush (v := -2) hx dX7_copy_182 (by decide) ?_
                          refine J_invV (As := [vI ((-2))]) (st := []) hx lk_X7_99 okX7_refuse dX7_copy_184 hT.o (by decide) rfl rfl rfl (Nat.le_of_ble_eq_true rfl) (Nat.zero_add _).symm (Nat.zero_add _).symm rfl (c_X7_refuseS hT hN hW (k := 0) (by decide) ?_)
                          intro M1 hN1 hf1
                          refine J_iret hx hr dX7_copy_187 ?_
                          exact hQ.to (v := -((0 + 2 : Nat) : Int)) (S := rfS S 0) (by
                            unfold a_copy
                            (try simp only [Int.toNat_natCast] at *)
                            ((repeat' split) <;> first | rfl | (exfalso; omega) | (congr 1; omega))) hN1 hf1
                        · refine J_iload hx dX7_copy_132 rfl ?_
                          refine J_aload_n hx dX7_copy_134 (i := 0) rfl rfl ?_
                          refine J_getR (b := r + 3) hx fl_X7_16 cl_X7 dX7_copy_135 hT.o (by decide) rfl hT.r2 ?_
                          refine J_iload_n hx dX7_copy_138 (i := 1) rfl rfl ?_
                          refine J_iald2 (v := (S.sh pN).2.1) hx pN dX7_copy_139 hT.k3 (by omega) (hT.l3 (by omega)) (hN.sz (by omega) hrp) ?_
                          have rg51 := hW.z (s := pN) (by omega)
                          refine J_icmp_gt (tgt := 181) hx dX7_copy_140 (by decide) (fun c52 => ?_) (fun c52 => ?_)
                          · refine J_aload_n hx dX7_copy_181 (i := 0) rfl rfl ?_
                            refine J_bipush (v := -2) hx dX7_copy_182 (by decide) ?_
                            refine J_invV (As := [vI ((-2))]) (st := []) hx lk_X7_99 okX7_refuse dX7_copy_184 hT.o (by decide) rfl rfl rfl (Nat.le_of_ble_eq_true rfl) (Nat.zero_add _).symm (Nat.zero_add _).symm rfl (c_X7_refuseS hT hN hW (k := 0) (by decide) ?_)
                            intro M1 hN1 hf1
                            refine J_iret hx hr dX7_copy_187 ?_
                            exact hQ.to (v := -((0 + 2 : Nat) : Int)) (S := rfS S 0) (by
                              unfold a_copy
                              (try simp only [Int.toNat_natCast] at *)
                              ((repeat' split) <;> first | rfl | (exfalso; omega) | (congr 1; omega))) hN1 hf1
                          · refine J_iload hx dX7_copy_143 rfl ?_
                            refine J_aload_n hx dX7_copy_145 (i := 0) rfl rfl ?_
                            refine J_getR (b := r + 3) hx fl_X7_16 cl_X7 dX7_copy_146 hT.o (by decide) rfl hT.r2 ?_
                            refine J_iload_n hx dX7_copy_149 (i := 2) rfl rfl ?_
                            refine J_iald2 (v := (S.sh qN).2.1) hx qN dX7_copy_150 hT.k3 (by omega) (hT.l3 (by omega)) (hN.sz (by omega) hrq) ?_
                            have rg53 := hW.z (s := qN) (by omega)
                            refine J_icmp_gt (tgt := 181) hx dX7_copy_151 (by decide) (fun c54 => ?_) (fun c54 => ?_)
                            · refine J_aload_n hx dX7_copy_181 (i := 0) rfl rfl ?_
                              refine J_bipush (v := -2) hx dX7_copy_182 (by decide) ?_
                              refine J_invV (As := [vI ((-2))]) (st := []) hx lk_X7_99 okX7_refuse dX7_copy_184 hT.o (by decide) rfl rfl rfl (Nat.le_of_ble_eq_true rfl) (Nat.zero_add _).symm (Nat.zero_add _).symm rfl (c_X7_refuseS hT hN hW (k := 0) (by decide) ?_)
                              intro M1 hN1 hf1
                              refine J_iret hx hr dX7_copy_187 ?_
                              exact hQ.to (v := -((0 + 2 : Nat) : Int)) (S := rfS S 0) (by
                                unfold a_copy
                                (try simp only [Int.toNat_natCast] at *)
                                ((repeat' split) <;> first | rfl | (exfalso; omega) | (congr 1; omega))) hN1 hf1
                            · refine J_iload_n hx dX7_copy_154 (i := 3) rfl rfl ?_
                              refine J_aload_n hx dX7_copy_155 (i := 0) rfl rfl ?_
                              refine J_getR (b := r + 3) hx fl_X7_16 cl_X7 dX7_copy_156 hT.o (by decide) rfl hT.r2 ?_
                              refine J_iload_n hx dX7_copy_159 (i := 1) rfl rfl ?_
                              refine J_iald2 (v := (S.sh pN).2.1) hx pN dX7_copy_160 hT.k3 (by omega) (hT.l3 (by omega)) (hN.sz (by omega) hrp) ?_
                              have rg55 := hW.z (s := pN) (by omega)
                              refine J_iload hx dX7_copy_161 rfl ?_
                              refine J_isub (v := (S.sh pN).2.1 - n) hx dX7_copy_163 (w32_id (by omega) (by omega)) ?_
                              refine J_icmp_gt (tgt := 181) hx dX7_copy_164 (by decide) (fun c56 => ?_) (fun c56 => ?_)
                              · refine J_aload_n hx dX7_copy_181 (i := 0) rfl rfl ?_
                                refine J_bipush (v := -2) hx dX7_copy_182 (by decide) ?_
                                refine J_invV (As := [vI ((-2))]) (st := []) hx lk_X7_99 okX7_refuse dX7_copy_184 hT.o (by decide) rfl rfl rfl (Nat.le_of_ble_eq_true rfl) (Nat.zero_add _).symm (Nat.zero_add _).symm rfl (c_X7_refuseS hT hN hW (k := 0) (by decide) ?_)
                                intro M1 hN1 hf1
                                refine J_iret hx hr dX7_copy_187 ?_
                                exact hQ.to (v := -((0 + 2 : Nat) : Int)) (S := rfS S 0) (by
                                  unfold a_copy
                                  (try simp only [Int.toNat_natCast] at *)
                                  ((repeat' split) <;> first | rfl | (exfalso; omega) | (congr 1; omega))) hN1 hf1
                              · refine J_iload hx dX7_copy_167 rfl ?_
                                refine J_aload_n hx dX7_copy_169 (i := 0) rfl rfl ?_
                                refine J_getR (b := r + 3) hx fl_X7_16 cl_X7 dX7_copy_170 hT.o (by decide) rfl hT.r2 ?_
                                refine J_iload_n hx dX7_copy_173 (i := 2) rfl rfl ?_
                                refine J_iald2 (v := (S.sh qN).2.1) hx qN dX7_copy_174 hT.k3 (by omega) (hT.l3 (by omega)) (hN.sz (by omega) hrq) ?_
                                have rg57 := hW.z (s := qN) (by omega)
                                refine J_iload hx dX7_copy_175 rfl ?_
                                refine J_isub (v := (S.sh qN).2.1 - n) hx dX7_copy_177 (w32_id (by omega) (by omega)) ?_
                                refine J_icmp_le (tgt := 188) hx dX7_copy_178 (by decide) (fun c58 => ?_) (fun c58 => ?_)
                                · obtain ⟨iN, rfl⟩ : ∃ z : Nat, i = ((z : Nat) : Int) := ⟨i.toNat, by omega⟩
                                  obtain ⟨jN, rfl⟩ : ∃ z : Nat, j = ((z : Nat) : Int) := ⟨j.toNat, by omega⟩
                                  obtain ⟨nN, rfl⟩ : ∃ z : Nat, n = ((z : Nat) : Int) := ⟨n.toNat, by omega⟩
                                  refine J_iconst (v := 0) hx dX7_copy_188 (by decide) ?_
                                  refine J_istore (lsn := [vR (r), vI (((pN : Nat) : Int)), vI (((qN : Nat) : Int)), vI (((iN : Nat) : Int)), vI (((jN : Nat) : Int)), vI (((nN : Nat) : Int)), vI (0)]) hx dX7_copy_189 (Nat.le_of_ble_eq_true rfl) rfl rfl ?_
                                  have hK1 : RQ r T M sz Q (((nN : Nat) : Int), shS S qN ((S.sh qN).1, (S.sh qN).2.1, fun k => if jN ≤ k ∧ k < jN + nN then (S.sh pN).2.2 (iN + (k - jN)) else (S.sh qN).2.2 k)) := (show a_copy S ((pN : Nat) : Int) ((qN : Nat) : Int) ((iN : Nat) : Int) ((jN : Nat) : Int) ((nN : Nat) : Int) = _ from (by
                                    unfold rowH at hrp hrq
                                    unfold a_copy
                                    simp only [Int.toNat_natCast]
                                    rw [if_neg (by omega), if_neg (by omega), if_neg (by omega), if_neg (by omega)])) ▸ hQ
                                  refine lp_X7_copy hT hN hW hx hr (p := pN) (q := qN) (i := iN) (j := jN) (n := nN) (by omega) (by omega) hrp hrq (by omega) (by omega) (fun M9 u h8 h9 => ?_) 0 M (by omega) (fun t h => absurd h (Nat.not_lt_zero t)) (fun _ _ => rfl)
                                  refine J_iconst (v := 0) hx dX7_copy_222 (by decide) ?_
                                  refine J_istore (lsn := [vR r, vI ((pN : Nat) : Int), vI ((qN : Nat) : Int), vI ((iN : Nat) : Int), vI ((jN : Nat) : Int), vI ((nN : Nat) : Int), vI 0]) hx dX7_copy_223 (Nat.le_of_ble_eq_true rfl) rfl rfl ?_
                                  exact lp2_X7_copy hT (hN.moved h9) hW hx hr (p := pN) (q := qN) (i := iN) (j := jN) (n := nN) (by omega) (by omega) hrp hrq (by omega) (by omega) (fun M8 k8 k9 => hK1 M8 k8 (fun b9 hb9 => by rw [k9 b9 hb9, h9 b9 (by omega)])) h8 0 M9 (by omega) (fun t => by rw [if_neg (by omega)]) (fun _ _ => rfl)
                                · refine J_aload_n hx dX7_copy_181 (i := 0) rfl rfl ?_
                                  refine J_bipush (v := -2) hx dX7_copy_182 (by decide) ?_
                                  refine J_invV (As := [vI ((-2))]) (st := []) hx lk_X7_99 okX7_refuse dX7_copy_184 hT.o (by decide) rfl rfl rfl (Nat.le_of_ble_eq_true rfl) (Nat.zero_add _).symm (Nat.zero_add _).symm rfl (c_X7_refuseS hT hN hW (k := 0) (by decide) ?_)
                                  intro M1 hN1 hf1
                                  refine J_iret hx hr dX7_copy_187 ?_
                                  exact hQ.to (v := -((0 + 2 : Nat) : Int)) (S := rfS S 0) (by
                                    unfold a_copy
                                    (try simp only [Int.toNat_natCast] at *)
                                    ((repeat' split) <;> first | rfl | (exfalso; omega) | (congr 1; omega))) hN1 hf1
                  · refine J_aload_n hx dX7_copy_111 (i := 0) rfl rfl ?_
                    refine J_bipush (v := -4) hx dX7_copy_112 (by decide) ?_
                    refine J_invV (As := [vI ((-4))]) (st := []) hx lk_X7_99 okX7_refuse dX7_copy_114 hT.o (by decide) rfl rfl rfl (Nat.le_of_ble_eq_true rfl) (Nat.zero_add _).symm (Nat.zero_add _).symm rfl (c_X7_refuseS hT hN hW (k := 2) (by decide) ?_)
                    intro M1 hN1 hf1
                    refine J_iret hx hr dX7_copy_117 ?_
                    exact hQ.to (v := -((2 + 2 : Nat) : Int)) (S := rfS S 2) (by
                      unfold a_copy
                      (try simp only [Int.toNat_natCast] at *)
                      ((repeat' split) <;> first | rfl | (exfalso; omega) | (congr 1; omega))) hN1 hf1
              · refine J_aload_n hx dX7_copy_86 (i := 0) rfl rfl ?_
                refine J_bipush (v := -3) hx dX7_copy_87 (by decide) ?_
                refine J_invV (As := [vI ((-3))]) (st := []) hx lk_X7_99 okX7_refuse dX7_copy_89 hT.o (by decide) rfl rfl rfl (Nat.le_of_ble_eq_true rfl) (Nat.zero_add _).symm (Nat.zero_add _).symm rfl (c_X7_refuseS hT hN hW (k := 1) (by decide) ?_)
                intro M1 hN1 hf1
                refine J_iret hx hr dX7_copy_92 ?_
                exact hQ.to (v := -((1 + 2 : Nat) : Int)) (S := rfS S 1) (by
                  unfold a_copy
                  (try simp only [Int.toNat_natCast] at *)
                  ((repeat' split) <;> first | rfl | (exfalso; omega) | (congr 1; omega))) hN1 hf1
    · refine J_aload_n hx dX7_copy_24 (i := 0) rfl rfl ?_
      refine J_bipush (v := -2) hx dX7_copy_25 (by decide) ?_
      refine J_invV (As := [vI ((-2))]) (st := []) hx lk_X7_99 okX7_refuse dX7_copy_27 hT.o (by decide) rfl rfl rfl (Nat.le_of_ble_eq_true rfl) (Nat.zero_add _).symm (Nat.zero_add _).symm rfl (c_X7_refuseS hT hN hW (k := 0) (by decide) ?_)
      intro M1 hN1 hf1
      refine J_iret hx hr dX7_copy_30 ?_
      exact hQ.to (v := -((0 + 2 : Nat) : Int)) (S := rfS S 0) (by
        unfold a_copy
        (try simp only [Int.toNat_natCast] at *)
        ((repeat' split) <;> first | rfl | (exfalso; omega) | (congr 1; omega))) hN1 hf1

