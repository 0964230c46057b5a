/-! the reference's numbers -/
def shc (h : Int) : Int := if h = -1 then 0 else if h < 5 then 1 else 2
def RN (M : MM) (r : Nat) (S : ST) : Prop := MN M r S.1 ∧ (∀ s, s < 8 → M (r + 1) s = shc (S.sh s).1 ∧ (rowH (S.sh s).1 → M (r + 2) s = (S.sh s).1 ∧ M (r + 3) s = (S.sh s).2.1 ∧ ∀ j, j < 40 → M (r + 5 + s) j = (S.sh s).2.2 j) ∧ (10 ≤ (S.sh s).1 → M (r + 14) s = (S.sh s).1 - 10)) ∧ (M r 7 = ((S.tp.1 : Nat) : Int) ∧ ∀ j, j < S.tp.1 → M (r + 15) j = S.tp.2 j) ∧ ∀ j, j < 5 → M (r + 16) (j + 2) = S.rf j
theorem RN.y {M : MM} {r : Nat} {S : ST} (h : RN M r S) : MN M r S.1 := h.1
theorem RN.sc {M : MM} {r : Nat} {S : ST} (h : RN M r S) {s : Nat} (hs : s < 8) : M (r + 1) s = shc (S.sh s).1 := (h.2.1 s hs).1
theorem RN.so {M : MM} {r : Nat} {S : ST} (h : RN M r S) {s : Nat} (hs : s < 8) (hr : rowH (S.sh s).1) : M (r + 2) s = (S.sh s).1 := ((h.2.1 s hs).2.1 hr).1
theorem RN.sz {M : MM} {r : Nat} {S : ST} (h : RN M r S) {s : Nat} (hs : s < 8) (hr : rowH (S.sh s).1) : M (r + 3) s = (S.sh s).2.1 := ((h.2.1 s hs).2.1 hr).2.1
theorem RN.se {M : MM} {r : Nat} {S : ST} (h : RN M r S) {s j : Nat} (hs : s < 8) (hr : rowH (S.sh s).1) (hj : j < 40) : M (r + 5 + s) j = (S.sh s).2.2 j := ((h.2.1 s hs).2.1 hr).2.2 j hj
theorem RN.sp {M : MM} {r : Nat} {S : ST} (h : RN M r S) {s : Nat} (hs : s < 8) (hr : 10 ≤ (S.sh s).1) : M (r + 14) s = (S.sh s).1 - 10 := (h.2.1 s hs).2.2 hr
theorem RN.tz {M : MM} {r : Nat} {S : ST} (h : RN M r S) : M r 7 = ((S.tp.1 : Nat) : Int) := h.2.2.1.1
theorem RN.tb {M : MM} {r : Nat} {S : ST} (h : RN M r S) {j : Nat} (hj : j < S.tp.1) : M (r + 15) j = S.tp.2 j := h.2.2.1.2 j hj
theorem RN.rf {M : MM} {r : Nat} {S : ST} (h : RN M r S) {j : Nat} (hj : j < 5) : M (r + 16) (j + 2) = S.rf j := h.2.2.2 j hj
theorem RN.yard {M M' : MM} {r : Nat} {S : ST} {A : YA} (h : RN M r S) (hY : MN M' r A) (hF : FrN r M M') : RN M' r (yS S A) := by
  obtain ⟨h2, h4, ⟨h5, h6⟩, h7⟩ := h
  refine ⟨hY, fun s hs => ?_, ⟨by rw [hF _ _ (by omega) (by omega)]; exact h5, fun j hj => by rw [hF _ _ (by omega) (by omega)]; exact h6 j hj⟩, fun j hj => by rw [hF _ _ (by omega) (by omega)]; exact h7 j hj⟩
  obtain ⟨k1, k2, k3⟩ := h4 s hs
  refine ⟨by rw [hF _ _ (by omega) (by omega)]; exact k1, fun hr => ⟨by rw [hF _ _ (by omega) (by omega)]; exact (k2 hr).1, by rw [hF _ _ (by omega) (by omega)]; exact (k2 hr).2.1, fun j hj => by rw [hF _ _ (by omega) (by omega)]; exact (k2 hr).2.2 j hj⟩, fun hr => by rw [hF _ _ (by omega) (by omega)]; exact k3 hr⟩
/-- other rows are as they were: all that counts but what is told anew -/
theorem RN.refuse {M : MM} {r : Nat} {S : ST} (h : RN M r S) {k : Nat} (hk : k < 5) : RN (up2 M (r + 16) (k + 2) (M (r + 16) (k + 2) + 1)) r (rfS S k) := by
  obtain ⟨h2, h4, ⟨h5, h6⟩, h7⟩ := h
  refine ⟨h2.same (fun a j h8 => up2_ne (by omega)), fun s hs => ?_, ⟨by rw [up2_row (by omega)]; exact h5, fun j hj => by rw [up2_row (by omega)]; exact h6 j hj⟩, fun j hj => ?_⟩
  · rw [up2_row (by omega), up2_row (by omega), up2_row (by omega), up2_row (by omega), up2_row (by omega)]; exact h4 s hs
  · show _ = (if j = k then S.rf j + 1 else S.rf j)
    by_cases e : j = k
    · subst e; rw [if_pos rfl, up2_at, h7 j hj]
    · rw [if_neg e, up2_ne (Or.inr (by omega))]; exact h7 j hj
theorem RN.tape {M M' : MM} {r : Nat} {S : ST} {t : Nat × (Nat → Int)} (h : RN M r S) (h1 : M' r 7 = ((t.1 : Nat) : Int)) (h2 : ∀ j, j < t.1 → M' (r + 15) j = t.2 j) (hF : ∀ a j, ¬ (a = r ∧ j = 7) → a ≠ r + 15 → M' a j = M a j) : RN M' r (tpS S t) := by
  obtain ⟨k2, h4, ⟨h5, h6⟩, h7⟩ := h
  refine ⟨k2.same (fun a j h8 => hF a j (by omega) (by omega)), fun s hs => ?_, ⟨h1, h2⟩, fun j hj => by rw [hF _ _ (by omega) (by omega)]; exact h7 j hj⟩
  obtain ⟨k1, k2, k3⟩ := h4 s hs
  refine ⟨by rw [hF _ _ (by omega) (by omega)]; exact k1, fun hr => ⟨by rw [hF _ _ (by omega) (by omega)]; exact (k2 hr).1, by rw [hF _ _ (by omega) (by omega)]; exact (k2 hr).2.1, fun j hj => by rw [hF _ _ (by omega) (by omega)]; exact (k2 hr).2.2 j hj⟩, fun hr => by rw [hF _ _ (by omega) (by omega)]; exact k3 hr⟩
theorem RN.shelf {M M' : MM} {r s : Nat} {S : ST} {x : Int × Int × (Nat → Int)} (h : RN M r S) (hs : s < 8) (h1 : M' (r + 1) s = shc x.1) (h2 : rowH x.1 → M' (r + 2) s = x.1 ∧ M' (r + 3) s = x.2.1 ∧ ∀ j, j < 40 → M' (r + 5 + s) j = x.2.2 j) (h3 : 10 ≤ x.1 → M' (r + 14) s = x.1 - 10) (hF : ∀ a j, ¬ ((a = r + 1 ∨ a = r + 2 ∨ a = r + 3 ∨ a = r + 14) ∧ j = s) → a ≠ r + 5 + s → M' a j = M a j) : RN M' r (shS S s x) := by
  obtain ⟨k2, h4, ⟨h5, h6⟩, h7⟩ := h
  refine ⟨k2.same (fun a j h8 => hF a j (by omega) (by omega)), fun s' hs' => ?_, ⟨by rw [hF _ _ (by omega) (by omega)]; exact h5, fun j hj => by rw [hF _ _ (by omega) (by omega)]; exact h6 j hj⟩, fun j hj => by rw [hF _ _ (by omega) (by omega)]; exact h7 j hj⟩
  have ex : (shS S s x).sh s' = if s' = s then x else S.sh s' := rfl
  rw [ex]
  by_cases e : s' = s
  · subst e; rw [if_pos rfl]; exact ⟨h1, h2, h3⟩
  · rw [if_neg e]
    obtain ⟨k1, k2, k3⟩ := h4 s' hs'
    refine ⟨by rw [hF _ _ (by omega) (by omega)]; exact k1, fun hr => ⟨by rw [hF _ _ (by omega) (by omega)]; exact (k2 hr).1, by rw [hF _ _ (by omega) (by omega)]; exact (k2 hr).2.1, fun j hj => by rw [hF _ _ (by omega) (by omega)]; exact (k2 hr).2.2 j hj⟩, fun hr => by rw [hF _ _ (by omega) (by omega)]; exact k3 hr⟩
/-- what a call of the reference owes that makes no cell -/
def RQ (r : Nat) (T : TT) (M : MM) (sz : Nat) (Q : MVal → TT → MM → Nat → Prop) (a : Int × ST) : Prop := ∀ M', RN M' r a.2 → (∀ b, (b < r ∨ r + 29 ≤ b) → M' b = M b) → Q (vI a.1) T M' sz
theorem RQ.same {r : Nat} {T : TT} {M : MM} {sz : Nat} {Q : MVal → TT → MM → Nat → Prop} {a : Int × ST} {v : Int} {S : ST} (h : RQ r T M sz Q a) (e : a = (v, S)) (hN : RN M r S) : Q (vI v) T M sz := by
  subst e; exact h M hN (fun _ _ => rfl)
theorem RQ.to {r : Nat} {T : TT} {M M' : MM} {sz : Nat} {Q : MVal → TT → MM → Nat → Prop} {a : Int × ST} {v : Int} {S : ST} (h : RQ r T M sz Q a) (e : a = (v, S)) (hN : RN M' r S) (hF : ∀ b, (b < r ∨ r + 29 ≤ b) → M' b = M b) : Q (vI v) T M' sz := by
  subst e; exact h M' hN hF
theorem c_X7_refuseS {g : WG} {d : Nat} {T : TT} {M : MM} {r sz : Nat} {S : ST} {Q : MVal → TT → MM → Nat → Prop} (hT : MT T r) (hN : RN M r S) (hW : WFS S) {k : Nat} (hk : k < 5) (hQ : ∀ M', RN M' r (rfS S k) → (∀ b, (b < r ∨ r + 29 ≤ b) → M' b = M b) → Q (vI (-((k + 2 : Nat) : Int))) T M' sz) : Ct g (d + 1) mX7_refuse [vR r, vI (-((k + 2 : Nat) : Int))] T M sz 0 0 Q :=
  c_X7_refuse hT (k := k + 2) (by omega) (by rw [hN.rf hk]; exact hW.r hk) (hQ _ (hN.refuse hk) (fun b hb => up2_row (by omega)))

set_option maxHeartbeats 4000000 in
theorem c_X7_won {g : WG} {d : Nat} {T : TT} {M : MM} {r sz : Nat} {S : ST} {Q : MVal → TT → MM → Nat → Prop} (hT : MT T r) (hN : RN M r S) (hW : WFS S)  (hQ : RQ r T M sz Q (a_won S)) : Ct g (d + 4) mX7_won [vR (r)] T M sz 0 0 Q := by
  refine Ct_of2 (ls := [vR (r)]) okX7_won rfl (Nat.le_of_ble_eq_true rfl) rfl ?_
  intro x hx hr hnm
  have hn8 := hW.y.n8
  have ht2 := hW.y.tn2
  have hl8 := hW.y.len8 ht2
  have htz := hW.t
  refine J_aload_n hx dX7_won_0 (i := 0) rfl rfl ?_
  refine J_invV (As := []) (st := []) hx lk_X7_277 okX7_wonNow dX7_won_1 hT.o (by decide) rfl rfl rfl (Nat.le_of_ble_eq_true rfl) (Nat.zero_add _).symm (Nat.zero_add _).symm rfl (c_X7_wonNow hT hN.y hW.y  ?_)
  intro v1 hv1
  refine J_iret hx hr dX7_won_4 ?_
  exact hQ.same (v := v1) (S := S) (by
    unfold a_won
    all_goals (try unfold overY at *)
    all_goals (try unfold mayQ at *)
    all_goals (try simp only [Int.toNat_natCast] at *)
    all_goals ((repeat' split) <;> first | rfl | (exfalso; omega) | (congr 1; omega))) hN

set_option maxHeartbeats 4000000 in
theorem c_X7_over {g : WG} {d : Nat} {T : TT} {M : MM} {r sz : Nat} {S : ST} {Q : MVal → TT → MM → Nat → Prop} (hT : MT T r) (hN : RN M r S) (hW : WFS S)  (hQ : RQ r T M sz Q (a_over S)) : Ct g (d + 2) mX7_over [vR (r)] T M sz 0 0 Q := by
  refine Ct_of2 (ls := [vR (r)]) okX7_over rfl (Nat.le_of_ble_eq_true rfl) rfl ?_
  intro x hx hr hnm
  have hn8 := hW.y.n8
  have ht2 := hW.y.tn2
  have hl8 := hW.y.len8 ht2
  have htz := hW.t
  refine J_aload_n hx dX7_over_0 (i := 0) rfl rfl ?_
  refine J_invV (As := []) (st := []) hx lk_X7_208 okX7_isOver dX7_over_1 hT.o (by decide) rfl rfl rfl (Nat.le_of_ble_eq_true rfl) (Nat.zero_add _).symm (Nat.zero_add _).symm rfl (c_X7_isOver hT hN.y hW.y  ?_)
  intro v1 hv1
  refine J_if_eq (tgt := 11) hx dX7_over_4 (by decide) (fun c2 => ?_) (fun c2 => ?_)
  · refine J_iconst (v := 0) hx dX7_over_11 (by decide) ?_
    refine J_iret hx hr dX7_over_12 ?_
    exact hQ.same (v := 0) (S := S) (by
      unfold a_over
      all_goals (try unfold overY at *)
      all_goals (try unfold mayQ at *)
      all_goals (try simp only [Int.toNat_natCast] at *)
      all_goals ((repeat' split) <;> first | rfl | (exfalso; omega) | (congr 1; omega))) hN
  · refine J_iconst (v := 1) hx dX7_over_7 (by decide) ?_
    refine J_goto (tgt := 12) hx dX7_over_8 (by decide) ?_
    refine J_iret hx hr dX7_over_12 ?_
    exact hQ.same (v := 1) (S := S) (by
      unfold a_over
      all_goals (try unfold overY at *)
      all_goals (try unfold mayQ at *)
      all_goals (try simp only [Int.toNat_natCast] at *)
      all_goals ((repeat' split) <;> first | rfl | (exfalso; omega) | (congr 1; omega))) hN

set_option maxHeartbeats 4000000 in
theorem c_X7_take {g : WG} {d : Nat} {T : TT} {M : MM} {r sz : Nat} {S : ST} {Q : MVal → TT → MM → Nat → Prop} (hT : MT T r) (hN : RN M r S) (hW : WFS S) {j : Int} (h_j : -2147483648 ≤ j ∧ j ≤ 2147483647) (hQ : RQ r T M sz Q (a_take S j)) : Ct g (d + 3) mX7_take [vR (r), vI (j)] T M sz 0 0 Q := by
  refine Ct_of2 (ls := [vR (r), vI (j)]) okX7_take rfl (Nat.le_of_ble_eq_true rfl) rfl ?_
  intro x hx hr hnm
  have hn8 := hW.y.n8
  have ht2 := hW.y.tn2
  have hl8 := hW.y.len8 ht2
  have htz := hW.t
  refine J_aload_n hx dX7_take_0 (i := 0) rfl rfl ?_
  refine J_aload_n hx dX7_take_1 (i := 0) rfl rfl ?_
  refine J_getI2 (v := ((S.1.tn : Nat) : Int)) hx fl_X7_148 cl_X7 dX7_take_2 hT.o (by decide) rfl (hN.y.tn hW.y) ?_
  have rg1 := hW.y.tn2
  refine J_iload_n hx dX7_take_5 (i := 1) rfl rfl ?_
  refine J_invV (As := [vI (((S.1.tn : Nat) : Int)), vI (j)]) (st := []) hx lk_X7_263 okX7_isJoint dX7_take_6 hT.o (by decide) rfl rfl rfl (Nat.le_of_ble_eq_true rfl) (Nat.zero_add _).symm (Nat.zero_add _).symm rfl (c_X7_isJoint hT hN.y hW.y (c := S.1.tn) (by omega) (k := j) ?_)
  intro v2 hv2
  refine J_if_eq (tgt := 20) hx dX7_take_9 (by decide) (fun c3 => ?_) (fun c3 => ?_)
  · refine J_aload_n hx dX7_take_20 (i := 0) rfl rfl ?_
    refine J_bipush (v := -2) hx dX7_take_21 (by decide) ?_
    refine J_invV (As := [vI ((-2))]) (st := []) hx lk_X7_99 okX7_refuse dX7_take_23 hT.o (by decide) rfl rfl rfl (Nat.le_of_ble_eq_true rfl) (Nat.zero_add _).symm (Nat.zero_add _).symm rfl (c_X7_refuseS hT hN hW (k := 0) (by decide) ?_)
    intro M1 hN1 hf1
    refine J_iret hx hr dX7_take_26 ?_
    exact hQ.to (v := -((0 + 2 : Nat) : Int)) (S := rfS S 0) (by
      unfold a_take
      all_goals (try unfold overY at *)
      all_goals (try unfold mayQ at *)
      all_goals (try simp only [Int.toNat_natCast] at *)
      all_goals ((repeat' split) <;> first | rfl | (exfalso; omega) | (congr 1; omega))) hN1 hf1
  · obtain ⟨jN, rfl⟩ : ∃ z : Nat, j = ((z : Nat) : Int) := ⟨j.toNat, by omega⟩
    refine J_aload_n hx dX7_take_12 (i := 0) rfl rfl ?_
    refine J_iload_n hx dX7_take_13 (i := 1) rfl rfl ?_
    refine J_invV (As := [vI (((jN : Nat) : Int))]) (st := []) hx lk_X7_283 okX7_takeAt dX7_take_14 hT.o (by decide) rfl rfl rfl (Nat.le_of_ble_eq_true rfl) (Nat.zero_add _).symm (Nat.zero_add _).symm rfl (c_X7_takeAt hT hN.y hW.y (j := jN) (by omega) ?_)
    have rg4 := sidY_lt S.1 jN
    refine J_goto (tgt := 26) hx dX7_take_17 (by decide) ?_
    refine J_iret hx hr dX7_take_26 ?_
    exact hQ.same (v := ((sidY S.1 jN : Nat) : Int)) (S := S) (by
      unfold a_take
      all_goals (try unfold overY at *)
      all_goals (try unfold mayQ at *)
      all_goals (try simp only [Int.toNat_natCast] at *)
      all_goals ((repeat' split) <;> first | rfl | (exfalso; omega) | (congr 1; omega))) hN

set_option maxHeartbeats 4000000 in
theorem c_X7_odds {g : WG} {d : Nat} {T : TT} {M : MM} {r sz : Nat} {S : ST} {Q : MVal → TT → MM → Nat → Prop} (hT : MT T r) (hN : RN M r S) (hW : WFS S) {p j : Int} (h_p : -2147483648 ≤ p ∧ p ≤ 2147483647) (h_j : -2147483648 ≤ j ∧ j ≤ 2147483647) (hQ : RQ r T M sz Q (a_odds S p j)) : Ct g (d + 5) mX7_odds [vR (r), vI (p), vI (j)] T M sz 0 0 Q := by
  refine Ct_of2 (ls := [vR (r), vI (p), vI (j)]) okX7_odds rfl (Nat.le_of_ble_eq_true rfl) rfl ?_
  intro x hx hr hnm
  have hn8 := hW.y.n8
  have ht2 := hW.y.tn2
  have hl8 := hW.y.len8 ht2
  have htz := hW.t
  refine J_aload_n hx dX7_odds_0 (i := 0) rfl rfl ?_
  refine J_iload_n hx dX7_odds_1 (i := 1) rfl rfl ?_
  refine J_invV (As := [vI (p)]) (st := []) hx lk_X7_109 okX7_isOne dX7_odds_2 hT.o (by decide) rfl rfl rfl (Nat.le_of_ble_eq_true rfl) (Nat.zero_add _).symm (Nat.zero_add _).symm rfl (c_X7_isOne hT hN.y hW.y (one := p) (by omega) ?_)
  intro v1 hv1
  refine J_if_eq (tgt := 20) hx dX7_odds_5 (by decide) (fun c2 => ?_) (fun c2 => ?_)
  · refine J_aload_n hx dX7_odds_20 (i := 0) rfl rfl ?_
    refine J_bipush (v := -2) hx dX7_odds_21 (by decide) ?_
    refine J_invV (As := [vI ((-2))]) (st := []) hx lk_X7_99 okX7_refuse dX7_odds_23 hT.o (by decide) rfl rfl rfl (Nat.le_of_ble_eq_true rfl) (Nat.zero_add _).symm (Nat.zero_add _).symm rfl (c_X7_refuseS hT hN hW (k := 0) (by decide) ?_)
    intro M1 hN1 hf1
    refine J_iret hx hr dX7_odds_26 ?_
    exact hQ.to (v := -((0 + 2 : Nat) : Int)) (S := rfS S 0) (by
      unfold a_odds
      all_goals (try unfold overY at *)
      all_goals (try unfold mayQ at *)
      all_goals (try simp only [Int.toNat_natCast] at *)
      all_goals ((repeat' split) <;> first | rfl | (exfalso; omega) | (congr 1; omega))) hN1 hf1
  · refine J_aload_n hx dX7_odds_8 (i := 0) rfl rfl ?_
    refine J_aload_n hx dX7_odds_9 (i := 0) rfl rfl ?_
    refine J_getI2 (v := ((S.1.tn : Nat) : Int)) hx fl_X7_148 cl_X7 dX7_odds_10 hT.o (by decide) rfl (hN.y.tn hW.y) ?_
    have rg3 := hW.y.tn2
    refine J_iload_n hx dX7_odds_13 (i := 2) rfl rfl ?_
    refine J_invV (As := [vI (((S.1.tn : Nat) : Int)), vI (j)]) (st := []) hx lk_X7_263 okX7_isJoint dX7_odds_14 hT.o (by decide) rfl rfl rfl (Nat.le_of_ble_eq_true rfl) (Nat.zero_add _).symm (Nat.zero_add _).symm rfl (c_X7_isJoint hT hN.y hW.y (c := S.1.tn) (by omega) (k := j) ?_)
    intro v4 hv4
    refine J_if_ne (tgt := 27) hx dX7_odds_17 (by decide) (fun c5 => ?_) (fun c5 => ?_)
    · obtain ⟨pN, rfl⟩ : ∃ z : Nat, p = ((z : Nat) : Int) := ⟨p.toNat, by omega⟩
      refine J_aload_n hx dX7_odds_27 (i := 0) rfl rfl ?_
      refine J_iload_n hx dX7_odds_28 (i := 1) rfl rfl ?_
      refine J_invV (As := [vI (((pN : Nat) : Int))]) (st := []) hx lk_X7_119 okX7_chainAt dX7_odds_29 hT.o (by decide) rfl rfl rfl (Nat.le_of_ble_eq_true rfl) (Nat.zero_add _).symm (Nat.zero_add _).symm rfl (c_X7_chainAt hT hN.y hW.y (p := pN) (by omega) ?_)
      have rg6 := S.1.co2 pN
      refine J_aload_n hx dX7_odds_32 (i := 0) rfl rfl ?_
      refine J_getI2 (v := ((S.1.tn : Nat) : Int)) hx fl_X7_148 cl_X7 dX7_odds_33 hT.o (by decide) rfl (hN.y.tn hW.y) ?_
      have rg7 := hW.y.tn2
      refine J_icmp_ne (tgt := 48) hx dX7_odds_36 (by decide) (fun c8 => ?_) (fun c8 => ?_)
      · obtain ⟨jN, rfl⟩ : ∃ z : Nat, j = ((z : Nat) : Int) := ⟨j.toNat, by omega⟩
        refine J_aload_n hx dX7_odds_48 (i := 0) rfl rfl ?_
        refine J_iload_n hx dX7_odds_49 (i := 1) rfl rfl ?_
        refine J_iload_n hx dX7_odds_50 (i := 2) rfl rfl ?_
        refine J_invV (As := [vI (((pN : Nat) : Int)), vI (((jN : Nat) : Int))]) (st := []) hx lk_X7_211 okX7_oddsOf dX7_odds_51 hT.o (by decide) rfl rfl rfl (Nat.le_of_ble_eq_true rfl) (Nat.zero_add _).symm (Nat.zero_add _).symm rfl (c_X7_oddsOf hT hN.y hW.y (p := pN) (by omega) (j := jN) (by omega) ?_)
        have rg9 : 0 ≤ oddsY S.1 pN jN ∧ oddsY S.1 pN jN ≤ 1000000 := oddsB_rg hW.y _ _
        refine J_iret hx hr dX7_odds_54 ?_
        exact hQ.same (v := oddsY S.1 pN jN) (S := S) (by
          unfold a_odds
          all_goals (try unfold overY at *)
          all_goals (try unfold mayQ at *)
          all_goals (try simp only [Int.toNat_natCast] at *)
          all_goals ((repeat' split) <;> first | rfl | (exfalso; omega) | (congr 1; omega))) hN
      · refine J_aload_n hx dX7_odds_39 (i := 0) rfl rfl ?_
        refine J_bipush (v := -5) hx dX7_odds_40 (by decide) ?_
        refine J_invV (As := [vI ((-5))]) (st := []) hx lk_X7_99 okX7_refuse dX7_odds_42 hT.o (by decide) rfl rfl rfl (Nat.le_of_ble_eq_true rfl) (Nat.zero_add _).symm (Nat.zero_add _).symm rfl (c_X7_refuseS hT hN hW (k := 3) (by decide) ?_)
        intro M1 hN1 hf1
        refine J_goto (tgt := 54) hx dX7_odds_45 (by decide) ?_
        refine J_iret hx hr dX7_odds_54 ?_
        exact hQ.to (v := -((3 + 2 : Nat) : Int)) (S := rfS S 3) (by
          unfold a_odds
          all_goals (try unfold overY at *)
          all_goals (try unfold mayQ at *)
          all_goals (try simp only [Int.toNat_natCast] at *)
          all_goals ((repeat' split) <;> first | rfl | (exfalso; omega) | (congr 1; omega))) hN1 hf1
    · refine J_aload_n hx dX7_odds_20 (i := 0) rfl rfl ?_
      refine J_bipush (v := -2) hx dX7_odds_21 (by decide) ?_
      refine J_invV (As := [vI ((-2))]) (st := []) hx lk_X7_99 okX7_refuse dX7_odds_23 hT.o (by decide) rfl rfl rfl (Nat.le_of_ble_eq_true rfl) (Nat.zero_add _).symm (Nat.zero_add _).symm rfl (c_X7_refuseS hT hN hW (k := 0) (by decide) ?_)
      intro M1 hN1 hf1
      refine J_iret hx hr dX7_odds_26 ?_
      exact hQ.to (v := -((0 + 2 : Nat) : Int)) (S := rfS S 0) (by
        unfold a_odds
        all_goals (try unfold overY at *)
        all_goals (try unfold mayQ at *)
        all_goals (try simp only [Int.toNat_natCast] at *)
        all_goals ((repeat' split) <;> first | rfl | (exfalso; omega) | (congr 1; omega))) hN1 hf1

set_option maxHeartbeats 4000000 in
theorem c_X7_spreadFor {g : WG} {d : Nat} {T : TT} {M : MM} {r sz : Nat} {S : ST} {Q : MVal → TT → MM → Nat → Prop} (hT : MT T r) (hN : RN M r S) (hW : WFS S) {p j : Int} (h_p : -2147483648 ≤ p ∧ p ≤ 2147483647) (h_j : -2147483648 ≤ j ∧ j ≤ 2147483647) (hQ : RQ r T M sz Q (a_spreadFor S p j)) : Ct g (d + 5) mX7_spreadFor [vR (r), vI (p), vI (j)] T M sz 0 0 Q := by
  refine Ct_of2 (ls := [vR (r), vI (p), vI (j), vU, vU]) okX7_spreadFor rfl (Nat.le_of_ble_eq_true rfl) rfl ?_
  intro x hx hr hnm
  have hn8 := hW.y.n8
  have ht2 := hW.y.tn2
  have hl8 := hW.y.len8 ht2
  have htz := hW.t
  refine J_aload_n hx dX7_spreadFor_0 (i := 0) rfl rfl ?_
  refine J_iload_n hx dX7_spreadFor_1 (i := 1) rfl rfl ?_
  refine J_invV (As := [vI (p)]) (st := []) hx lk_X7_109 okX7_isOne dX7_spreadFor_2 hT.o (by decide) rfl rfl rfl (Nat.le_of_ble_eq_true rfl) (Nat.zero_add _).symm (Nat.zero_add _).symm rfl (c_X7_isOne hT hN.y hW.y (one := p) (by omega) ?_)
  intro v1 hv1
  refine J_if_eq (tgt := 20) hx dX7_spreadFor_5 (by decide) (fun c2 => ?_) (fun c2 => ?_)
  · refine J_aload_n hx dX7_spreadFor_20 (i := 0) rfl rfl ?_
    refine J_bipush (v := -2) hx dX7_spreadFor_21 (by decide) ?_
    refine J_invV (As := [vI ((-2))]) (st := []) hx lk_X7_99 okX7_refuse dX7_spreadFor_23 hT.o (by decide) rfl rfl rfl (Nat.le_of_ble_eq_true rfl) (Nat.zero_add _).symm (Nat.zero_add _).symm rfl (c_X7_refuseS hT hN hW (k := 0) (by decide) ?_)
    intro M1 hN1 hf1
    refine J_iret hx hr dX7_spreadFor_26 ?_
    exact hQ.to (v := -((0 + 2 : Nat) : Int)) (S := rfS S 0) (by
      unfold a_spreadFor
      all_goals (try unfold overY at *)
      all_goals (try unfold mayQ at *)
      all_goals (try simp only [Int.toNat_natCast] at *)
      all_goals ((repeat' split) <;> first | rfl | (exfalso; omega) | (congr 1; omega))) hN1 hf1
  · refine J_aload_n hx dX7_spreadFor_8 (i := 0) rfl rfl ?_
    refine J_aload_n hx dX7_spreadFor_9 (i := 0) rfl rfl ?_
    refine J_getI2 (v := ((S.1.tn : Nat) : Int)) hx fl_X7_148 cl_X7 dX7_spreadFor_10 hT.o (by decide) rfl (hN.y.tn hW.y) ?_
    have rg3 := hW.y.tn2
    refine J_iload_n hx dX7_spreadFor_13 (i := 2) rfl rfl ?_
    refine J_invV (As := [vI (((S.1.tn : Nat) : Int)), vI (j)]) (st := []) hx lk_X7_263 okX7_isJoint dX7_spreadFor_14 hT.o (by decide) rfl rfl rfl (Nat.le_of_ble_eq_true rfl) (Nat.zero_add _).symm (Nat.zero_add _).symm rfl (c_X7_isJoint hT hN.y hW.y (c := S.1.tn) (by omega) (k := j) ?_)
    intro v4 hv4
    refine J_if_ne (tgt := 27) hx dX7_spreadFor_17 (by decide) (fun c5 => ?_) (fun c5 => ?_)
    · obtain ⟨pN, rfl⟩ : ∃ z : Nat, p = ((z : Nat) : Int) := ⟨p.toNat, by omega⟩
      refine J_aload_n hx dX7_spreadFor_27 (i := 0) rfl rfl ?_
      refine J_iload_n hx dX7_spreadFor_28 (i := 1) rfl rfl ?_
      refine J_invV (As := [vI (((pN : Nat) : Int))]) (st := []) hx lk_X7_119 okX7_chainAt dX7_spreadFor_29 hT.o (by decide) rfl rfl rfl (Nat.le_of_ble_eq_true rfl) (Nat.zero_add _).symm (Nat.zero_add _).symm rfl (c_X7_chainAt hT hN.y hW.y (p := pN) (by omega) ?_)
      have rg6 := S.1.co2 pN
      refine J_aload_n hx dX7_spreadFor_32 (i := 0) rfl rfl ?_
      refine J_getI2 (v := ((S.1.tn : Nat) : Int)) hx fl_X7_148 cl_X7 dX7_spreadFor_33 hT.o (by decide) rfl (hN.y.tn hW.y) ?_
      have rg7 := hW.y.tn2
      refine J_icmp_ne (tgt := 46) hx dX7_spreadFor_36 (by decide) (fun c8 => ?_) (fun c8 => ?_)
      · obtain ⟨jN, rfl⟩ : ∃ z : Nat, j = ((z : Nat) : Int) := ⟨j.toNat, by omega⟩
        refine J_aload_n hx dX7_spreadFor_46 (i := 0) rfl rfl ?_
        refine J_aload_n hx dX7_spreadFor_47 (i := 0) rfl rfl ?_
        refine J_getR (b := r + 22) hx fl_X7_54 cl_X7 dX7_spreadFor_48 hT.o (by decide) rfl hT.r15 ?_
        refine J_aload_n hx dX7_spreadFor_51 (i := 0) rfl rfl ?_
        refine J_getI2 (v := ((S.1.tn : Nat) : Int)) hx fl_X7_148 cl_X7 dX7_spreadFor_52 hT.o (by decide) rfl (hN.y.tn hW.y) ?_
        have rg9 := hW.y.tn2
        refine J_aald (b := r + 23 + S.1.tn) hx S.1.tn dX7_spreadFor_55 hT.k22 (by decide) (by omega) (hT.l22 (by omega)) (hT.f22 (by omega)) ?_
        refine J_aload_n hx dX7_spreadFor_56 (i := 0) rfl rfl ?_
        refine J_getR (b := r + 25) hx fl_X7_57 cl_X7 dX7_spreadFor_57 hT.o (by decide) rfl hT.r16 ?_
        refine J_aload_n hx dX7_spreadFor_60 (i := 0) rfl rfl ?_
        refine J_getI2 (v := ((S.1.tn : Nat) : Int)) hx fl_X7_148 cl_X7 dX7_spreadFor_61 hT.o (by decide) rfl (hN.y.tn hW.y) ?_
        have rg10 := hW.y.tn2
        refine J_iald2 (v := (((S.1.ch S.1.tn).length : Nat) : Int)) hx S.1.tn dX7_spreadFor_64 hT.k25 (by omega) (hT.l25 (by omega)) (hN.y.sz (by omega)) ?_
        have rg11 := hW.y.len8 (c := S.1.tn) (by omega)
        have rg12 := hW.y.lenN (c := S.1.tn) (by omega)
        refine J_iload_n hx dX7_spreadFor_65 (i := 2) rfl rfl ?_
        refine J_invV (As := [vR (r + 23 + S.1.tn), vI ((((S.1.ch S.1.tn).length : Nat) : Int)), vI (((jN : Nat) : Int))]) (st := []) hx lk_X7_266 okX7_strengthOf dX7_spreadFor_66 hT.o (by decide) rfl rfl rfl (Nat.le_of_ble_eq_true rfl) (Nat.zero_add _).symm (Nat.zero_add _).symm rfl (c_X7_strengthOf hT hN.y hW.y (l := S.1.ch S.1.tn) (q := r + 23 + S.1.tn) (hT.kl (by omega)) (hT.nl (by omega)) (fun k9 h9 => hN.y.ln (by omega) h9) (fun p9 h9 => hW.y.lt (by omega) h9) (by omega) (j := jN) (by omega) ?_)
        have rg13 := strl_rg hW.y (l := S.1.ch S.1.tn) (fun p9 h9 => hW.y.lt (by omega) h9) (j := jN) (by omega)
        refine J_aload_n hx dX7_spreadFor_69 (i := 0) rfl rfl ?_
        refine J_iload_n hx dX7_spreadFor_70 (i := 1) rfl rfl ?_
        refine J_invV (As := [vI (((pN : Nat) : Int))]) (st := [vI (strl S.1 (S.1.ch S.1.tn) jN)]) hx lk_X7_126 okX7_force dX7_spreadFor_71 hT.o (by decide) rfl rfl rfl (Nat.le_of_ble_eq_true rfl) (Nat.zero_add _).symm (Nat.zero_add _).symm rfl (c_X7_force hT hN.y hW.y (p := pN) (by omega) ?_)
        have rg14 := force_rg hW.y (p := pN) (by omega)
        refine J_isub (v := strl S.1 (S.1.ch S.1.tn) jN - (force S.1 pN)) hx dX7_spreadFor_74 (w32_id (by omega) (by omega)) ?_
        refine J_istore_n (lsn := [vR (r), vI (((pN : Nat) : Int)), vI (((jN : Nat) : Int)), vI (strl S.1 (S.1.ch S.1.tn) jN - (force S.1 pN)), vU]) hx dX7_spreadFor_75 (i := 3) rfl (Nat.le_of_ble_eq_true rfl) rfl rfl ?_
        refine J_iload_n hx dX7_spreadFor_76 (i := 3) rfl rfl ?_
        refine J_if_ge (tgt := 84) hx dX7_spreadFor_77 (by decide) (fun c15 => ?_) (fun c15 => ?_)
        · refine J_iload_n hx dX7_spreadFor_84 (i := 3) rfl rfl ?_
          refine J_iconst (v := 2) hx dX7_spreadFor_85 (by decide) ?_
          refine J_iadd (v := strl S.1 (S.1.ch S.1.tn) jN - (force S.1 pN) + 2) hx dX7_spreadFor_86 (w32_id (by omega) (by omega)) ?_
          refine J_istore (lsn := [vR (r), vI (((pN : Nat) : Int)), vI (((jN : Nat) : Int)), vI (strl S.1 (S.1.ch S.1.tn) jN - (force S.1 pN)), vI (strl S.1 (S.1.ch S.1.tn) jN - (force S.1 pN) + 2)]) hx dX7_spreadFor_87 (Nat.le_of_ble_eq_true rfl) rfl rfl ?_
          refine J_iload hx dX7_spreadFor_89 rfl ?_
          refine J_bipush (v := 10) hx dX7_spreadFor_91 (by decide) ?_
          refine J_icmp_gt (tgt := 101) hx dX7_spreadFor_93 (by decide) (fun c16 => ?_) (fun c16 => ?_)
          · refine J_iconst (v := -1) hx dX7_spreadFor_101 (by decide) ?_
            refine J_iret hx hr dX7_spreadFor_102 ?_
            exact hQ.same (v := (-1)) (S := S) (by
              unfold a_spreadFor
              all_goals (try unfold overY at *)
              all_goals (try unfold mayQ at *)
              all_goals (try simp only [Int.toNat_natCast] at *)
              all_goals ((repeat' split) <;> first | rfl | (exfalso; omega) | (congr 1; omega))) hN
          · refine J_iload hx dX7_spreadFor_96 rfl ?_
            refine J_goto (tgt := 102) hx dX7_spreadFor_98 (by decide) ?_
            refine J_iret hx hr dX7_spreadFor_102 ?_
            exact hQ.same (v := strl S.1 (S.1.ch S.1.tn) jN - (force S.1 pN) + 2) (S := S) (by
              unfold a_spreadFor
              all_goals (try unfold overY at *)
              all_goals (try unfold mayQ at *)
              all_goals (try simp only [Int.toNat_natCast] at *)
              all_goals ((repeat' split) <;> first | rfl | (exfalso; omega) | (congr 1; omega))) hN
        · refine J_iconst (v := 1) hx dX7_spreadFor_80 (by decide) ?_
          refine J_goto (tgt := 87) hx dX7_spreadFor_81 (by decide) ?_
          refine J_istore (lsn := [vR (r), vI (((pN : Nat) : Int)), vI (((jN : Nat) : Int)), vI (strl S.1 (S.1.ch S.1.tn) jN - (force S.1 pN)), vI (1)]) hx dX7_spreadFor_87 (Nat.le_of_ble_eq_true rfl) rfl rfl ?_
          refine J_iload hx dX7_spreadFor_89 rfl ?_
          refine J_bipush (v := 10) hx dX7_spreadFor_91 (by decide) ?_
          refine J_icmp_gt (tgt := 101) hx dX7_spreadFor_93 (by decide) (fun c9 => absurd c9 (by decide)) (fun _ => ?_)
          refine J_iload hx dX7_spreadFor_96 rfl ?_
          refine J_goto (tgt := 102) hx dX7_spreadFor_98 (by decide) ?_
          refine J_iret hx hr dX7_spreadFor_102 ?_
          exact hQ.same (v := 1) (S := S) (by
            unfold a_spreadFor
            all_goals (try unfold overY at *)
            all_goals (try unfold mayQ at *)
            all_goals (try simp only [Int.toNat_natCast] at *)
            all_goals ((repeat' split) <;> first | rfl | (exfalso; omega) | (congr 1; omega))) hN
      · refine J_aload_n hx dX7_spreadFor_39 (i := 0) rfl rfl ?_
        refine J_bipush (v := -5) hx dX7_spreadFor_40 (by decide) ?_
        refine J_invV (As := [vI ((-5))]) (st := []) hx lk_X7_99 okX7_refuse dX7_spreadFor_42 hT.o (by decide) rfl rfl rfl (Nat.le_of_ble_eq_true rfl) (Nat.zero_add _).symm (Nat.zero_add _).symm rfl (c_X7_refuseS hT hN hW (k := 3) (by decide) ?_)
        intro M1 hN1 hf1
        refine J_iret hx hr dX7_spreadFor_45 ?_
        exact hQ.to (v := -((3 + 2 : Nat) : Int)) (S := rfS S 3) (by
          unfold a_spreadFor
          all_goals (try unfold overY at *)
          all_goals (try unfold mayQ at *)
          all_goals (try simp only [Int.toNat_natCast] at *)
          all_goals ((repeat' split) <;> first | rfl | (exfalso; omega) | (congr 1; omega))) hN1 hf1
    · refine J_aload_n hx dX7_spreadFor_20 (i := 0) rfl rfl ?_
      refine J_bipush (v := -2) hx dX7_spreadFor_21 (by decide) ?_
      refine J_invV (As := [vI ((-2))]) (st := []) hx lk_X7_99 okX7_refuse dX7_spreadFor_23 hT.o (by decide) rfl rfl rfl (Nat.le_of_ble_eq_true rfl) (Nat.zero_add _).symm (Nat.zero_add _).symm rfl (c_X7_refuseS hT hN hW (k := 0) (by decide) ?_)
      intro M1 hN1 hf1
      refine J_iret hx hr dX7_spreadFor_26 ?_
      exact hQ.to (v := -((0 + 2 : Nat) : Int)) (S := rfS S 0) (by
        unfold a_spreadFor
        all_goals (try unfold overY at *)
        all_goals (try unfold mayQ at *)
        all_goals (try simp only [Int.toNat_natCast] at *)
        all_goals ((repeat' split) <;> first | rfl | (exfalso; omega) | (congr 1; omega))) hN1 hf1

set_option maxHeartbeats 4000000 in
theorem c_X7_at {g : WG} {d : Nat} {T : TT} {M : MM} {r sz : Nat} {S : ST} {Q : MVal → TT → MM → Nat → Prop} (hT : MT T r) (hN : RN M r S) (hW : WFS S) {p : Int} (h_p : -2147483648 ≤ p ∧ p ≤ 2147483647) (hQ : RQ r T M sz Q (a_at S p)) : Ct g (d + 6) mX7_at [vR (r), vI (p)] T M sz 0 0 Q := by
  refine Ct_of2 (ls := [vR (r), vI (p)]) okX7_at rfl (Nat.le_of_ble_eq_true rfl) rfl ?_
  intro x hx hr hnm
  have hn8 := hW.y.n8
  have ht2 := hW.y.tn2
  have hl8 := hW.y.len8 ht2
  have htz := hW.t
  refine J_aload_n hx dX7_at_0 (i := 0) rfl rfl ?_
  refine J_iload_n hx dX7_at_1 (i := 1) rfl rfl ?_
  refine J_invV (As := [vI (p)]) (st := []) hx lk_X7_109 okX7_isOne dX7_at_2 hT.o (by decide) rfl rfl rfl (Nat.le_of_ble_eq_true rfl) (Nat.zero_add _).symm (Nat.zero_add _).symm rfl (c_X7_isOne hT hN.y hW.y (one := p) (by omega) ?_)
  intro v1 hv1
  refine J_if_ne (tgt := 15) hx dX7_at_5 (by decide) (fun c2 => ?_) (fun c2 => ?_)
  · obtain ⟨pN, rfl⟩ : ∃ z : Nat, p = ((z : Nat) : Int) := ⟨p.toNat, by omega⟩
    refine J_aload_n hx dX7_at_15 (i := 0) rfl rfl ?_
    refine J_iload_n hx dX7_at_16 (i := 1) rfl rfl ?_
    refine J_invV (As := [vI (((pN : Nat) : Int))]) (st := []) hx lk_X7_119 okX7_chainAt dX7_at_17 hT.o (by decide) rfl rfl rfl (Nat.le_of_ble_eq_true rfl) (Nat.zero_add _).symm (Nat.zero_add _).symm rfl (c_X7_chainAt hT hN.y hW.y (p := pN) (by omega) ?_)
    have rg3 := S.1.co2 pN
    refine J_aload_n hx dX7_at_20 (i := 0) rfl rfl ?_
    refine J_getI2 (v := ((S.1.tn : Nat) : Int)) hx fl_X7_148 cl_X7 dX7_at_21 hT.o (by decide) rfl (hN.y.tn hW.y) ?_
    have rg4 := hW.y.tn2
    refine J_icmp_eq (tgt := 34) hx dX7_at_24 (by decide) (fun c5 => ?_) (fun c5 => ?_)
    · refine J_aload_n hx dX7_at_34 (i := 0) rfl rfl ?_
      refine J_bipush (v := -5) hx dX7_at_35 (by decide) ?_
      refine J_invV (As := [vI ((-5))]) (st := []) hx lk_X7_99 okX7_refuse dX7_at_37 hT.o (by decide) rfl rfl rfl (Nat.le_of_ble_eq_true rfl) (Nat.zero_add _).symm (Nat.zero_add _).symm rfl (c_X7_refuseS hT hN hW (k := 3) (by decide) ?_)
      intro M1 hN1 hf1
      refine J_goto (tgt := 48) hx dX7_at_40 (by decide) ?_
      refine J_iret hx hr dX7_at_48 ?_
      exact hQ.to (v := -((3 + 2 : Nat) : Int)) (S := rfS S 3) (by
        unfold a_at
        all_goals (try unfold overY at *)
        all_goals (try unfold mayQ at *)
        all_goals (try simp only [Int.toNat_natCast] at *)
        all_goals ((repeat' split) <;> first | rfl | (exfalso; omega) | (congr 1; omega))) hN1 hf1
    · refine J_aload_n hx dX7_at_27 (i := 0) rfl rfl ?_
      refine J_invV (As := []) (st := []) hx lk_X7_208 okX7_isOver dX7_at_28 hT.o (by decide) rfl rfl rfl (Nat.le_of_ble_eq_true rfl) (Nat.zero_add _).symm (Nat.zero_add _).symm rfl (c_X7_isOver hT hN.y hW.y  ?_)
      intro v6 hv6
      refine J_if_eq (tgt := 43) hx dX7_at_31 (by decide) (fun c7 => ?_) (fun c7 => ?_)
      · have hnv := not_over2 hW.y (fun q9 => by unfold overY at *; omega)
        refine J_aload_n hx dX7_at_43 (i := 0) rfl rfl ?_
        refine J_iload_n hx dX7_at_44 (i := 1) rfl rfl ?_
        refine J_invV (As := [vI (((pN : Nat) : Int))]) (st := []) hx lk_X7_280 okX7_atOf dX7_at_45 hT.o (by decide) rfl rfl rfl (Nat.le_of_ble_eq_true rfl) (Nat.zero_add _).symm (Nat.zero_add _).symm rfl (c_X7_atOf hT hN.y hW.y (p := pN) (by omega) (by omega) ?_)
        have rg8 := atY_lt (A := S.1) (by omega) pN
        refine J_iret hx hr dX7_at_48 ?_
        exact hQ.same (v := ((atY S.1 pN : Nat) : Int)) (S := S) (by
          unfold a_at
          all_goals (try unfold overY at *)
          all_goals (try unfold mayQ at *)
          all_goals (try simp only [Int.toNat_natCast] at *)
          all_goals ((repeat' split) <;> first | rfl | (exfalso; omega) | (congr 1; omega))) hN
      · refine J_aload_n hx dX7_at_34 (i := 0) rfl rfl ?_
        refine J_bipush (v := -5) hx dX7_at_35 (by decide) ?_
        refine J_invV (As := [vI ((-5))]) (st := []) hx lk_X7_99 okX7_refuse dX7_at_37 hT.o (by decide) rfl rfl rfl (Nat.le_of_ble_eq_true rfl) (Nat.zero_add _).symm (Nat.zero_add _).symm rfl (c_X7_refuseS hT hN hW (k := 3) (by decide) ?_)
        intro M1 hN1 hf1
        refine J_goto (tgt := 48) hx dX7_at_40 (by decide) ?_
        refine J_iret hx hr dX7_at_48 ?_
        exact hQ.to (v := -((3 + 2 : Nat) : Int)) (S := rfS S 3) (by
          unfold a_at
          all_goals (try unfold overY at *)
          all_goals (try unfold mayQ at *)
          all_goals (try simp only [Int.toNat_natCast] at *)
          all_goals ((repeat' split) <;> first | rfl | (exfalso; omega) | (congr 1; omega))) hN1 hf1
  · refine J_aload_n hx dX7_at_8 (i := 0) rfl rfl ?_
    refine J_bipush (v := -2) hx dX7_at_9 (by decide) ?_
    refine J_invV (As := [vI ((-2))]) (st := []) hx lk_X7_99 okX7_refuse dX7_at_11 hT.o (by decide) rfl rfl rfl (Nat.le_of_ble_eq_true rfl) (Nat.zero_add _).symm (Nat.zero_add _).symm rfl (c_X7_refuseS hT hN hW (k := 0) (by decide) ?_)
    intro M1 hN1 hf1
    refine J_iret hx hr dX7_at_14 ?_
    exact hQ.to (v := -((0 + 2 : Nat) : Int)) (S := rfS S 0) (by
      unfold a_at
      all_goals (try unfold overY at *)
      all_goals (try unfold mayQ at *)
      all_goals (try simp only [Int.toNat_natCast] at *)
      all_goals ((repeat' split) <;> first | rfl | (exfalso; omega) | (congr 1; omega))) hN1 hf1

set_option maxHeartbeats 4000000 in
theorem c_X7_call {g : WG} {d : Nat} {T : TT} {M : MM} {r sz : Nat} {S : ST} {Q : MVal → TT → MM → Nat → Prop} (hT : MT T r) (hN : RN M r S) (hW : WFS S)  (hQ : RQ r T M sz Q (a_call S)) : Ct g (d + 6) mX7_call [vR (r)] T M sz 0 0 Q := by
  refine Ct_of2 (ls := [vR (r)]) okX7_call rfl (Nat.le_of_ble_eq_true rfl) rfl ?_
  intro x hx hr hnm
  have hn8 := hW.y.n8
  have ht2 := hW.y.tn2
  have hl8 := hW.y.len8 ht2
  have htz := hW.t
  refine J_aload_n hx dX7_call_0 (i := 0) rfl rfl ?_
  refine J_invV (As := []) (st := []) hx lk_X7_208 okX7_isOver dX7_call_1 hT.o (by decide) rfl rfl rfl (Nat.le_of_ble_eq_true rfl) (Nat.zero_add _).symm (Nat.zero_add _).symm rfl (c_X7_isOver hT hN.y hW.y  ?_)
  intro v1 hv1
  refine J_if_eq (tgt := 16) hx dX7_call_4 (by decide) (fun c2 => ?_) (fun c2 => ?_)
  · have hnv := not_over2 hW.y (fun q9 => by unfold overY at *; omega)
    refine J_aload_n hx dX7_call_16 (i := 0) rfl rfl ?_
    refine J_iconst (v := 0) hx dX7_call_17 (by decide) ?_
    refine J_invV (As := [vI (0)]) (st := []) hx lk_X7_286 okX7_callBy dX7_call_18 hT.o (by decide) rfl rfl rfl (Nat.le_of_ble_eq_true rfl) (Nat.zero_add _).symm (Nat.zero_add _).symm rfl (c_X7_callBy hT hN.y hW.y (rule := 0) (by omega) (by omega) ?_)
    refine J_iret hx hr dX7_call_21 ?_
    exact hQ.same (v := whoY S.1 0) (S := S) (by
      unfold a_call
      all_goals (try unfold overY at *)
      all_goals (try unfold mayQ at *)
      all_goals (try simp only [Int.toNat_natCast] at *)
      all_goals ((repeat' split) <;> first | rfl | (exfalso; omega) | (congr 1; omega))) hN
  · refine J_aload_n hx dX7_call_7 (i := 0) rfl rfl ?_
    refine J_bipush (v := -5) hx dX7_call_8 (by decide) ?_
    refine J_invV (As := [vI ((-5))]) (st := []) hx lk_X7_99 okX7_refuse dX7_call_10 hT.o (by decide) rfl rfl rfl (Nat.le_of_ble_eq_true rfl) (Nat.zero_add _).symm (Nat.zero_add _).symm rfl (c_X7_refuseS hT hN hW (k := 3) (by decide) ?_)
    intro M1 hN1 hf1
    refine J_goto (tgt := 21) hx dX7_call_13 (by decide) ?_
    refine J_iret hx hr dX7_call_21 ?_
    exact hQ.to (v := -((3 + 2 : Nat) : Int)) (S := rfS S 3) (by
      unfold a_call
      all_goals (try unfold overY at *)
      all_goals (try unfold mayQ at *)
      all_goals (try simp only [Int.toNat_natCast] at *)
      all_goals ((repeat' split) <;> first | rfl | (exfalso; omega) | (congr 1; omega))) hN1 hf1

set_option maxHeartbeats 4000000 in
theorem c_X7_strength {g : WG} {d : Nat} {T : TT} {M : MM} {r sz : Nat} {S : ST} {Q : MVal → TT → MM → Nat → Prop} (hT : MT T r) (hN : RN M r S) (hW : WFS S) {c j : Int} (h_c : -2147483648 ≤ c ∧ c ≤ 2147483647) (h_j : -2147483648 ≤ j ∧ j ≤ 2147483647) (hQ : RQ r T M sz Q (a_strength S c j)) : Ct g (d + 4) mX7_strength [vR (r), vI (c), vI (j)] T M sz 0 0 Q := by
  refine Ct_of2 (ls := [vR (r), vI (c), vI (j)]) okX7_strength rfl (Nat.le_of_ble_eq_true rfl) rfl ?_
  intro x hx hr hnm
  have hn8 := hW.y.n8
  have ht2 := hW.y.tn2
  have hl8 := hW.y.len8 ht2
  have htz := hW.t
  refine J_iload_n hx dX7_strength_0 (i := 1) rfl rfl ?_
  refine J_i2l hx dX7_strength_1 ?_
  refine J_lconst (v := 0) hx dX7_strength_2 (by decide) ?_
  refine J_lconst (v := 1) hx dX7_strength_3 (by decide) ?_
  refine J_invS (As := [vL (c), vL (0), vL (1)]) (st := []) hx lk_X7_85 okX7_in dX7_strength_4 rfl rfl (Nat.le_of_ble_eq_true rfl) (Nat.zero_add _).symm (Nat.zero_add _).symm rfl (c_X7_in (a := c) (lo := 0) (hi := 1) ?_)
  intro v1 hv1
  refine J_if_eq (tgt := 39) hx dX7_strength_7 (by decide) (fun c2 => ?_) (fun c2 => ?_)
  · refine J_aload_n hx dX7_strength_39 (i := 0) rfl rfl ?_
    refine J_bipush (v := -2) hx dX7_strength_40 (by decide) ?_
    refine J_invV (As := [vI ((-2))]) (st := []) hx lk_X7_99 okX7_refuse dX7_strength_42 hT.o (by decide) rfl rfl rfl (Nat.le_of_ble_eq_true rfl) (Nat.zero_add _).symm (Nat.zero_add _).symm rfl (c_X7_refuseS hT hN hW (k := 0) (by decide) ?_)
    intro M1 hN1 hf1
    refine J_iret hx hr dX7_strength_45 ?_
    exact hQ.to (v := -((0 + 2 : Nat) : Int)) (S := rfS S 0) (by
      unfold a_strength
      all_goals (try unfold overY at *)
      all_goals (try unfold mayQ at *)
      all_goals (try simp only [Int.toNat_natCast] at *)
      all_goals ((repeat' split) <;> first | rfl | (exfalso; omega) | (congr 1; omega))) hN1 hf1
  · obtain ⟨cN, rfl⟩ : ∃ z : Nat, c = ((z : Nat) : Int) := ⟨c.toNat, by omega⟩
    refine J_aload_n hx dX7_strength_10 (i := 0) rfl rfl ?_
    refine J_iload_n hx dX7_strength_11 (i := 1) rfl rfl ?_
    refine J_iload_n hx dX7_strength_12 (i := 2) rfl rfl ?_
    refine J_invV (As := [vI (((cN : Nat) : Int)), vI (j)]) (st := []) hx lk_X7_263 okX7_isJoint dX7_strength_13 hT.o (by decide) rfl rfl rfl (Nat.le_of_ble_eq_true rfl) (Nat.zero_add _).symm (Nat.zero_add _).symm rfl (c_X7_isJoint hT hN.y hW.y (c := cN) (by omega) (k := j) ?_)
    intro v3 hv3
    refine J_if_eq (tgt := 39) hx dX7_strength_16 (by decide) (fun c4 => ?_) (fun c4 => ?_)
    · refine J_aload_n hx dX7_strength_39 (i := 0) rfl rfl ?_
      refine J_bipush (v := -2) hx dX7_strength_40 (by decide) ?_
      refine J_invV (As := [vI ((-2))]) (st := []) hx lk_X7_99 okX7_refuse dX7_strength_42 hT.o (by decide) rfl rfl rfl (Nat.le_of_ble_eq_true rfl) (Nat.zero_add _).symm (Nat.zero_add _).symm rfl (c_X7_refuseS hT hN hW (k := 0) (by decide) ?_)
      intro M1 hN1 hf1
      refine J_iret hx hr dX7_strength_45 ?_
      exact hQ.to (v := -((0 + 2 : Nat) : Int)) (S := rfS S 0) (by
        unfold a_strength
        all_goals (try unfold overY at *)
        all_goals (try unfold mayQ at *)
        all_goals (try simp only [Int.toNat_natCast] at *)
        all_goals ((repeat' split) <;> first | rfl | (exfalso; omega) | (congr 1; omega))) hN1 hf1
    · obtain ⟨jN, rfl⟩ : ∃ z : Nat, j = ((z : Nat) : Int) := ⟨j.toNat, by omega⟩
      refine J_aload_n hx dX7_strength_19 (i := 0) rfl rfl ?_
      refine J_aload_n hx dX7_strength_20 (i := 0) rfl rfl ?_
      refine J_getR (b := r + 22) hx fl_X7_54 cl_X7 dX7_strength_21 hT.o (by decide) rfl hT.r15 ?_
      refine J_iload_n hx dX7_strength_24 (i := 1) rfl rfl ?_
      refine J_aald (b := r + 23 + cN) hx cN dX7_strength_25 hT.k22 (by decide) (by omega) (hT.l22 (by omega)) (hT.f22 (by omega)) ?_
      refine J_aload_n hx dX7_strength_26 (i := 0) rfl rfl ?_
      refine J_getR (b := r + 25) hx fl_X7_57 cl_X7 dX7_strength_27 hT.o (by decide) rfl hT.r16 ?_
      refine J_iload_n hx dX7_strength_30 (i := 1) rfl rfl ?_
      refine J_iald2 (v := (((S.1.ch cN).length : Nat) : Int)) hx cN dX7_strength_31 hT.k25 (by omega) (hT.l25 (by omega)) (hN.y.sz (by omega)) ?_
      have rg5 := hW.y.len8 (c := cN) (by omega)
      have rg6 := hW.y.lenN (c := cN) (by omega)
      refine J_iload_n hx dX7_strength_32 (i := 2) rfl rfl ?_
      refine J_invV (As := [vR (r + 23 + cN), vI ((((S.1.ch cN).length : Nat) : Int)), vI (((jN : Nat) : Int))]) (st := []) hx lk_X7_266 okX7_strengthOf dX7_strength_33 hT.o (by decide) rfl rfl rfl (Nat.le_of_ble_eq_true rfl) (Nat.zero_add _).symm (Nat.zero_add _).symm rfl (c_X7_strengthOf hT hN.y hW.y (l := S.1.ch cN) (q := r + 23 + cN) (hT.kl (by omega)) (hT.nl (by omega)) (fun k9 h9 => hN.y.ln (by omega) h9) (fun p9 h9 => hW.y.lt (by omega) h9) (by omega) (j := jN) (by omega) ?_)
      have rg7 := strl_rg hW.y (l := S.1.ch cN) (fun p9 h9 => hW.y.lt (by omega) h9) (j := jN) (by omega)
      refine J_goto (tgt := 45) hx dX7_strength_36 (by decide) ?_
      refine J_iret hx hr dX7_strength_45 ?_
      exact hQ.same (v := strl S.1 (S.1.ch cN) jN) (S := S) (by
        unfold a_strength
        all_goals (try unfold overY at *)
        all_goals (try unfold mayQ at *)
        all_goals (try simp only [Int.toNat_natCast] at *)
        all_goals ((repeat' split) <;> first | rfl | (exfalso; omega) | (congr 1; omega))) hN

set_option maxHeartbeats 4000000 in
theorem c_X7_chainOf {g : WG} {d : Nat} {T : TT} {M : MM} {r sz : Nat} {S : ST} {Q : MVal → TT → MM → Nat → Prop} (hT : MT T r) (hN : RN M r S) (hW : WFS S) {c k : Int} (h_c : -2147483648 ≤ c ∧ c ≤ 2147483647) (h_k : -2147483648 ≤ k ∧ k ≤ 2147483647) (hQ : RQ r T M sz Q (a_chainOf S c k)) : Ct g (d + 3) mX7_chainOf [vR (r), vI (c), vI (k)] T M sz 0 0 Q := by
  refine Ct_of2 (ls := [vR (r), vI (c), vI (k)]) okX7_chainOf rfl (Nat.le_of_ble_eq_true rfl) rfl ?_
  intro x hx hr hnm
  have hn8 := hW.y.n8
  have ht2 := hW.y.tn2
  have hl8 := hW.y.len8 ht2
  have htz := hW.t
  refine J_iload_n hx dX7_chainOf_0 (i := 1) rfl rfl ?_
  refine J_i2l hx dX7_chainOf_1 ?_
  refine J_lconst (v := 0) hx dX7_chainOf_2 (by decide) ?_
  refine J_lconst (v := 1) hx dX7_chainOf_3 (by decide) ?_
  refine J_invS (As := [vL (c), vL (0), vL (1)]) (st := []) hx lk_X7_85 okX7_in dX7_chainOf_4 rfl rfl (Nat.le_of_ble_eq_true rfl) (Nat.zero_add _).symm (Nat.zero_add _).symm rfl (c_X7_in (a := c) (lo := 0) (hi := 1) ?_)
  intro v1 hv1
  refine J_if_eq (tgt := 30) hx dX7_chainOf_7 (by decide) (fun c2 => ?_) (fun c2 => ?_)
  · refine J_aload_n hx dX7_chainOf_30 (i := 0) rfl rfl ?_
    refine J_bipush (v := -2) hx dX7_chainOf_31 (by decide) ?_
    refine J_invV (As := [vI ((-2))]) (st := []) hx lk_X7_99 okX7_refuse dX7_chainOf_33 hT.o (by decide) rfl rfl rfl (Nat.le_of_ble_eq_true rfl) (Nat.zero_add _).symm (Nat.zero_add _).symm rfl (c_X7_refuseS hT hN hW (k := 0) (by decide) ?_)
    intro M1 hN1 hf1
    refine J_iret hx hr dX7_chainOf_36 ?_
    exact hQ.to (v := -((0 + 2 : Nat) : Int)) (S := rfS S 0) (by
      unfold a_chainOf
      all_goals (try unfold overY at *)
      all_goals (try unfold mayQ at *)
      all_goals (try simp only [Int.toNat_natCast] at *)
      all_goals ((repeat' split) <;> first | rfl | (exfalso; omega) | (congr 1; omega))) hN1 hf1
  · obtain ⟨cN, rfl⟩ : ∃ z : Nat, c = ((z : Nat) : Int) := ⟨c.toNat, by omega⟩
    have hl9 := hW.y.len8 (c := cN) (by omega)
    refine J_iload_n hx dX7_chainOf_10 (i := 2) rfl rfl ?_
    refine J_i2l hx dX7_chainOf_11 ?_
    refine J_ldc2 (v := -1) hx ct_X7_261 dX7_chainOf_12 (by decide) ?_
    refine J_aload_n hx dX7_chainOf_15 (i := 0) rfl rfl ?_
    refine J_getR (b := r + 25) hx fl_X7_57 cl_X7 dX7_chainOf_16 hT.o (by decide) rfl hT.r16 ?_
    refine J_iload_n hx dX7_chainOf_19 (i := 1) rfl rfl ?_
    refine J_iald2 (v := (((S.1.ch cN).length : Nat) : Int)) hx cN dX7_chainOf_20 hT.k25 (by omega) (hT.l25 (by omega)) (hN.y.sz (by omega)) ?_
    have rg3 := hW.y.len8 (c := cN) (by omega)
    have rg4 := hW.y.lenN (c := cN) (by omega)
    refine J_iconst (v := 1) hx dX7_chainOf_21 (by decide) ?_
    refine J_isub (v := (((S.1.ch cN).length : Nat) : Int) - 1) hx dX7_chainOf_22 (w32_id (by omega) (by omega)) ?_
    refine J_i2l hx dX7_chainOf_23 ?_
    refine J_invS (As := [vL (k), vL (-1), vL ((((S.1.ch cN).length : Nat) : Int) - 1)]) (st := []) hx lk_X7_85 okX7_in dX7_chainOf_24 rfl rfl (Nat.le_of_ble_eq_true rfl) (Nat.zero_add _).symm (Nat.zero_add _).symm rfl (c_X7_in (a := k) (lo := -1) (hi := (((S.1.ch cN).length : Nat) : Int) - 1) ?_)
    intro v5 hv5
    refine J_if_ne (tgt := 37) hx dX7_chainOf_27 (by decide) (fun c6 => ?_) (fun c6 => ?_)
    · refine J_iload_n hx dX7_chainOf_37 (i := 2) rfl rfl ?_
      refine J_iconst (v := -1) hx dX7_chainOf_38 (by decide) ?_
      refine J_icmp_ne (tgt := 51) hx dX7_chainOf_39 (by decide) (fun c7 => ?_) (fun c7 => ?_)
      · obtain ⟨kN, rfl⟩ : ∃ z : Nat, k = ((z : Nat) : Int) := ⟨k.toNat, by omega⟩
        refine J_aload_n hx dX7_chainOf_51 (i := 0) rfl rfl ?_
        refine J_getR (b := r + 22) hx fl_X7_54 cl_X7 dX7_chainOf_52 hT.o (by decide) rfl hT.r15 ?_
        refine J_iload_n hx dX7_chainOf_55 (i := 1) rfl rfl ?_
        refine J_aald (b := r + 23 + cN) hx cN dX7_chainOf_56 hT.k22 (by decide) (by omega) (hT.l22 (by omega)) (hT.f22 (by omega)) ?_
        refine J_iload_n hx dX7_chainOf_57 (i := 2) rfl rfl ?_
        refine J_iald2 (v := (((S.1.ch cN).getD kN 0 : Nat) : Int)) hx kN dX7_chainOf_58 (hT.kl (by omega)) (by omega) (hT.ll (by omega) (by omega)) (hN.y.ln (by omega) (by omega)) ?_
        have rg8 := hW.y.at (c := cN) (k := kN) (by omega) (by omega)
        refine J_iret hx hr dX7_chainOf_59 ?_
        exact hQ.same (v := (((S.1.ch cN).getD kN 0 : Nat) : Int)) (S := S) (by
          unfold a_chainOf
          all_goals (try unfold overY at *)
          all_goals (try unfold mayQ at *)
          all_goals (try simp only [Int.toNat_natCast] at *)
          all_goals ((repeat' split) <;> first | rfl | (exfalso; omega) | (congr 1; omega))) hN
      · refine J_aload_n hx dX7_chainOf_42 (i := 0) rfl rfl ?_
        refine J_getR (b := r + 25) hx fl_X7_57 cl_X7 dX7_chainOf_43 hT.o (by decide) rfl hT.r16 ?_
        refine J_iload_n hx dX7_chainOf_46 (i := 1) rfl rfl ?_
        refine J_iald2 (v := (((S.1.ch cN).length : Nat) : Int)) hx cN dX7_chainOf_47 hT.k25 (by omega) (hT.l25 (by omega)) (hN.y.sz (by omega)) ?_
        have rg9 := hW.y.len8 (c := cN) (by omega)
        have rg10 := hW.y.lenN (c := cN) (by omega)
        refine J_goto (tgt := 59) hx dX7_chainOf_48 (by decide) ?_
        refine J_iret hx hr dX7_chainOf_59 ?_
        exact hQ.same (v := (((S.1.ch cN).length : Nat) : Int)) (S := S) (by
          unfold a_chainOf
          all_goals (try unfold overY at *)
          all_goals (try unfold mayQ at *)
          all_goals (try simp only [Int.toNat_natCast] at *)
          all_goals ((repeat' split) <;> first | rfl | (exfalso; omega) | (congr 1; omega))) hN
    · refine J_aload_n hx dX7_chainOf_30 (i := 0) rfl rfl ?_
      refine J_bipush (v := -2) hx dX7_chainOf_31 (by decide) ?_
      refine J_invV (As := [vI ((-2))]) (st := []) hx lk_X7_99 okX7_refuse dX7_chainOf_33 hT.o (by decide) rfl rfl rfl (Nat.le_of_ble_eq_true rfl) (Nat.zero_add _).symm (Nat.zero_add _).symm rfl (c_X7_refuseS hT hN hW (k := 0) (by decide) ?_)
      intro M1 hN1 hf1
      refine J_iret hx hr dX7_chainOf_36 ?_
      exact hQ.to (v := -((0 + 2 : Nat) : Int)) (S := rfS S 0) (by
        unfold a_chainOf
        all_goals (try unfold overY at *)
        all_goals (try unfold mayQ at *)
        all_goals (try simp only [Int.toNat_natCast] at *)
        all_goals ((repeat' split) <;> first | rfl | (exfalso; omega) | (congr 1; omega))) hN1 hf1

set_option maxHeartbeats 4000000 in
theorem c_X7_oneOf {g : WG} {d : Nat} {T : TT} {M : MM} {r sz : Nat} {S : ST} {Q : MVal → TT → MM → Nat → Prop} (hT : MT T r) (hN : RN M r S) (hW : WFS S) {p w : Int} (h_p : -2147483648 ≤ p ∧ p ≤ 2147483647) (h_w : -2147483648 ≤ w ∧ w ≤ 2147483647) (hQ : RQ r T M sz Q (a_oneOf S p w)) : Ct g (d + 3) mX7_oneOf [vR (r), vI (p), vI (w)] T M sz 0 0 Q := by
  refine Ct_of2 (ls := [vR (r), vI (p), vI (w)]) okX7_oneOf rfl (Nat.le_of_ble_eq_true rfl) rfl ?_
  intro x hx hr hnm
  have hn8 := hW.y.n8
  have ht2 := hW.y.tn2
  have hl8 := hW.y.len8 ht2
  have htz := hW.t
  refine J_aload_n hx dX7_oneOf_0 (i := 0) rfl rfl ?_
  refine J_iload_n hx dX7_oneOf_1 (i := 1) rfl rfl ?_
  refine J_invV (As := [vI (p)]) (st := []) hx lk_X7_109 okX7_isOne dX7_oneOf_2 hT.o (by decide) rfl rfl rfl (Nat.le_of_ble_eq_true rfl) (Nat.zero_add _).symm (Nat.zero_add _).symm rfl (c_X7_isOne hT hN.y hW.y (one := p) (by omega) ?_)
  intro v1 hv1
  refine J_if_ne (tgt := 15) hx dX7_oneOf_5 (by decide) (fun c2 => ?_) (fun c2 => ?_)
  · obtain ⟨pN, rfl⟩ : ∃ z : Nat, p = ((z : Nat) : Int) := ⟨p.toNat, by omega⟩
    refine J_iload_n hx dX7_oneOf_15 (i := 2) rfl rfl ?_
    by_cases t3_0 : w = 0
    · refine J_tswIn (tgt := 64) (off := 48) hx dX7_oneOf_16 (by omega) (by omega) (by rw [t3_0]; rfl) (by decide) ?_
      refine J_aload_n hx dX7_oneOf_64 (i := 0) rfl rfl ?_
      refine J_getR (b := r + 17) hx fl_X7_37 cl_X7 dX7_oneOf_65 hT.o (by decide) rfl hT.r10 ?_
      refine J_iload_n hx dX7_oneOf_68 (i := 1) rfl rfl ?_
      refine J_iald2 (v := S.1.att 0 pN) hx pN dX7_oneOf_69 hT.k17 (by omega) (hT.l17 (by omega)) (hN.y.kd (by omega)) ?_
      have rg4 := hW.y.kd (p := pN) (by omega)
      refine J_iret hx hr dX7_oneOf_70 ?_
      exact hQ.same (v := S.1.att 0 pN) (S := S) (by
        unfold a_oneOf
        all_goals (try unfold overY at *)
        all_goals (try unfold mayQ at *)
        all_goals (try simp only [Int.toNat_natCast] at *)
        all_goals ((repeat' split) <;> first | rfl | (exfalso; omega) | (congr 1; omega) | (congr 1; simp_all))) hN
    by_cases t3_1 : w = 1
    · refine J_tswIn (tgt := 71) (off := 55) hx dX7_oneOf_16 (by omega) (by omega) (by rw [t3_1]; rfl) (by decide) ?_
      refine J_aload_n hx dX7_oneOf_71 (i := 0) rfl rfl ?_
      refine J_getR (b := r + 18) hx fl_X7_40 cl_X7 dX7_oneOf_72 hT.o (by decide) rfl hT.r11 ?_
      refine J_iload_n hx dX7_oneOf_75 (i := 1) rfl rfl ?_
      refine J_iald2 (v := S.1.att 1 pN) hx pN dX7_oneOf_76 hT.k18 (by omega) (hT.l18 (by omega)) (hN.y.gr (by omega)) ?_
      have rg5 := hW.y.gr (p := pN) (by omega)
      refine J_iret hx hr dX7_oneOf_77 ?_
      exact hQ.same (v := S.1.att 1 pN) (S := S) (by
        unfold a_oneOf
        all_goals (try unfold overY at *)
        all_goals (try unfold mayQ at *)
        all_goals (try simp only [Int.toNat_natCast] at *)
        all_goals ((repeat' split) <;> first | rfl | (exfalso; omega) | (congr 1; omega) | (congr 1; simp_all))) hN
    by_cases t3_2 : w = 2
    · refine J_tswIn (tgt := 78) (off := 62) hx dX7_oneOf_16 (by omega) (by omega) (by rw [t3_2]; rfl) (by decide) ?_
      refine J_aload_n hx dX7_oneOf_78 (i := 0) rfl rfl ?_
      refine J_getR (b := r + 19) hx fl_X7_43 cl_X7 dX7_oneOf_79 hT.o (by decide) rfl hT.r12 ?_
      refine J_iload_n hx dX7_oneOf_82 (i := 1) rfl rfl ?_
      refine J_iald2 (v := S.1.att 2 pN) hx pN dX7_oneOf_83 hT.k19 (by omega) (hT.l19 (by omega)) (hN.y.we (by omega)) ?_
      have rg6 := hW.y.we (p := pN) (by omega)
      refine J_iret hx hr dX7_oneOf_84 ?_
      exact hQ.same (v := S.1.att 2 pN) (S := S) (by
        unfold a_oneOf
        all_goals (try unfold overY at *)
        all_goals (try unfold mayQ at *)
        all_goals (try simp only [Int.toNat_natCast] at *)
        all_goals ((repeat' split) <;> first | rfl | (exfalso; omega) | (congr 1; omega) | (congr 1; simp_all))) hN
    by_cases t3_3 : w = 3
    · refine J_tswIn (tgt := 85) (off := 69) hx dX7_oneOf_16 (by omega) (by omega) (by rw [t3_3]; rfl) (by decide) ?_
      refine J_aload_n hx dX7_oneOf_85 (i := 0) rfl rfl ?_
      refine J_getR (b := r + 20) hx fl_X7_46 cl_X7 dX7_oneOf_86 hT.o (by decide) rfl hT.r13 ?_
      refine J_iload_n hx dX7_oneOf_89 (i := 1) rfl rfl ?_
      refine J_iald2 (v := S.1.att 3 pN) hx pN dX7_oneOf_90 hT.k20 (by omega) (hT.l20 (by omega)) (hN.y.ti (by omega)) ?_
      have rg7 := hW.y.ti (p := pN) (by omega)
      refine J_iret hx hr dX7_oneOf_91 ?_
      exact hQ.same (v := S.1.att 3 pN) (S := S) (by
        unfold a_oneOf
        all_goals (try unfold overY at *)
        all_goals (try unfold mayQ at *)
        all_goals (try simp only [Int.toNat_natCast] at *)
        all_goals ((repeat' split) <;> first | rfl | (exfalso; omega) | (congr 1; omega) | (congr 1; simp_all))) hN
    by_cases t3_4 : w = 4
    · refine J_tswIn (tgt := 92) (off := 76) hx dX7_oneOf_16 (by omega) (by omega) (by rw [t3_4]; rfl) (by decide) ?_
      refine J_aload_n hx dX7_oneOf_92 (i := 0) rfl rfl ?_
      refine J_getR (b := r + 21) hx fl_X7_49 cl_X7 dX7_oneOf_93 hT.o (by decide) rfl hT.r14 ?_
      refine J_iload_n hx dX7_oneOf_96 (i := 1) rfl rfl ?_
      refine J_iald2 (v := S.1.att 4 pN) hx pN dX7_oneOf_97 hT.k21 (by omega) (hT.l21 (by omega)) (hN.y.by_ (by omega)) ?_
      have rg8 := hW.y.by_ (p := pN) (by omega)
      refine J_iret hx hr dX7_oneOf_98 ?_
      exact hQ.same (v := S.1.att 4 pN) (S := S) (by
        unfold a_oneOf
        all_goals (try unfold overY at *)
        all_goals (try unfold mayQ at *)
        all_goals (try simp only [Int.toNat_natCast] at *)
        all_goals ((repeat' split) <;> first | rfl | (exfalso; omega) | (congr 1; omega) | (congr 1; simp_all))) hN
    by_cases t3_5 : w = 5
    · refine J_tswIn (tgt := 99) (off := 83) hx dX7_oneOf_16 (by omega) (by omega) (by rw [t3_5]; rfl) (by decide) ?_
      refine J_aload_n hx dX7_oneOf_99 (i := 0) rfl rfl ?_
      refine J_iload_n hx dX7_oneOf_100 (i := 1) rfl rfl ?_
      refine J_invV (As := [vI (((pN : Nat) : Int))]) (st := []) hx lk_X7_119 okX7_chainAt dX7_oneOf_101 hT.o (by decide) rfl rfl rfl (Nat.le_of_ble_eq_true rfl) (Nat.zero_add _).symm (Nat.zero_add _).symm rfl (c_X7_chainAt hT hN.y hW.y (p := pN) (by omega) ?_)
      have rg9 := S.1.co2 pN
      refine J_iret hx hr dX7_oneOf_104 ?_
      exact hQ.same (v := ((S.1.co pN : Nat) : Int)) (S := S) (by
        unfold a_oneOf
        all_goals (try unfold overY at *)
        all_goals (try unfold mayQ at *)
        all_goals (try simp only [Int.toNat_natCast] at *)
        all_goals ((repeat' split) <;> first | rfl | (exfalso; omega) | (congr 1; omega) | (congr 1; simp_all))) hN
    by_cases t3_6 : w = 6
    · refine J_tswIn (tgt := 105) (off := 89) hx dX7_oneOf_16 (by omega) (by omega) (by rw [t3_6]; rfl) (by decide) ?_
      refine J_aload_n hx dX7_oneOf_105 (i := 0) rfl rfl ?_
      refine J_iload_n hx dX7_oneOf_106 (i := 1) rfl rfl ?_
      refine J_invV (As := [vI (((pN : Nat) : Int))]) (st := []) hx lk_X7_89 okX7_placeOf dX7_oneOf_107 hT.o (by decide) rfl rfl rfl (Nat.le_of_ble_eq_true rfl) (Nat.zero_add _).symm (Nat.zero_add _).symm rfl (c_X7_placeOf hT hN.y hW.y (p := pN) (by omega) ?_)
      have rg10 := S.1.co2 pN
      have rg11 := plcY_lt hW.y (p := pN) (by omega)
      have rg12 := hW.y.len8 (c := S.1.co pN) (by omega)
      refine J_bipush (v := 10) hx dX7_oneOf_110 (by decide) ?_
      refine J_irem (v := ((10 * S.1.co pN + plcY S.1 pN : Nat) : Int) % 10) hx dX7_oneOf_112 (by omega) (jrem (by omega) (by omega)) ?_
      refine J_iret hx hr dX7_oneOf_113 ?_
      exact hQ.same (v := ((10 * S.1.co pN + plcY S.1 pN : Nat) : Int) % 10) (S := S) (by
        unfold a_oneOf
        all_goals (try unfold overY at *)
        all_goals (try unfold mayQ at *)
        all_goals (try simp only [Int.toNat_natCast] at *)
        all_goals ((repeat' split) <;> first | rfl | (exfalso; omega) | (congr 1; omega) | (congr 1; simp_all))) hN
    by_cases t3_7 : w = 7
    · refine J_tswIn (tgt := 114) (off := 98) hx dX7_oneOf_16 (by omega) (by omega) (by rw [t3_7]; rfl) (by decide) ?_
      refine J_aload_n hx dX7_oneOf_114 (i := 0) rfl rfl ?_
      refine J_iload_n hx dX7_oneOf_115 (i := 1) rfl rfl ?_
      refine J_invV (As := [vI (((pN : Nat) : Int))]) (st := []) hx lk_X7_126 okX7_force dX7_oneOf_116 hT.o (by decide) rfl rfl rfl (Nat.le_of_ble_eq_true rfl) (Nat.zero_add _).symm (Nat.zero_add _).symm rfl (c_X7_force hT hN.y hW.y (p := pN) (by omega) ?_)
      have rg13 := force_rg hW.y (p := pN) (by omega)
      refine J_iret hx hr dX7_oneOf_119 ?_
      exact hQ.same (v := force S.1 pN) (S := S) (by
        unfold a_oneOf
        all_goals (try unfold overY at *)
        all_goals (try unfold mayQ at *)
        all_goals (try simp only [Int.toNat_natCast] at *)
        all_goals ((repeat' split) <;> first | rfl | (exfalso; omega) | (congr 1; omega) | (congr 1; simp_all))) hN
    refine J_tswOut (tgt := 120) hx dX7_oneOf_16 (by omega) (by decide) ?_
    refine J_aload_n hx dX7_oneOf_120 (i := 0) rfl rfl ?_
    refine J_bipush (v := -2) hx dX7_oneOf_121 (by decide) ?_
    refine J_invV (As := [vI ((-2))]) (st := []) hx lk_X7_99 okX7_refuse dX7_oneOf_123 hT.o (by decide) rfl rfl rfl (Nat.le_of_ble_eq_true rfl) (Nat.zero_add _).symm (Nat.zero_add _).symm rfl (c_X7_refuseS hT hN hW (k := 0) (by decide) ?_)
    intro M1 hN1 hf1
    refine J_iret hx hr dX7_oneOf_126 ?_
    exact hQ.to (v := -((0 + 2 : Nat) : Int)) (S := rfS S 0) (by
      unfold a_oneOf
      all_goals (try unfold overY at *)
      all_goals (try unfold mayQ at *)
      all_goals (try simp only [Int.toNat_natCast] at *)
      all_goals ((repeat' split) <;> first | rfl | (exfalso; omega) | (congr 1; omega) | (congr 1; simp_all))) hN1 hf1
  · refine J_aload_n hx dX7_oneOf_8 (i := 0) rfl rfl ?_
    refine J_bipush (v := -2) hx dX7_oneOf_9 (by decide) ?_
    refine J_invV (As := [vI ((-2))]) (st := []) hx lk_X7_99 okX7_refuse dX7_oneOf_11 hT.o (by decide) rfl rfl rfl (Nat.le_of_ble_eq_true rfl) (Nat.zero_add _).symm (Nat.zero_add _).symm rfl (c_X7_refuseS hT hN hW (k := 0) (by decide) ?_)
    intro M1 hN1 hf1
    refine J_iret hx hr dX7_oneOf_14 ?_
    exact hQ.to (v := -((0 + 2 : Nat) : Int)) (S := rfS S 0) (by
      unfold a_oneOf
      all_goals (try unfold overY at *)
      all_goals (try unfold mayQ at *)
      all_goals (try simp only [Int.toNat_natCast] at *)
      all_goals ((repeat' split) <;> first | rfl | (exfalso; omega) | (congr 1; omega) | (congr 1; simp_all))) hN1 hf1

set_option maxHeartbeats 4000000 in
theorem c_X7_holds {g : WG} {d : Nat} {T : TT} {M : MM} {r sz : Nat} {S : ST} {Q : MVal → TT → MM → Nat → Prop} (hT : MT T r) (hN : RN M r S) (hW : WFS S) {s : Int} (h_s : -2147483648 ≤ s ∧ s ≤ 2147483647) (hQ : RQ r T M sz Q (a_holds S s)) : Ct g (d + 2) mX7_holds [vR (r), vI (s)] T M sz 0 0 Q := by
  refine Ct_of2 (ls := [vR (r), vI (s)]) okX7_holds rfl (Nat.le_of_ble_eq_true rfl) rfl ?_
  intro x hx hr hnm
  have hn8 := hW.y.n8
  have ht2 := hW.y.tn2
  have hl8 := hW.y.len8 ht2
  have htz := hW.t
  refine J_iload_n hx dX7_holds_0 (i := 1) rfl rfl ?_
  refine J_i2l hx dX7_holds_1 ?_
  refine J_lconst (v := 0) hx dX7_holds_2 (by decide) ?_
  refine J_ldc2 (v := 7) hx ct_X7_93 dX7_holds_3 (by decide) ?_
  refine J_invS (As := [vL (s), vL (0), vL (7)]) (st := []) hx lk_X7_85 okX7_in dX7_holds_6 rfl rfl (Nat.le_of_ble_eq_true rfl) (Nat.zero_add _).symm (Nat.zero_add _).symm rfl (c_X7_in (a := s) (lo := 0) (hi := 7) ?_)
  intro v1 hv1
  refine J_if_eq (tgt := 21) hx dX7_holds_9 (by decide) (fun c2 => ?_) (fun c2 => ?_)
  · refine J_iconst (v := -1) hx dX7_holds_21 (by decide) ?_
    refine J_iret hx hr dX7_holds_22 ?_
    exact hQ.same (v := (-1)) (S := S) (by
      unfold a_holds
      all_goals (try unfold overY at *)
      all_goals (try unfold mayQ at *)
      all_goals (try simp only [Int.toNat_natCast] at *)
      all_goals ((repeat' split) <;> first | rfl | (exfalso; omega) | (congr 1; omega) | (unfold shc at *; (repeat' split at *) <;> first | (exfalso; omega) | (congr 1 <;> omega)))) hN
  · obtain ⟨sN, rfl⟩ : ∃ z : Nat, s = ((z : Nat) : Int) := ⟨s.toNat, by omega⟩
    refine J_aload_n hx dX7_holds_12 (i := 0) rfl rfl ?_
    refine J_getR (b := r + 1) hx fl_X7_7 cl_X7 dX7_holds_13 hT.o (by decide) rfl hT.r0 ?_
    refine J_iload_n hx dX7_holds_16 (i := 1) rfl rfl ?_
    refine J_iald2 (v := shc (S.sh sN).1) hx sN dX7_holds_17 hT.k1 (by omega) (hT.l1 (by omega)) (hN.sc (by omega)) ?_
    have rg3 := hW.h (s := sN) (by omega)
    refine J_if_ne (tgt := 23) hx dX7_holds_18 (by decide) (fun c4 => ?_) (fun c4 => ?_)
    · refine J_aload_n hx dX7_holds_23 (i := 0) rfl rfl ?_
      refine J_getR (b := r + 1) hx fl_X7_7 cl_X7 dX7_holds_24 hT.o (by decide) rfl hT.r0 ?_
      refine J_iload_n hx dX7_holds_27 (i := 1) rfl rfl ?_
      refine J_iald2 (v := shc (S.sh sN).1) hx sN dX7_holds_28 hT.k1 (by omega) (hT.l1 (by omega)) (hN.sc (by omega)) ?_
      have rg5 := hW.h (s := sN) (by omega)
      refine J_iconst (v := 1) hx dX7_holds_29 (by decide) ?_
      refine J_icmp_ne (tgt := 42) hx dX7_holds_30 (by decide) (fun c6 => ?_) (fun c6 => ?_)
      · refine J_bipush (v := 10) hx dX7_holds_42 (by decide) ?_
        refine J_aload_n hx dX7_holds_44 (i := 0) rfl rfl ?_
        refine J_getR (b := r + 14) hx fl_X7_28 cl_X7 dX7_holds_45 hT.o (by decide) rfl hT.r5 ?_
        refine J_iload_n hx dX7_holds_48 (i := 1) rfl rfl ?_
        refine J_iald2 (v := (S.sh sN).1 - 10) hx sN dX7_holds_49 hT.k14 (by omega) (hT.l14 (by omega)) (hN.sp (by omega) (by unfold shc at *; (repeat' split at *) <;> omega)) ?_
        refine J_iadd (v := 10 + ((S.sh sN).1 - 10)) hx dX7_holds_50 (w32_id (by omega) (by omega)) ?_
        refine J_iret hx hr dX7_holds_51 ?_
        exact hQ.same (v := 10 + ((S.sh sN).1 - 10)) (S := S) (by
          unfold a_holds
          all_goals (try unfold overY at *)
          all_goals (try unfold mayQ at *)
          all_goals (try simp only [Int.toNat_natCast] at *)
          all_goals ((repeat' split) <;> first | rfl | (exfalso; omega) | (congr 1; omega) | (unfold shc at *; (repeat' split at *) <;> first | (exfalso; omega) | (congr 1 <;> omega)))) hN
      · refine J_aload_n hx dX7_holds_33 (i := 0) rfl rfl ?_
        refine J_getR (b := r + 2) hx fl_X7_13 cl_X7 dX7_holds_34 hT.o (by decide) rfl hT.r1 ?_
        refine J_iload_n hx dX7_holds_37 (i := 1) rfl rfl ?_
        refine J_iald2 (v := (S.sh sN).1) hx sN dX7_holds_38 hT.k2 (by omega) (hT.l2 (by omega)) (hN.so (by omega) (show rowH _ from by unfold shc at *; unfold rowH; (repeat' split at *) <;> omega)) ?_
        refine J_goto (tgt := 51) hx dX7_holds_39 (by decide) ?_
        refine J_iret hx hr dX7_holds_51 ?_
        exact hQ.same (v := (S.sh sN).1) (S := S) (by
          unfold a_holds
          all_goals (try unfold overY at *)
          all_goals (try unfold mayQ at *)
          all_goals (try simp only [Int.toNat_natCast] at *)
          all_goals ((repeat' split) <;> first | rfl | (exfalso; omega) | (congr 1; omega) | (unfold shc at *; (repeat' split at *) <;> first | (exfalso; omega) | (congr 1 <;> omega)))) hN
    · refine J_iconst (v := -1) hx dX7_holds_21 (by decide) ?_
      refine J_iret hx hr dX7_holds_22 ?_
      exact hQ.same (v := (-1)) (S := S) (by
        unfold a_holds
        all_goals (try unfold overY at *)
        all_goals (try unfold mayQ at *)
        all_goals (try simp only [Int.toNat_natCast] at *)
        all_goals ((repeat' split) <;> first | rfl | (exfalso; omega) | (congr 1; omega) | (unfold shc at *; (repeat' split at *) <;> first | (exfalso; omega) | (congr 1 <;> omega)))) hN

