/-! shelves -/
def ShT (T : TT) (q : Nat) : Prop := (T q).1 = 3 ∧ (T q).2.2 0 = some (q + 1) ∧ (T (q + 1)).1 = 11 ∧ (T (q + 1)).2.1 = 40
theorem CT.sht {T : TT} {o s : Nat} (h : CT T o) (hs : s < 8) : ShT T (o + 67 + 2 * s) := (h.sh s hs).2
/-- a shelf is another -/
def shS (S : ST) (s : Nat) (x : Int × Int × (Nat → Int)) : ST := (S.1, S.K, fun s' => if s' = s then x else S.sh s', S.tp, S.rf)
theorem CN.shelf {M M' : MM} {o s : Nat} {S : ST} {x : Int × Int × (Nat → Int)} (h : CN M o S) (hs : s < 8) (h1 : M' (o + 67 + 2 * s) 1 = x.1) (h2 : rowH x.1 → M' (o + 67 + 2 * s) 2 = x.2.1 ∧ ∀ j, j < 40 → M' (o + 67 + 2 * s + 1) j = x.2.2 j) (hF : ∀ a, a ≠ o + 67 + 2 * s → a ≠ o + 67 + 2 * s + 1 → M' a = M a) : CN M' o (shS S s x) := by
  obtain ⟨k2, k3, k4, ⟨k5, k6⟩, k7⟩ := h
  refine ⟨k2.same (fun a h8 h10 => hF a (by omega) (by omega)), ?_, fun s' hs' => ?_, ⟨by rw [hF _ (by omega) (by omega)]; exact k5, fun j hj => by rw [hF _ (by omega) (by omega)]; exact k6 j hj⟩, fun j hj => by rw [hF _ (by omega) (by omega)]; exact k7 j hj⟩
  · rcases k3 with ⟨e1, e2⟩ | ⟨K, e1, e2, e3⟩
    · exact Or.inl ⟨e1, by rw [hF _ (by omega) (by omega)]; exact e2⟩
    · exact Or.inr ⟨K, e1, by rw [hF _ (by omega) (by omega)]; exact e2, e3.same (fun a h8 h10 => hF a (by omega) (by omega))⟩
  · have ex : (shS S s x).sh s' = if s' = s then x else S.sh s' := rfl
    rw [ex]
    by_cases e : s' = s
    · subst e; rw [if_pos rfl]; exact ⟨h1, h2⟩
    · rw [if_neg e, hF _ (by omega) (by omega), hF _ (by omega) (by omega)]; exact k4 s' hs'
def tpS (S : ST) (t : Nat × (Nat → Int)) : ST := (S.1, S.K, S.sh, t, S.rf)
theorem CN.tape {M M' : MM} {o : Nat} {S : ST} {t : Nat × (Nat → Int)} (h : CN M o S) (h1 : M' (o + 63) 1 = ((t.1 : Nat) : Int)) (h2 : ∀ j, j < t.1 → M' (o + 64) j = t.2 j) (hF : ∀ a, a ≠ o + 63 → a ≠ o + 64 → M' a = M a) : CN M' o (tpS S t) := by
  obtain ⟨k2, k3, k4, ⟨k5, k6⟩, k7⟩ := h
  refine ⟨k2.same (fun a h8 h10 => hF a (by omega) (by omega)), ?_, fun s' hs' => ?_, ⟨h1, h2⟩, fun j hj => by rw [hF _ (by omega) (by omega)]; exact k7 j hj⟩
  · rcases k3 with ⟨e1, e2⟩ | ⟨K, e1, e2, e3⟩
    · exact Or.inl ⟨e1, by rw [hF _ (by omega) (by omega)]; exact e2⟩
    · exact Or.inr ⟨K, e1, by rw [hF _ (by omega) (by omega)]; exact e2, e3.same (fun a h8 h10 => hF a (by omega) (by omega))⟩
  · rw [hF _ (by omega) (by omega), hF _ (by omega) (by omega)]; exact k4 s' hs'

set_option maxHeartbeats 4000000 in
theorem c_X3_isRow {g : WG} {d : Nat} {T : TT} {M : MM} {q sz : Nat} {Q : MVal → TT → MM → Nat → Prop} (hT : ShT T q) {h : Int} (hh : M q 1 = h) (hQ : ∀ v : Int, ((v = 1 ∧ (0 ≤ h ∧ h < 5)) ∨ (v = 0 ∧ ¬ (0 ≤ h ∧ h < 5))) → Q (vI v) T M sz) : Ct g (d + 1) mX3_isRow [vR (q)] T M sz 0 0 Q := by
  refine Ct_of2 (ls := [vR (q)]) okX3_isRow rfl (Nat.le_of_ble_eq_true rfl) rfl ?_
  intro x hx hr hnm
  refine J_aload_n hx dX3_isRow_0 (i := 0) rfl rfl ?_
  refine J_getI2 (v := h) hx fl_X3_15 cl_X3 dX3_isRow_1 hT.1 (by decide) rfl hh ?_
  refine J_if_lt (tgt := 19) hx dX3_isRow_4 (by decide) (fun c1 => ?_) (fun c1 => ?_)
  · refine J_iconst (v := 0) hx dX3_isRow_19 (by decide) ?_
    refine J_zret hx hr dX3_isRow_20 (by omega) ?_
    exact hQ _ (by omega)
  · refine J_aload_n hx dX3_isRow_7 (i := 0) rfl rfl ?_
    refine J_getI2 (v := h) hx fl_X3_15 cl_X3 dX3_isRow_8 hT.1 (by decide) rfl hh ?_
    refine J_iconst (v := 5) hx dX3_isRow_11 (by decide) ?_
    refine J_icmp_ge (tgt := 19) hx dX3_isRow_12 (by decide) (fun c2 => ?_) (fun c2 => ?_)
    · refine J_iconst (v := 0) hx dX3_isRow_19 (by decide) ?_
      refine J_zret hx hr dX3_isRow_20 (by omega) ?_
      exact hQ _ (by omega)
    · refine J_iconst (v := 1) hx dX3_isRow_15 (by decide) ?_
      refine J_goto (tgt := 20) hx dX3_isRow_16 (by decide) ?_
      refine J_zret hx hr dX3_isRow_20 (by omega) ?_
      exact hQ _ (by omega)

set_option maxHeartbeats 4000000 in
theorem c_X3_isSomebody {g : WG} {d : Nat} {T : TT} {M : MM} {q sz : Nat} {Q : MVal → TT → MM → Nat → Prop} (hT : ShT T q) {h : Int} (hh : M q 1 = h) (hQ : ∀ v : Int, ((v = 1 ∧ (10 ≤ h)) ∨ (v = 0 ∧ ¬ (10 ≤ h))) → Q (vI v) T M sz) : Ct g (d + 1) mX3_isSomebody [vR (q)] T M sz 0 0 Q := by
  refine Ct_of2 (ls := [vR (q)]) okX3_isSomebody rfl (Nat.le_of_ble_eq_true rfl) rfl ?_
  intro x hx hr hnm
  refine J_aload_n hx dX3_isSomebody_0 (i := 0) rfl rfl ?_
  refine J_getI2 (v := h) hx fl_X3_15 cl_X3 dX3_isSomebody_1 hT.1 (by decide) rfl hh ?_
  refine J_bipush (v := 10) hx dX3_isSomebody_4 (by decide) ?_
  refine J_icmp_lt (tgt := 13) hx dX3_isSomebody_6 (by decide) (fun c1 => ?_) (fun c1 => ?_)
  · refine J_iconst (v := 0) hx dX3_isSomebody_13 (by decide) ?_
    refine J_zret hx hr dX3_isSomebody_14 (by omega) ?_
    exact hQ _ (by omega)
  · refine J_iconst (v := 1) hx dX3_isSomebody_9 (by decide) ?_
    refine J_goto (tgt := 14) hx dX3_isSomebody_10 (by decide) ?_
    refine J_zret hx hr dX3_isSomebody_14 (by omega) ?_
    exact hQ _ (by omega)

set_option maxHeartbeats 4000000 in
theorem c_X3_hasStretch {g : WG} {d : Nat} {T : TT} {M : MM} {q sz : Nat} {Q : MVal → TT → MM → Nat → Prop} (hT : ShT T q) {z fr n : Int} (hz : M q 2 = z) (hzr : 0 ≤ z ∧ z ≤ 40) (hQ : ∀ v : Int, ((v = 1 ∧ (0 ≤ fr ∧ 0 ≤ n ∧ n ≤ z ∧ fr ≤ z - n)) ∨ (v = 0 ∧ ¬ (0 ≤ fr ∧ 0 ≤ n ∧ n ≤ z ∧ fr ≤ z - n))) → Q (vI v) T M sz) : Ct g (d + 1) mX3_hasStretch [vR (q), vI (fr), vI (n)] T M sz 0 0 Q := by
  refine Ct_of2 (ls := [vR (q), vI (fr), vI (n)]) okX3_hasStretch rfl (Nat.le_of_ble_eq_true rfl) rfl ?_
  intro x hx hr hnm
  refine J_iload_n hx dX3_hasStretch_0 (i := 1) rfl rfl ?_
  refine J_if_lt (tgt := 30) hx dX3_hasStretch_1 (by decide) (fun c1 => ?_) (fun c1 => ?_)
  · refine J_iconst (v := 0) hx dX3_hasStretch_30 (by decide) ?_
    refine J_zret hx hr dX3_hasStretch_31 (by omega) ?_
    exact hQ _ (by omega)
  · refine J_iload_n hx dX3_hasStretch_4 (i := 2) rfl rfl ?_
    refine J_if_lt (tgt := 30) hx dX3_hasStretch_5 (by decide) (fun c2 => ?_) (fun c2 => ?_)
    · refine J_iconst (v := 0) hx dX3_hasStretch_30 (by decide) ?_
      refine J_zret hx hr dX3_hasStretch_31 (by omega) ?_
      exact hQ _ (by omega)
    · refine J_iload_n hx dX3_hasStretch_8 (i := 2) rfl rfl ?_
      refine J_aload_n hx dX3_hasStretch_9 (i := 0) rfl rfl ?_
      refine J_getI2 (v := z) hx fl_X3_19 cl_X3 dX3_hasStretch_10 hT.1 (by decide) rfl hz ?_
      refine J_icmp_gt (tgt := 30) hx dX3_hasStretch_13 (by decide) (fun c3 => ?_) (fun c3 => ?_)
      · refine J_iconst (v := 0) hx dX3_hasStretch_30 (by decide) ?_
        refine J_zret hx hr dX3_hasStretch_31 (by omega) ?_
        exact hQ _ (by omega)
      · refine J_iload_n hx dX3_hasStretch_16 (i := 1) rfl rfl ?_
        refine J_aload_n hx dX3_hasStretch_17 (i := 0) rfl rfl ?_
        refine J_getI2 (v := z) hx fl_X3_19 cl_X3 dX3_hasStretch_18 hT.1 (by decide) rfl hz ?_
        refine J_iload_n hx dX3_hasStretch_21 (i := 2) rfl rfl ?_
        refine J_isub (v := z - n) hx dX3_hasStretch_22 (w32_id (by omega) (by omega)) ?_
        refine J_icmp_gt (tgt := 30) hx dX3_hasStretch_23 (by decide) (fun c4 => ?_) (fun c4 => ?_)
        · refine J_iconst (v := 0) hx dX3_hasStretch_30 (by decide) ?_
          refine J_zret hx hr dX3_hasStretch_31 (by omega) ?_
          exact hQ _ (by omega)
        · refine J_iconst (v := 1) hx dX3_hasStretch_26 (by decide) ?_
          refine J_goto (tgt := 31) hx dX3_hasStretch_27 (by decide) ?_
          refine J_zret hx hr dX3_hasStretch_31 (by omega) ?_
          exact hQ _ (by omega)

set_option maxHeartbeats 4000000 in
theorem lp_X3_putRow {g : WG} {d : Nat} {T : TT} {M : MM} {q sz : Nat} {Q : MVal → TT → MM → Nat → Prop} (hT : ShT T q) {sort n : Int} (hQ : ∀ M', M' q 1 = sort → M' q 2 = n → (∀ j, j < 40 → M' (q + 1) j = 0) → (∀ a, a ≠ q → a ≠ q + 1 → M' a = M a) → Q vU T M' sz) {x : CX} (hx : OKx g x RX3 cX3_putRow (d + 1)) (hr : RTx g x none Q) (i : Nat) (M1 : MM) (hi : i ≤ 40) (h1 : M1 q 1 = sort) (h2 : M1 q 2 = n) (h3 : ∀ j, j < i → M1 (q + 1) j = 0) (h4 : ∀ a, a ≠ q → a ≠ q + 1 → M1 a = M a) : Jd g x 12 [vR (q), vI (sort), vI (n), vI (((i : Nat) : Int))] [] T M1 sz 0 0 := by
  refine J_iload_n hx dX3_putRow_12 (i := 3) rfl rfl ?_
  refine J_bipush (v := 40) hx dX3_putRow_13 (by decide) ?_
  refine J_icmp_ge (tgt := 31) hx dX3_putRow_15 (by decide) (fun c1 => ?_) (fun c1 => ?_)
  · refine J_vret hx hr dX3_putRow_31 ?_
    exact hQ M1 h1 h2 (fun j9 h9 => h3 j9 (by omega)) h4
  · refine J_aload_n hx dX3_putRow_18 (i := 0) rfl rfl ?_
    refine J_getR (b := q + 1) hx fl_X3_9 cl_X3 dX3_putRow_19 hT.1 (by decide) rfl hT.2.1 ?_
    refine J_iload_n hx dX3_putRow_22 (i := 3) rfl rfl ?_
    refine J_lconst (v := 0) hx dX3_putRow_23 (by decide) ?_
    refine J_last hx i dX3_putRow_24 hT.2.2.1 (by omega) (by rw [hT.2.2.2]; omega) ?_
    generalize eM2 : up2 M1 (q + 1) i 0 = M2
    have hM2a : M2 (q + 1) i = 0 := by rw [← eM2]; exact up2_at
    have hM2o : ∀ b9 j9, (b9 ≠ q + 1 ∨ j9 ≠ i) → M2 b9 j9 = M1 b9 j9 := fun b9 j9 h9 => by rw [← eM2]; exact up2_ne h9
    have hM2r : ∀ b9, b9 ≠ q + 1 → M2 b9 = M1 b9 := fun b9 h9 => by rw [← eM2]; exact up2_row h9
    refine J_iinc (v := ((i : Nat) : Int) + 1) (lsn := [vR (q), vI (sort), vI (n), vI (((i : Nat) : Int) + 1)]) hx dX3_putRow_25 rfl (jinc1 (by omega) (by omega)) rfl rfl ?_
    refine J_goto (tgt := 12) hx dX3_putRow_28 (by decide) ?_
    exact lp_X3_putRow hT hQ hx hr (i + 1) M2 (by omega) (by rw [hM2r _ (by omega)]; exact h1) (by rw [hM2r _ (by omega)]; exact h2) (fun j9 h9 => by
        by_cases e : j9 = i
        · subst e; exact hM2a
        · rw [hM2o _ _ (Or.inr e)]; exact h3 j9 (by omega)) (fun a9 ha hb => by rw [hM2r _ hb]; exact h4 a9 ha hb)
termination_by 40 - i
decreasing_by all_goals omega

set_option maxHeartbeats 4000000 in
theorem c_X3_putRow {g : WG} {d : Nat} {T : TT} {M : MM} {q sz : Nat} {Q : MVal → TT → MM → Nat → Prop} (hT : ShT T q) {sort n : Int} (hQ : ∀ M', M' q 1 = sort → M' q 2 = n → (∀ j, j < 40 → M' (q + 1) j = 0) → (∀ a, a ≠ q → a ≠ q + 1 → M' a = M a) → Q vU T M' sz) : Ct g (d + 1) mX3_putRow [vR (q), vI (sort), vI (n)] T M sz 0 0 Q := by
  refine Ct_of2 (ls := [vR (q), vI (sort), vI (n), vU]) okX3_putRow rfl (Nat.le_of_ble_eq_true rfl) rfl ?_
  intro x hx hr hnm
  refine J_aload_n hx dX3_putRow_0 (i := 0) rfl rfl ?_
  refine J_iload_n hx dX3_putRow_1 (i := 1) rfl rfl ?_
  refine J_putI hx fl_X3_15 cl_X3 dX3_putRow_2 hT.1 (by decide) rfl (Or.inl rfl) (by decide) ?_
  generalize eM1 : up2 M q 1 sort = M1
  have hM1a : M1 q 1 = sort := by rw [← eM1]; exact up2_at
  have hM1o : ∀ b9 j9, (b9 ≠ q ∨ j9 ≠ 1) → M1 b9 j9 = M b9 j9 := fun b9 j9 h9 => by rw [← eM1]; exact up2_ne h9
  have hM1r : ∀ b9, b9 ≠ q → M1 b9 = M b9 := fun b9 h9 => by rw [← eM1]; exact up2_row h9
  refine J_aload_n hx dX3_putRow_5 (i := 0) rfl rfl ?_
  refine J_iload_n hx dX3_putRow_6 (i := 2) rfl rfl ?_
  refine J_putI hx fl_X3_19 cl_X3 dX3_putRow_7 hT.1 (by decide) rfl (Or.inl rfl) (by decide) ?_
  generalize eM2 : up2 M1 q 2 n = M2
  have hM2a : M2 q 2 = n := by rw [← eM2]; exact up2_at
  have hM2o : ∀ b9 j9, (b9 ≠ q ∨ j9 ≠ 2) → M2 b9 j9 = M1 b9 j9 := fun b9 j9 h9 => by rw [← eM2]; exact up2_ne h9
  have hM2r : ∀ b9, b9 ≠ q → M2 b9 = M1 b9 := fun b9 h9 => by rw [← eM2]; exact up2_row h9
  refine J_iconst (v := 0) hx dX3_putRow_10 (by decide) ?_
  refine J_istore_n (lsn := [vR (q), vI (sort), vI (n), vI (0)]) hx dX3_putRow_11 (i := 3) rfl (Nat.le_of_ble_eq_true rfl) rfl rfl ?_
  exact lp_X3_putRow hT hQ hx hr 0 M2 (by omega) (by rw [hM2o _ _ (Or.inr (by decide))]; exact hM1a) hM2a (fun j h => absurd h (Nat.not_lt_zero j)) (fun a ha hb => by rw [hM2r _ ha, hM1r _ ha])

def a_row (S : ST) (s sort n : Int) : Int × ST := if ¬ (0 ≤ s ∧ s < 8 ∧ 0 ≤ sort ∧ sort ≤ 4 ∧ 0 ≤ n ∧ n ≤ 40) then rA S 0 else (1, shS S s.toNat (sort, n, fun _ => 0))
def a_holds (S : ST) (s : Int) : Int × ST := if 0 ≤ s ∧ s < 8 then ((S.sh s.toNat).1, S) else (-1, S)
def a_show (S : ST) (s p : Int) : Int × ST := if ¬ (0 ≤ s ∧ s < 8 ∧ (p = -1 ∨ (0 ≤ p ∧ p < S.1.n))) then rA S 0 else (1, shS S s.toNat (if p = -1 then -1 else 10 + p, 0, fun _ => 0))
def a_feed (S : ST) (b : Int) : Int × ST := if ¬ (0 ≤ b ∧ b ≤ 255) then rA S 0 else if 250 ≤ S.tp.1 then rA S 4 else (((S.tp.1 + 1 : Nat) : Int), tpS S (S.tp.1 + 1, fun j => if j = S.tp.1 then b else S.tp.2 j))
def a_wipe (S : ST) : Int × ST := (((S.tp.1 : Nat) : Int), tpS S (0, S.tp.2))
set_option maxHeartbeats 4000000 in
theorem c_X6_row {g : WG} {d : Nat} {T : TT} {M : MM} {o sz : Nat} {S : ST} {Q : MVal → TT → MM → Nat → Prop} (hC : CT T o) (hN : CN M o S) (hW : WFS S) {s sort n : Int} (h_s : -2147483648 ≤ s ∧ s ≤ 2147483647) (h_sort : -2147483648 ≤ sort ∧ sort ≤ 2147483647) (h_n : -2147483648 ≤ n ∧ n ≤ 2147483647) (hQ : CQ o T M sz Q (a_row S s sort n)) : Ct g (d + 2) mX6_row [vR (o), vI (s), vI (sort), vI (n)] T M sz 0 0 Q := by
  refine Ct_of2 (ls := [vR (o), vI (s), vI (sort), vI (n)]) okX6_row rfl (Nat.le_of_ble_eq_true rfl) rfl ?_
  intro x hx hr hnm
  have hn8 := hW.y.n8
  have htz := hW.t
  refine J_iload_n hx dX6_row_0 (i := 1) rfl rfl ?_
  refine J_invS (As := [vI (s)]) (st := []) hx lk_X6_63 okX6_isShelf dX6_row_1 rfl rfl (Nat.le_of_ble_eq_true rfl) (Nat.zero_add _).symm (Nat.zero_add _).symm rfl (c_X6_isShelf (a := s) ?_)
  intro v1 hv1
  refine J_if_eq (tgt := 26) hx dX6_row_4 (by decide) (fun c2 => ?_) (fun c2 => ?_)
  · refine J_aload_n hx dX6_row_26 (i := 0) rfl rfl ?_
    refine J_bipush (v := -2) hx dX6_row_27 (by decide) ?_
    refine J_invV (As := [vI ((-2))]) (st := []) hx lk_X6_67 okX6_refuse dX6_row_29 hC.o (by decide) rfl rfl rfl (Nat.le_of_ble_eq_true rfl) (Nat.zero_add _).symm (Nat.zero_add _).symm rfl (c_X6_refuse hC hN hW (k := 0) (by decide) ?_)
    intro M1 hN1 hf1
    refine J_iret hx hr dX6_row_32 ?_
    exact hQ.to (v := -((0 + 2 : Nat) : Int)) (S := rfS S 0) (by
      unfold a_row
      all_goals (try unfold overY at *)
      all_goals (try unfold mayQ at *)
      all_goals (try simp only [Int.toNat_natCast] at *)
      all_goals ((repeat' split) <;> first | rfl | (exfalso; omega) | (congr 1; omega))) hC hN1 hf1
  · refine J_iload_n hx dX6_row_7 (i := 2) rfl rfl ?_
    refine J_if_lt (tgt := 26) hx dX6_row_8 (by decide) (fun c3 => ?_) (fun c3 => ?_)
    · refine J_aload_n hx dX6_row_26 (i := 0) rfl rfl ?_
      refine J_bipush (v := -2) hx dX6_row_27 (by decide) ?_
      refine J_invV (As := [vI ((-2))]) (st := []) hx lk_X6_67 okX6_refuse dX6_row_29 hC.o (by decide) rfl rfl rfl (Nat.le_of_ble_eq_true rfl) (Nat.zero_add _).symm (Nat.zero_add _).symm rfl (c_X6_refuse hC hN hW (k := 0) (by decide) ?_)
      intro M1 hN1 hf1
      refine J_iret hx hr dX6_row_32 ?_
      exact hQ.to (v := -((0 + 2 : Nat) : Int)) (S := rfS S 0) (by
        unfold a_row
        all_goals (try unfold overY at *)
        all_goals (try unfold mayQ at *)
        all_goals (try simp only [Int.toNat_natCast] at *)
        all_goals ((repeat' split) <;> first | rfl | (exfalso; omega) | (congr 1; omega))) hC hN1 hf1
    · refine J_iload_n hx dX6_row_11 (i := 2) rfl rfl ?_
      refine J_iconst (v := 5) hx dX6_row_12 (by decide) ?_
      refine J_icmp_ge (tgt := 26) hx dX6_row_13 (by decide) (fun c4 => ?_) (fun c4 => ?_)
      · refine J_aload_n hx dX6_row_26 (i := 0) rfl rfl ?_
        refine J_bipush (v := -2) hx dX6_row_27 (by decide) ?_
        refine J_invV (As := [vI ((-2))]) (st := []) hx lk_X6_67 okX6_refuse dX6_row_29 hC.o (by decide) rfl rfl rfl (Nat.le_of_ble_eq_true rfl) (Nat.zero_add _).symm (Nat.zero_add _).symm rfl (c_X6_refuse hC hN hW (k := 0) (by decide) ?_)
        intro M1 hN1 hf1
        refine J_iret hx hr dX6_row_32 ?_
        exact hQ.to (v := -((0 + 2 : Nat) : Int)) (S := rfS S 0) (by
          unfold a_row
          all_goals (try unfold overY at *)
          all_goals (try unfold mayQ at *)
          all_goals (try simp only [Int.toNat_natCast] at *)
          all_goals ((repeat' split) <;> first | rfl | (exfalso; omega) | (congr 1; omega))) hC hN1 hf1
      · refine J_iload_n hx dX6_row_16 (i := 3) rfl rfl ?_
        refine J_if_lt (tgt := 26) hx dX6_row_17 (by decide) (fun c5 => ?_) (fun c5 => ?_)
        · refine J_aload_n hx dX6_row_26 (i := 0) rfl rfl ?_
          refine J_bipush (v := -2) hx dX6_row_27 (by decide) ?_
          refine J_invV (As := [vI ((-2))]) (st := []) hx lk_X6_67 okX6_refuse dX6_row_29 hC.o (by decide) rfl rfl rfl (Nat.le_of_ble_eq_true rfl) (Nat.zero_add _).symm (Nat.zero_add _).symm rfl (c_X6_refuse hC hN hW (k := 0) (by decide) ?_)
          intro M1 hN1 hf1
          refine J_iret hx hr dX6_row_32 ?_
          exact hQ.to (v := -((0 + 2 : Nat) : Int)) (S := rfS S 0) (by
            unfold a_row
            all_goals (try unfold overY at *)
            all_goals (try unfold mayQ at *)
            all_goals (try simp only [Int.toNat_natCast] at *)
            all_goals ((repeat' split) <;> first | rfl | (exfalso; omega) | (congr 1; omega))) hC hN1 hf1
        · refine J_iload_n hx dX6_row_20 (i := 3) rfl rfl ?_
          refine J_bipush (v := 40) hx dX6_row_21 (by decide) ?_
          refine J_icmp_le (tgt := 33) hx dX6_row_23 (by decide) (fun c6 => ?_) (fun c6 => ?_)
          · obtain ⟨sN, rfl⟩ : ∃ z : Nat, s = ((z : Nat) : Int) := ⟨s.toNat, by omega⟩
            refine J_aload_n hx dX6_row_33 (i := 0) rfl rfl ?_
            refine J_getR (b := o + 65) hx fl_X6_54 cl_X6 dX6_row_34 hC.o (by decide) rfl hC.r7 ?_
            refine J_iload_n hx dX6_row_37 (i := 1) rfl rfl ?_
            refine J_aald (b := o + 67 + 2 * sN) hx sN dX6_row_38 hC.k65 (by decide) (by omega) (by rw [hC.n65]; omega) (hC.sre (by omega)) ?_
            refine J_iload_n hx dX6_row_39 (i := 2) rfl rfl ?_
            refine J_iload_n hx dX6_row_40 (i := 3) rfl rfl ?_
            refine J_invVv (As := [vI (sort), vI (n)]) (st := []) hx lk_X6_71 okX3_putRow dX6_row_41 (hC.skd (by omega)) (by decide) rfl rfl rfl (Nat.le_of_ble_eq_true rfl) (Nat.zero_add _).symm (Nat.zero_add _).symm rfl (c_X3_putRow (hC.sht (s := sN) (by omega)) ?_)
            intro M2 h1 h2 h3 h4
            refine J_iconst (v := 1) hx dX6_row_44 (by decide) ?_
            refine J_iret hx hr dX6_row_45 ?_
            exact hQ.to (v := 1) (S := shS S sN (sort, n, fun _ => 0)) (by
              unfold a_row
              all_goals (try unfold overY at *)
              all_goals (try unfold mayQ at *)
              all_goals (try simp only [Int.toNat_natCast] at *)
              all_goals ((repeat' split) <;> first | rfl | (exfalso; omega) | (congr 1; omega))) hC (hN.shelf (by omega) h1 (fun _ => ⟨h2, h3⟩) h4) (fun b hb => h4 b (by omega) (by omega))
          · refine J_aload_n hx dX6_row_26 (i := 0) rfl rfl ?_
            refine J_bipush (v := -2) hx dX6_row_27 (by decide) ?_
            refine J_invV (As := [vI ((-2))]) (st := []) hx lk_X6_67 okX6_refuse dX6_row_29 hC.o (by decide) rfl rfl rfl (Nat.le_of_ble_eq_true rfl) (Nat.zero_add _).symm (Nat.zero_add _).symm rfl (c_X6_refuse hC hN hW (k := 0) (by decide) ?_)
            intro M1 hN1 hf1
            refine J_iret hx hr dX6_row_32 ?_
            exact hQ.to (v := -((0 + 2 : Nat) : Int)) (S := rfS S 0) (by
              unfold a_row
              all_goals (try unfold overY at *)
              all_goals (try unfold mayQ at *)
              all_goals (try simp only [Int.toNat_natCast] at *)
              all_goals ((repeat' split) <;> first | rfl | (exfalso; omega) | (congr 1; omega))) hC hN1 hf1

set_option maxHeartbeats 4000000 in
theorem c_X6_holds {g : WG} {d : Nat} {T : TT} {M : MM} {o sz : Nat} {S : ST} {Q : MVal → TT → MM → Nat → Prop} (hC : CT T o) (hN : CN M o S) (hW : WFS S) {s : Int} (h_s : -2147483648 ≤ s ∧ s ≤ 2147483647) (hQ : CQ o T M sz Q (a_holds S s)) : Ct g (d + 2) mX6_holds [vR (o), vI (s)] T M sz 0 0 Q := by
  refine Ct_of2 (ls := [vR (o), vI (s)]) okX6_holds rfl (Nat.le_of_ble_eq_true rfl) rfl ?_
  intro x hx hr hnm
  have hn8 := hW.y.n8
  have htz := hW.t
  refine J_iload_n hx dX6_holds_0 (i := 1) rfl rfl ?_
  refine J_invS (As := [vI (s)]) (st := []) hx lk_X6_63 okX6_isShelf dX6_holds_1 rfl rfl (Nat.le_of_ble_eq_true rfl) (Nat.zero_add _).symm (Nat.zero_add _).symm rfl (c_X6_isShelf (a := s) ?_)
  intro v1 hv1
  refine J_if_eq (tgt := 19) hx dX6_holds_4 (by decide) (fun c2 => ?_) (fun c2 => ?_)
  · refine J_iconst (v := -1) hx dX6_holds_19 (by decide) ?_
    refine J_iret hx hr dX6_holds_20 ?_
    exact hQ.same (v := (-1)) (S := S) (by
      unfold a_holds
      all_goals (try unfold overY at *)
      all_goals (try unfold mayQ at *)
      all_goals (try simp only [Int.toNat_natCast] at *)
      all_goals ((repeat' split) <;> first | rfl | (exfalso; omega) | (congr 1; omega))) hC hN
  · obtain ⟨sN, rfl⟩ : ∃ z : Nat, s = ((z : Nat) : Int) := ⟨s.toNat, by omega⟩
    refine J_aload_n hx dX6_holds_7 (i := 0) rfl rfl ?_
    refine J_getR (b := o + 65) hx fl_X6_54 cl_X6 dX6_holds_8 hC.o (by decide) rfl hC.r7 ?_
    refine J_iload_n hx dX6_holds_11 (i := 1) rfl rfl ?_
    refine J_aald (b := o + 67 + 2 * sN) hx sN dX6_holds_12 hC.k65 (by decide) (by omega) (by rw [hC.n65]; omega) (hC.sre (by omega)) ?_
    refine J_getI2 (v := (S.sh sN).1) hx fl_X6_87 cl_X3 dX6_holds_13 (hC.skd (by omega)) (by decide) rfl (hN.hd (by omega)) ?_
    have rg3 := hW.h (s := sN) (by omega)
    refine J_goto (tgt := 20) hx dX6_holds_16 (by decide) ?_
    refine J_iret hx hr dX6_holds_20 ?_
    exact hQ.same (v := (S.sh sN).1) (S := S) (by
      unfold a_holds
      all_goals (try unfold overY at *)
      all_goals (try unfold mayQ at *)
      all_goals (try simp only [Int.toNat_natCast] at *)
      all_goals ((repeat' split) <;> first | rfl | (exfalso; omega) | (congr 1; omega))) hC hN

set_option maxHeartbeats 4000000 in
theorem c_X6_show {g : WG} {d : Nat} {T : TT} {M : MM} {o sz : Nat} {S : ST} {Q : MVal → TT → MM → Nat → Prop} (hC : CT T o) (hN : CN M o S) (hW : WFS S) {s p : Int} (h_s : -2147483648 ≤ s ∧ s ≤ 2147483647) (h_p : -2147483648 ≤ p ∧ p ≤ 2147483647) (hQ : CQ o T M sz Q (a_show S s p)) : Ct g (d + 2) mX6_show [vR (o), vI (s), vI (p)] T M sz 0 0 Q := by
  refine Ct_of2 (ls := [vR (o), vI (s), vI (p)]) okX6_show rfl (Nat.le_of_ble_eq_true rfl) rfl ?_
  intro x hx hr hnm
  have hn8 := hW.y.n8
  have htz := hW.t
  refine J_iload_n hx dX6_show_0 (i := 1) rfl rfl ?_
  refine J_invS (As := [vI (s)]) (st := []) hx lk_X6_63 okX6_isShelf dX6_show_1 rfl rfl (Nat.le_of_ble_eq_true rfl) (Nat.zero_add _).symm (Nat.zero_add _).symm rfl (c_X6_isShelf (a := s) ?_)
  intro v1 hv1
  refine J_if_eq (tgt := 23) hx dX6_show_4 (by decide) (fun c2 => ?_) (fun c2 => ?_)
  · refine J_aload_n hx dX6_show_23 (i := 0) rfl rfl ?_
    refine J_bipush (v := -2) hx dX6_show_24 (by decide) ?_
    refine J_invV (As := [vI ((-2))]) (st := []) hx lk_X6_67 okX6_refuse dX6_show_26 hC.o (by decide) rfl rfl rfl (Nat.le_of_ble_eq_true rfl) (Nat.zero_add _).symm (Nat.zero_add _).symm rfl (c_X6_refuse hC hN hW (k := 0) (by decide) ?_)
    intro M1 hN1 hf1
    refine J_iret hx hr dX6_show_29 ?_
    exact hQ.to (v := -((0 + 2 : Nat) : Int)) (S := rfS S 0) (by
      unfold a_show
      all_goals (try unfold overY at *)
      all_goals (try unfold mayQ at *)
      all_goals (try simp only [Int.toNat_natCast] at *)
      all_goals ((repeat' split) <;> first | rfl | (exfalso; omega) | (congr 1; omega))) hC hN1 hf1
  · refine J_iload_n hx dX6_show_7 (i := 2) rfl rfl ?_
    refine J_iconst (v := -1) hx dX6_show_8 (by decide) ?_
    refine J_icmp_eq (tgt := 30) hx dX6_show_9 (by decide) (fun c3 => ?_) (fun c3 => ?_)
    · obtain ⟨sN, rfl⟩ : ∃ z : Nat, s = ((z : Nat) : Int) := ⟨s.toNat, by omega⟩
      refine J_aload_n hx dX6_show_30 (i := 0) rfl rfl ?_
      refine J_getR (b := o + 65) hx fl_X6_54 cl_X6 dX6_show_31 hC.o (by decide) rfl hC.r7 ?_
      refine J_iload_n hx dX6_show_34 (i := 1) rfl rfl ?_
      refine J_aald (b := o + 67 + 2 * sN) hx sN dX6_show_35 hC.k65 (by decide) (by omega) (by rw [hC.n65]; omega) (hC.sre (by omega)) ?_
      refine J_iload_n hx dX6_show_36 (i := 2) rfl rfl ?_
      refine J_iconst (v := -1) hx dX6_show_37 (by decide) ?_
      refine J_icmp_ne (tgt := 45) hx dX6_show_38 (by decide) (fun c4 => ?_) (fun c4 => ?_)
      · refine J_bipush (v := 10) hx dX6_show_45 (by decide) ?_
        refine J_iload_n hx dX6_show_47 (i := 2) rfl rfl ?_
        refine J_iadd (v := 10 + p) hx dX6_show_48 (w32_id (by omega) (by omega)) ?_
        refine J_putI hx fl_X6_87 cl_X3 dX6_show_49 (hC.skd (by omega)) (by decide) rfl (Or.inl rfl) (by decide) ?_
        generalize eM1 : up2 M (o + 67 + 2 * sN) 1 (10 + p) = M1
        have hM1a : M1 (o + 67 + 2 * sN) 1 = 10 + p := by rw [← eM1]; exact up2_at
        have hM1o : ∀ b9 j9, (b9 ≠ o + 67 + 2 * sN ∨ j9 ≠ 1) → M1 b9 j9 = M b9 j9 := fun b9 j9 h9 => by rw [← eM1]; exact up2_ne h9
        have hM1r : ∀ b9, b9 ≠ o + 67 + 2 * sN → M1 b9 = M b9 := fun b9 h9 => by rw [← eM1]; exact up2_row h9
        refine J_iconst (v := 1) hx dX6_show_52 (by decide) ?_
        refine J_iret hx hr dX6_show_53 ?_
        exact hQ.to (v := 1) (S := shS S sN (if p = -1 then -1 else 10 + p, 0, fun _ => 0)) (by
          unfold a_show
          all_goals (try unfold overY at *)
          all_goals (try unfold mayQ at *)
          all_goals (try simp only [Int.toNat_natCast] at *)
          all_goals ((repeat' split) <;> first | rfl | (exfalso; omega) | (congr 1; omega))) hC (hN.shelf (by omega) (by rw [hM1a]; dsimp only; split <;> omega) (fun q9 => absurd q9 (by unfold rowH; dsimp only; split <;> omega)) (fun a h1 h2 => by rw [hM1r a h1])) (fun b hb => by rw [hM1r b (by omega)])
      · refine J_iconst (v := -1) hx dX6_show_41 (by decide) ?_
        refine J_goto (tgt := 49) hx dX6_show_42 (by decide) ?_
        refine J_putI hx fl_X6_87 cl_X3 dX6_show_49 (hC.skd (by omega)) (by decide) rfl (Or.inl rfl) (by decide) ?_
        generalize eM1 : up2 M (o + 67 + 2 * sN) 1 (-1) = M1
        have hM1a : M1 (o + 67 + 2 * sN) 1 = (-1) := by rw [← eM1]; exact up2_at
        have hM1o : ∀ b9 j9, (b9 ≠ o + 67 + 2 * sN ∨ j9 ≠ 1) → M1 b9 j9 = M b9 j9 := fun b9 j9 h9 => by rw [← eM1]; exact up2_ne h9
        have hM1r : ∀ b9, b9 ≠ o + 67 + 2 * sN → M1 b9 = M b9 := fun b9 h9 => by rw [← eM1]; exact up2_row h9
        refine J_iconst (v := 1) hx dX6_show_52 (by decide) ?_
        refine J_iret hx hr dX6_show_53 ?_
        exact hQ.to (v := 1) (S := shS S sN (if p = -1 then -1 else 10 + p, 0, fun _ => 0)) (by
          unfold a_show
          all_goals (try unfold overY at *)
          all_goals (try unfold mayQ at *)
          all_goals (try simp only [Int.toNat_natCast] at *)
          all_goals ((repeat' split) <;> first | rfl | (exfalso; omega) | (congr 1; omega))) hC (hN.shelf (by omega) (by rw [hM1a]; dsimp only; split <;> omega) (fun q9 => absurd q9 (by unfold rowH; dsimp only; split <;> omega)) (fun a h1 h2 => by rw [hM1r a h1])) (fun b hb => by rw [hM1r b (by omega)])
    · refine J_aload_n hx dX6_show_12 (i := 0) rfl rfl ?_
      refine J_getR (b := o + 1) hx fl_X6_10 cl_X6 dX6_show_13 hC.o (by decide) rfl hC.r0 ?_
      refine J_iload_n hx dX6_show_16 (i := 2) rfl rfl ?_
      refine J_invV (As := [vI (p)]) (st := []) hx lk_X6_111 okX5_has dX6_show_17 hC.y0.o (by decide) rfl rfl rfl (Nat.le_of_ble_eq_true rfl) (Nat.zero_add _).symm (Nat.zero_add _).symm rfl (c_X5_has hC.y0 hN.y hW.y (one := p) ?_)
      intro v5 hv5
      refine J_if_ne (tgt := 30) hx dX6_show_20 (by decide) (fun c6 => ?_) (fun c6 => ?_)
      · obtain ⟨sN, rfl⟩ : ∃ z : Nat, s = ((z : Nat) : Int) := ⟨s.toNat, by omega⟩
        refine J_aload_n hx dX6_show_30 (i := 0) rfl rfl ?_
        refine J_getR (b := o + 65) hx fl_X6_54 cl_X6 dX6_show_31 hC.o (by decide) rfl hC.r7 ?_
        refine J_iload_n hx dX6_show_34 (i := 1) rfl rfl ?_
        refine J_aald (b := o + 67 + 2 * sN) hx sN dX6_show_35 hC.k65 (by decide) (by omega) (by rw [hC.n65]; omega) (hC.sre (by omega)) ?_
        refine J_iload_n hx dX6_show_36 (i := 2) rfl rfl ?_
        refine J_iconst (v := -1) hx dX6_show_37 (by decide) ?_
        refine J_icmp_ne (tgt := 45) hx dX6_show_38 (by decide) (fun c7 => ?_) (fun c7 => ?_)
        · refine J_bipush (v := 10) hx dX6_show_45 (by decide) ?_
          refine J_iload_n hx dX6_show_47 (i := 2) rfl rfl ?_
          refine J_iadd (v := 10 + p) hx dX6_show_48 (w32_id (by omega) (by omega)) ?_
          refine J_putI hx fl_X6_87 cl_X3 dX6_show_49 (hC.skd (by omega)) (by decide) rfl (Or.inl rfl) (by decide) ?_
          generalize eM1 : up2 M (o + 67 + 2 * sN) 1 (10 + p) = M1
          have hM1a : M1 (o + 67 + 2 * sN) 1 = 10 + p := by rw [← eM1]; exact up2_at
          have hM1o : ∀ b9 j9, (b9 ≠ o + 67 + 2 * sN ∨ j9 ≠ 1) → M1 b9 j9 = M b9 j9 := fun b9 j9 h9 => by rw [← eM1]; exact up2_ne h9
          have hM1r : ∀ b9, b9 ≠ o + 67 + 2 * sN → M1 b9 = M b9 := fun b9 h9 => by rw [← eM1]; exact up2_row h9
          refine J_iconst (v := 1) hx dX6_show_52 (by decide) ?_
          refine J_iret hx hr dX6_show_53 ?_
          exact hQ.to (v := 1) (S := shS S sN (if p = -1 then -1 else 10 + p, 0, fun _ => 0)) (by
            unfold a_show
            all_goals (try unfold overY at *)
            all_goals (try unfold mayQ at *)
            all_goals (try simp only [Int.toNat_natCast] at *)
            all_goals ((repeat' split) <;> first | rfl | (exfalso; omega) | (congr 1; omega))) hC (hN.shelf (by omega) (by rw [hM1a]; dsimp only; split <;> omega) (fun q9 => absurd q9 (by unfold rowH; dsimp only; split <;> omega)) (fun a h1 h2 => by rw [hM1r a h1])) (fun b hb => by rw [hM1r b (by omega)])
        · refine J_iconst (v := -1) hx dX6_show_41 (by decide) ?_
          refine J_goto (tgt := 49) hx dX6_show_42 (by decide) ?_
          refine J_putI hx fl_X6_87 cl_X3 dX6_show_49 (hC.skd (by omega)) (by decide) rfl (Or.inl rfl) (by decide) ?_
          generalize eM1 : up2 M (o + 67 + 2 * sN) 1 (-1) = M1
          have hM1a : M1 (o + 67 + 2 * sN) 1 = (-1) := by rw [← eM1]; exact up2_at
          have hM1o : ∀ b9 j9, (b9 ≠ o + 67 + 2 * sN ∨ j9 ≠ 1) → M1 b9 j9 = M b9 j9 := fun b9 j9 h9 => by rw [← eM1]; exact up2_ne h9
          have hM1r : ∀ b9, b9 ≠ o + 67 + 2 * sN → M1 b9 = M b9 := fun b9 h9 => by rw [← eM1]; exact up2_row h9
          refine J_iconst (v := 1) hx dX6_show_52 (by decide) ?_
          refine J_iret hx hr dX6_show_53 ?_
          exact hQ.to (v := 1) (S := shS S sN (if p = -1 then -1 else 10 + p, 0, fun _ => 0)) (by
            unfold a_show
            all_goals (try unfold overY at *)
            all_goals (try unfold mayQ at *)
            all_goals (try simp only [Int.toNat_natCast] at *)
            all_goals ((repeat' split) <;> first | rfl | (exfalso; omega) | (congr 1; omega))) hC (hN.shelf (by omega) (by rw [hM1a]; dsimp only; split <;> omega) (fun q9 => absurd q9 (by unfold rowH; dsimp only; split <;> omega)) (fun a h1 h2 => by rw [hM1r a h1])) (fun b hb => by rw [hM1r b (by omega)])
      · refine J_aload_n hx dX6_show_23 (i := 0) rfl rfl ?_
        refine J_bipush (v := -2) hx dX6_show_24 (by decide) ?_
        refine J_invV (As := [vI ((-2))]) (st := []) hx lk_X6_67 okX6_refuse dX6_show_26 hC.o (by decide) rfl rfl rfl (Nat.le_of_ble_eq_true rfl) (Nat.zero_add _).symm (Nat.zero_add _).symm rfl (c_X6_refuse hC hN hW (k := 0) (by decide) ?_)
        intro M1 hN1 hf1
        refine J_iret hx hr dX6_show_29 ?_
        exact hQ.to (v := -((0 + 2 : Nat) : Int)) (S := rfS S 0) (by
          unfold a_show
          all_goals (try unfold overY at *)
          all_goals (try unfold mayQ at *)
          all_goals (try simp only [Int.toNat_natCast] at *)
          all_goals ((repeat' split) <;> first | rfl | (exfalso; omega) | (congr 1; omega))) hC hN1 hf1

set_option maxHeartbeats 4000000 in
theorem c_X4_append {g : WG} {d : Nat} {T : TT} {M : MM} {q sz : Nat} {Q : MVal → TT → MM → Nat → Prop} (hk : (T q).1 = 4) (hrf : (T q).2.2 0 = some (q + 1)) (hak : (T (q + 1)).1 = 10) (han : (T (q + 1)).2.1 = 250) {n : Nat} (hz : M q 1 = ((n : Nat) : Int)) {b : Int} (hn : n < 250) (hQ : ∀ M', M' q 1 = ((n : Nat) : Int) + 1 → M' (q + 1) n = b → (∀ j, j ≠ n → M' (q + 1) j = M (q + 1) j) → (∀ a, a ≠ q → a ≠ q + 1 → M' a = M a) → Q (vI (((n : Nat) : Int) + 1)) T M' sz) : Ct g (d + 1) mX4_append [vR (q), vI (b)] T M sz 0 0 Q := by
  refine Ct_of2 (ls := [vR (q), vI (b)]) okX4_append rfl (Nat.le_of_ble_eq_true rfl) rfl ?_
  intro x hx hr hnm
  refine J_aload_n hx dX4_append_0 (i := 0) rfl rfl ?_
  refine J_getI2 (v := ((n : Nat) : Int)) hx fl_X4_19 cl_X4 dX4_append_1 hk (by decide) rfl hz ?_
  refine J_sipush (v := 250) hx dX4_append_4 (by decide) ?_
  refine J_icmp_ge (tgt := 30) hx dX4_append_7 (by decide) (fun c1 => ?_) (fun c1 => ?_)
  · refine J_aload_n hx dX4_append_30 (i := 0) rfl rfl ?_
    refine J_getI2 (v := ((n : Nat) : Int)) hx fl_X4_19 cl_X4 dX4_append_31 hk (by decide) rfl hz ?_
    refine J_iret hx hr dX4_append_34 ?_
    exfalso; omega
  · refine J_aload_n hx dX4_append_10 (i := 0) rfl rfl ?_
    refine J_getR (b := q + 1) hx fl_X4_9 cl_X4 dX4_append_11 hk (by decide) rfl hrf ?_
    refine J_aload_n hx dX4_append_14 (i := 0) rfl rfl ?_
    refine J_getI2 (v := ((n : Nat) : Int)) hx fl_X4_19 cl_X4 dX4_append_15 hk (by decide) rfl hz ?_
    refine J_iload_n hx dX4_append_18 (i := 1) rfl rfl ?_
    refine J_iast hx n dX4_append_19 hak (by omega) (by rw [han]; omega) ?_
    generalize eM1 : up2 M (q + 1) n b = M1
    have hM1a : M1 (q + 1) n = b := by rw [← eM1]; exact up2_at
    have hM1o : ∀ b9 j9, (b9 ≠ q + 1 ∨ j9 ≠ n) → M1 b9 j9 = M b9 j9 := fun b9 j9 h9 => by rw [← eM1]; exact up2_ne h9
    have hM1r : ∀ b9, b9 ≠ q + 1 → M1 b9 = M b9 := fun b9 h9 => by rw [← eM1]; exact up2_row h9
    refine J_aload_n hx dX4_append_20 (i := 0) rfl rfl ?_
    refine J_dup hx dX4_append_21 rfl ?_
    refine J_getI2 (v := ((n : Nat) : Int)) hx fl_X4_19 cl_X4 dX4_append_22 hk (by decide) rfl (by rw [hM1r _ (by omega)]; exact hz) ?_
    refine J_iconst (v := 1) hx dX4_append_25 (by decide) ?_
    refine J_iadd (v := ((n : Nat) : Int) + 1) hx dX4_append_26 (w32_id (by omega) (by omega)) ?_
    refine J_putI hx fl_X4_19 cl_X4 dX4_append_27 hk (by decide) rfl (Or.inl rfl) (by decide) ?_
    generalize eM2 : up2 M1 q 1 (((n : Nat) : Int) + 1) = M2
    have hM2a : M2 q 1 = ((n : Nat) : Int) + 1 := by rw [← eM2]; exact up2_at
    have hM2o : ∀ b9 j9, (b9 ≠ q ∨ j9 ≠ 1) → M2 b9 j9 = M1 b9 j9 := fun b9 j9 h9 => by rw [← eM2]; exact up2_ne h9
    have hM2r : ∀ b9, b9 ≠ q → M2 b9 = M1 b9 := fun b9 h9 => by rw [← eM2]; exact up2_row h9
    refine J_aload_n hx dX4_append_30 (i := 0) rfl rfl ?_
    refine J_getI2 (v := ((n : Nat) : Int) + 1) hx fl_X4_19 cl_X4 dX4_append_31 hk (by decide) rfl hM2a ?_
    refine J_iret hx hr dX4_append_34 ?_
    exact hQ M2 hM2a (by rw [hM2r _ (by omega)]; exact hM1a) (fun j9 h9 => by rw [hM2r _ (by omega)]; exact hM1o _ _ (Or.inr h9)) (fun a ha hb => by rw [hM2r _ ha, hM1r _ hb])

set_option maxHeartbeats 4000000 in
theorem c_X4_clear {g : WG} {d : Nat} {T : TT} {M : MM} {q sz : Nat} {Q : MVal → TT → MM → Nat → Prop} (hk : (T q).1 = 4) (hrf : (T q).2.2 0 = some (q + 1)) (hak : (T (q + 1)).1 = 10) (han : (T (q + 1)).2.1 = 250) {n : Nat} (hz : M q 1 = ((n : Nat) : Int)) (hn : n ≤ 250) (hQ : ∀ M', M' q 1 = 0 → (∀ a, a ≠ q → M' a = M a) → Q (vI ((n : Nat) : Int)) T M' sz) : Ct g (d + 1) mX4_clear [vR (q)] T M sz 0 0 Q := by
  refine Ct_of2 (ls := [vR (q), vU]) okX4_clear rfl (Nat.le_of_ble_eq_true rfl) rfl ?_
  intro x hx hr hnm
  refine J_aload_n hx dX4_clear_0 (i := 0) rfl rfl ?_
  refine J_getI2 (v := ((n : Nat) : Int)) hx fl_X4_19 cl_X4 dX4_clear_1 hk (by decide) rfl hz ?_
  refine J_istore_n (lsn := [vR (q), vI (((n : Nat) : Int))]) hx dX4_clear_4 (i := 1) rfl (Nat.le_of_ble_eq_true rfl) rfl rfl ?_
  refine J_aload_n hx dX4_clear_5 (i := 0) rfl rfl ?_
  refine J_iconst (v := 0) hx dX4_clear_6 (by decide) ?_
  refine J_putI hx fl_X4_19 cl_X4 dX4_clear_7 hk (by decide) rfl (Or.inl rfl) (by decide) ?_
  generalize eM1 : up2 M q 1 0 = M1
  have hM1a : M1 q 1 = 0 := by rw [← eM1]; exact up2_at
  have hM1o : ∀ b9 j9, (b9 ≠ q ∨ j9 ≠ 1) → M1 b9 j9 = M b9 j9 := fun b9 j9 h9 => by rw [← eM1]; exact up2_ne h9
  have hM1r : ∀ b9, b9 ≠ q → M1 b9 = M b9 := fun b9 h9 => by rw [← eM1]; exact up2_row h9
  refine J_iload_n hx dX4_clear_10 (i := 1) rfl rfl ?_
  refine J_iret hx hr dX4_clear_11 ?_
  exact hQ M1 hM1a (fun a ha => by rw [hM1r _ ha])

set_option maxHeartbeats 4000000 in
theorem c_X6_feed {g : WG} {d : Nat} {T : TT} {M : MM} {o sz : Nat} {S : ST} {Q : MVal → TT → MM → Nat → Prop} (hC : CT T o) (hN : CN M o S) (hW : WFS S) {b : Int} (h_b : -2147483648 ≤ b ∧ b ≤ 2147483647) (hQ : CQ o T M sz Q (a_feed S b)) : Ct g (d + 2) mX6_feed [vR (o), vI (b)] T M sz 0 0 Q := by
  refine Ct_of2 (ls := [vR (o), vI (b)]) okX6_feed rfl (Nat.le_of_ble_eq_true rfl) rfl ?_
  intro x hx hr hnm
  have hn8 := hW.y.n8
  have htz := hW.t
  refine J_iload_n hx dX6_feed_0 (i := 1) rfl rfl ?_
  refine J_if_lt (tgt := 11) hx dX6_feed_1 (by decide) (fun c1 => ?_) (fun c1 => ?_)
  · refine J_aload_n hx dX6_feed_11 (i := 0) rfl rfl ?_
    refine J_bipush (v := -2) hx dX6_feed_12 (by decide) ?_
    refine J_invV (As := [vI ((-2))]) (st := []) hx lk_X6_67 okX6_refuse dX6_feed_14 hC.o (by decide) rfl rfl rfl (Nat.le_of_ble_eq_true rfl) (Nat.zero_add _).symm (Nat.zero_add _).symm rfl (c_X6_refuse hC hN hW (k := 0) (by decide) ?_)
    intro M1 hN1 hf1
    refine J_iret hx hr dX6_feed_17 ?_
    exact hQ.to (v := -((0 + 2 : Nat) : Int)) (S := rfS S 0) (by
      unfold a_feed
      all_goals (try unfold overY at *)
      all_goals (try unfold mayQ at *)
      all_goals (try simp only [Int.toNat_natCast] at *)
      all_goals ((repeat' split) <;> first | rfl | (exfalso; omega) | (congr 1; omega))) hC hN1 hf1
  · refine J_iload_n hx dX6_feed_4 (i := 1) rfl rfl ?_
    refine J_sipush (v := 255) hx dX6_feed_5 (by decide) ?_
    refine J_icmp_le (tgt := 18) hx dX6_feed_8 (by decide) (fun c2 => ?_) (fun c2 => ?_)
    · refine J_aload_n hx dX6_feed_18 (i := 0) rfl rfl ?_
      refine J_getR (b := o + 63) hx fl_X6_48 cl_X6 dX6_feed_19 hC.o (by decide) rfl hC.r6 ?_
      refine J_getI2 (v := ((S.tp.1 : Nat) : Int)) hx fl_X6_172 cl_X4 dX6_feed_22 hC.k63 (by decide) rfl hN.tz ?_
      have rg3 := hW.t
      refine J_sipush (v := 250) hx dX6_feed_25 (by decide) ?_
      refine J_icmp_lt (tgt := 38) hx dX6_feed_28 (by decide) (fun c4 => ?_) (fun c4 => ?_)
      · refine J_aload_n hx dX6_feed_38 (i := 0) rfl rfl ?_
        refine J_getR (b := o + 63) hx fl_X6_48 cl_X6 dX6_feed_39 hC.o (by decide) rfl hC.r6 ?_
        refine J_iload_n hx dX6_feed_42 (i := 1) rfl rfl ?_
        refine J_invV (As := [vI (b)]) (st := []) hx lk_X6_173 okX4_append dX6_feed_43 hC.k63 (by decide) rfl rfl rfl (Nat.le_of_ble_eq_true rfl) (Nat.zero_add _).symm (Nat.zero_add _).symm rfl (c_X4_append hC.k63 hC.t0 hC.k64 hC.n64 hN.tz (b := b) (by omega) ?_)
        intro M2 h1 h2 h3 h4
        refine J_iret hx hr dX6_feed_46 ?_
        exact hQ.to (v := ((S.tp.1 : Nat) : Int) + 1) (S := tpS S (S.tp.1 + 1, fun j => if j = S.tp.1 then b else S.tp.2 j)) (by
          unfold a_feed
          all_goals (try unfold overY at *)
          all_goals (try unfold mayQ at *)
          all_goals (try simp only [Int.toNat_natCast] at *)
          all_goals ((repeat' split) <;> first | rfl | (exfalso; omega) | (congr 1; omega))) hC (hN.tape (by rw [h1]; dsimp only; omega) (fun j9 h9 => by
            dsimp only at h9 ⊢
            by_cases e : j9 = S.tp.1
            · rw [if_pos e, e]; exact h2
            · rw [if_neg e, h3 j9 e]; exact hN.tb (by omega)) h4) (fun b hb => h4 b (by omega) (by omega))
      · refine J_aload_n hx dX6_feed_31 (i := 0) rfl rfl ?_
        refine J_bipush (v := -6) hx dX6_feed_32 (by decide) ?_
        refine J_invV (As := [vI ((-6))]) (st := []) hx lk_X6_67 okX6_refuse dX6_feed_34 hC.o (by decide) rfl rfl rfl (Nat.le_of_ble_eq_true rfl) (Nat.zero_add _).symm (Nat.zero_add _).symm rfl (c_X6_refuse hC hN hW (k := 4) (by decide) ?_)
        intro M1 hN1 hf1
        refine J_iret hx hr dX6_feed_37 ?_
        exact hQ.to (v := -((4 + 2 : Nat) : Int)) (S := rfS S 4) (by
          unfold a_feed
          all_goals (try unfold overY at *)
          all_goals (try unfold mayQ at *)
          all_goals (try simp only [Int.toNat_natCast] at *)
          all_goals ((repeat' split) <;> first | rfl | (exfalso; omega) | (congr 1; omega))) hC hN1 hf1
    · refine J_aload_n hx dX6_feed_11 (i := 0) rfl rfl ?_
      refine J_bipush (v := -2) hx dX6_feed_12 (by decide) ?_
      refine J_invV (As := [vI ((-2))]) (st := []) hx lk_X6_67 okX6_refuse dX6_feed_14 hC.o (by decide) rfl rfl rfl (Nat.le_of_ble_eq_true rfl) (Nat.zero_add _).symm (Nat.zero_add _).symm rfl (c_X6_refuse hC hN hW (k := 0) (by decide) ?_)
      intro M1 hN1 hf1
      refine J_iret hx hr dX6_feed_17 ?_
      exact hQ.to (v := -((0 + 2 : Nat) : Int)) (S := rfS S 0) (by
        unfold a_feed
        all_goals (try unfold overY at *)
        all_goals (try unfold mayQ at *)
        all_goals (try simp only [Int.toNat_natCast] at *)
        all_goals ((repeat' split) <;> first | rfl | (exfalso; omega) | (congr 1; omega))) hC hN1 hf1

set_option maxHeartbeats 4000000 in
theorem c_X6_wipe {g : WG} {d : Nat} {T : TT} {M : MM} {o sz : Nat} {S : ST} {Q : MVal → TT → MM → Nat → Prop} (hC : CT T o) (hN : CN M o S) (hW : WFS S)  (hQ : CQ o T M sz Q (a_wipe S)) : Ct g (d + 2) mX6_wipe [vR (o)] T M sz 0 0 Q := by
  refine Ct_of2 (ls := [vR (o)]) okX6_wipe rfl (Nat.le_of_ble_eq_true rfl) rfl ?_
  intro x hx hr hnm
  have hn8 := hW.y.n8
  have htz := hW.t
  refine J_aload_n hx dX6_wipe_0 (i := 0) rfl rfl ?_
  refine J_getR (b := o + 63) hx fl_X6_48 cl_X6 dX6_wipe_1 hC.o (by decide) rfl hC.r6 ?_
  refine J_invV (As := []) (st := []) hx lk_X6_176 okX4_clear dX6_wipe_4 hC.k63 (by decide) rfl rfl rfl (Nat.le_of_ble_eq_true rfl) (Nat.zero_add _).symm (Nat.zero_add _).symm rfl (c_X4_clear hC.k63 hC.t0 hC.k64 hC.n64 hN.tz hW.t ?_)
  intro M2 h1 h4
  refine J_iret hx hr dX6_wipe_7 ?_
  exact hQ.to (v := ((S.tp.1 : Nat) : Int)) (S := tpS S (0, S.tp.2)) (by
    unfold a_wipe
    all_goals (try unfold overY at *)
    all_goals (try unfold mayQ at *)
    all_goals (try simp only [Int.toNat_natCast] at *)
    all_goals ((repeat' split) <;> first | rfl | (exfalso; omega) | (congr 1; omega))) hC (hN.tape (by rw [h1]; rfl) (fun j9 h9 => absurd h9 (Nat.not_lt_zero j9)) (fun a ha _ => h4 a ha)) (fun b hb => h4 b (by omega))

