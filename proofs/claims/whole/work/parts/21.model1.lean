theorem oddsB_anti {A : YA} (h : WFY A) (f : Int) {s t : Int} (hst : s ≤ t) : oddsB A f t ≤ oddsB A f s := by
  have h2 := h.s2
  have ht := oddsB_rg h f t
  unfold oddsB at *
  by_cases h1 : f + A.sc 2 - 1 - t ≤ 0
  · rw [if_pos h1] at ht ⊢
    have := (oddsB_rg h f s).1
    unfold oddsB at this; exact this
  · rw [if_neg h1] at ht ⊢
    rw [if_neg (show ¬ f + A.sc 2 - 1 - s ≤ 0 by omega)]
    by_cases h3 : A.sc 2 ≤ f + A.sc 2 - 1 - s
    · rw [if_pos h3]; exact ht.2
    · rw [if_neg h3, if_neg (show ¬ A.sc 2 ≤ f + A.sc 2 - 1 - t by omega)]
      exact Int.ediv_le_ediv (by omega) (by omega)
theorem minS_le {A : YA} {l : List Nat} : ∀ {j k : Nat}, k ≤ j → minS A l j ≤ strl A l k
  | 0, k, h => by rw [show k = 0 by omega]; exact Int.le_refl _
  | j + 1, k, h => by
    have e : minS A l (j + 1) = if strl A l (j + 1) < minS A l j then strl A l (j + 1) else minS A l j := rfl
    rw [e]
    by_cases hk : k = j + 1
    · subst hk; split <;> omega
    · have := minS_le (A := A) (l := l) (j := j) (k := k) (by omega)
      split <;> omega
theorem minS_at {A : YA} {l : List Nat} : ∀ (j : Nat), ∃ k, k ≤ j ∧ minS A l j = strl A l k
  | 0 => ⟨0, Nat.le_refl _, rfl⟩
  | j + 1 => by
    obtain ⟨k, h1, h2⟩ := minS_at (A := A) (l := l) j
    have e : minS A l (j + 1) = if strl A l (j + 1) < minS A l j then strl A l (j + 1) else minS A l j := rfl
    rw [e]
    split
    · exact ⟨j + 1, Nat.le_refl _, rfl⟩
    · exact ⟨k, by omega, h2⟩
theorem atY_lt {A : YA} (h2 : 2 ≤ (A.ch A.tn).length) (p : Nat) : atY A p + 1 < (A.ch A.tn).length := by
  have := (qn_some (k := fun j => - oddsY A p j) (j := (A.ch A.tn).length - 1) (by omega)).2
  unfold atY; omega
theorem atY_odds {A : YA} (h : WFY A) (h2 : 2 ≤ (A.ch A.tn).length) (p : Nat) : oddsY A p (atY A p) = oddsB A (force A p) (leastS A (A.ch A.tn)) := by
  have hs := (qn_some (k := fun j => - oddsY A p j) (j := (A.ch A.tn).length - 1) (by omega)).1
  have hspec := pick_spec tt_ (fun j => - oddsY A p j) ((A.ch A.tn).length - 1)
  rw [hs] at hspec
  obtain ⟨b1, -, b3, -⟩ := hspec
  have hl : leastS A (A.ch A.tn) = minS A (A.ch A.tn) ((A.ch A.tn).length - 2) := by unfold leastS; rw [if_neg (by omega)]
  obtain ⟨k, k1, k2⟩ := minS_at (A := A) (l := A.ch A.tn) ((A.ch A.tn).length - 2)
  have e1 := b3 k (by omega) rfl
  have e2 := minS_le (A := A) (l := A.ch A.tn) (j := (A.ch A.tn).length - 2) (k := atY A p) (by unfold atY; omega)
  have e3 := oddsB_anti h (force A p) e2
  have e4 : oddsY A p k = oddsB A (force A p) (minS A (A.ch A.tn) ((A.ch A.tn).length - 2)) := by unfold oddsY; rw [k2]
  rw [hl, ← e4]
  rw [← e4] at e3
  have e5 : oddsY A p (atY A p) ≤ oddsY A p k := e3
  have e6 : - oddsY A p (atY A p) ≤ - oddsY A p k := e1
  omega
def key2 (A : YA) (rule : Int) (p : Nat) : Int := if rule = 1 then A.att 2 p else oddsY A p (atY A p)
theorem who_key {A : YA} (h : WFY A) (h2 : 2 ≤ (A.ch A.tn).length) {rule : Int} (hr : rule = 0 ∨ rule = 1) (i : Nat) : pick (calY A) (key2 A rule) i = pick (calY A) (keyY A rule) i := by
  refine pick_congr (fun _ _ => rfl) (fun j _ _ => ?_)
  unfold key2 keyY
  rcases hr with rfl | rfl
  · rw [if_neg (by decide), if_pos rfl]; exact atY_odds h h2 j
  · rw [if_pos rfl, if_neg (by decide)]
def least1 (A : YA) (l : List Nat) : Int := if l.length < 2 then -1 else minS A l (l.length - 2)

set_option maxHeartbeats 4000000 in
theorem c_X7_in {g : WG} {d : Nat} {T : TT} {M : MM} {sz : Nat} {Q : MVal → TT → MM → Nat → Prop} {a lo hi : Int} (hQ : ∀ v : Int, ((v = 1 ∧ lo ≤ a ∧ a ≤ hi) ∨ (v = 0 ∧ ¬ (lo ≤ a ∧ a ≤ hi))) → Q (vI v) T M sz) : Ct g (d + 1) mX7_in [vL (a), vL (lo), vL (hi)] T M sz 0 0 Q := by
  refine Ct_of2 (ls := [vL (a), vU, vL (lo), vU, vL (hi), vU]) okX7_in rfl (Nat.le_of_ble_eq_true rfl) rfl ?_
  intro x hx hr hnm
  refine J_lload_n hx dX7_in_0 (i := 0) rfl rfl ?_
  refine J_lload_n hx dX7_in_1 (i := 2) rfl rfl ?_
  refine J_lc_lt (tgt := 17) hx dX7_in_2 dX7_in_3 (by decide) (fun c1 => ?_) (fun c1 => ?_)
  · refine J_iconst (v := 0) hx dX7_in_17 (by decide) ?_
    refine J_zret hx hr dX7_in_18 (by omega) ?_
    exact hQ _ (by omega)
  · refine J_lload_n hx dX7_in_6 (i := 0) rfl rfl ?_
    refine J_lload hx dX7_in_7 rfl ?_
    refine J_lc_gt (tgt := 17) hx dX7_in_9 dX7_in_10 (by decide) (fun c2 => ?_) (fun c2 => ?_)
    · refine J_iconst (v := 0) hx dX7_in_17 (by decide) ?_
      refine J_zret hx hr dX7_in_18 (by omega) ?_
      exact hQ _ (by omega)
    · refine J_iconst (v := 1) hx dX7_in_13 (by decide) ?_
      refine J_goto (tgt := 18) hx dX7_in_14 (by decide) ?_
      refine J_zret hx hr dX7_in_18 (by omega) ?_
      exact hQ _ (by omega)

set_option maxHeartbeats 4000000 in
theorem c_X7_isOne {g : WG} {d : Nat} {T : TT} {M : MM} {r sz : Nat} {A : YA} {Q : MVal → TT → MM → Nat → Prop} (hT : MT T r) (hN : MN M r A) (hW : WFY A) {one : Int} (h1 : -2147483648 ≤ one ∧ one ≤ 2147483647) (hQ : ∀ v : Int, ((v = 1 ∧ 0 ≤ one ∧ one < A.n) ∨ (v = 0 ∧ ¬ (0 ≤ one ∧ one < A.n))) → Q (vI v) T M sz) : Ct g (d + 2) mX7_isOne [vR (r), vI (one)] T M sz 0 0 Q := by
  refine Ct_of2 (ls := [vR (r), vI (one)]) okX7_isOne rfl (Nat.le_of_ble_eq_true rfl) rfl ?_
  intro x hx hr hnm
  refine J_iload_n hx dX7_isOne_0 (i := 1) rfl rfl ?_
  refine J_i2l hx dX7_isOne_1 ?_
  refine J_lconst (v := 0) hx dX7_isOne_2 (by decide) ?_
  refine J_aload_n hx dX7_isOne_3 (i := 0) rfl rfl ?_
  refine J_getI2 (v := ((A.n : Nat) : Int)) hx fl_X7_82 cl_X7 dX7_isOne_4 hT.o (by decide) rfl hN.pp ?_
  have rg1 := hW.n8
  refine J_iconst (v := 1) hx dX7_isOne_7 (by decide) ?_
  refine J_isub (v := ((A.n : Nat) : Int) - 1) hx dX7_isOne_8 (w32_id (by omega) (by omega)) ?_
  refine J_i2l hx dX7_isOne_9 ?_
  refine J_invS (As := [vL (one), vL (0), vL (((A.n : Nat) : Int) - 1)]) (st := []) hx lk_X7_85 okX7_in dX7_isOne_10 rfl rfl (Nat.le_of_ble_eq_true rfl) (Nat.zero_add _).symm (Nat.zero_add _).symm rfl (c_X7_in (a := one) (lo := 0) (hi := ((A.n : Nat) : Int) - 1) ?_)
  intro v2 hv2
  refine J_zret hx hr dX7_isOne_13 (by omega) ?_
  exact hQ _ (by omega)

set_option maxHeartbeats 4000000 in
theorem c_X7_isJoint {g : WG} {d : Nat} {T : TT} {M : MM} {r sz : Nat} {A : YA} {Q : MVal → TT → MM → Nat → Prop} (hT : MT T r) (hN : MN M r A) (hW : WFY A) {c : Nat} (hc : c < 2) {k : Int} (hQ : ∀ v : Int, ((v = 1 ∧ 0 ≤ k ∧ k + 1 < (A.ch c).length) ∨ (v = 0 ∧ ¬ (0 ≤ k ∧ k + 1 < (A.ch c).length))) → Q (vI v) T M sz) : Ct g (d + 2) mX7_isJoint [vR (r), vI (((c : Nat) : Int)), vI (k)] T M sz 0 0 Q := by
  refine Ct_of2 (ls := [vR (r), vI (((c : Nat) : Int)), vI (k)]) okX7_isJoint rfl (Nat.le_of_ble_eq_true rfl) rfl ?_
  intro x hx hr hnm
  refine J_iload_n hx dX7_isJoint_0 (i := 2) rfl rfl ?_
  refine J_i2l hx dX7_isJoint_1 ?_
  refine J_lconst (v := 0) hx dX7_isJoint_2 (by decide) ?_
  refine J_aload_n hx dX7_isJoint_3 (i := 0) rfl rfl ?_
  refine J_getR (b := r + 25) hx fl_X7_57 cl_X7 dX7_isJoint_4 hT.o (by decide) rfl hT.r16 ?_
  refine J_iload_n hx dX7_isJoint_7 (i := 1) rfl rfl ?_
  refine J_iald2 (v := (((A.ch c).length : Nat) : Int)) hx c dX7_isJoint_8 hT.k25 (by omega) (hT.l25 (by omega)) (hN.sz (by omega)) ?_
  have rg1 := hW.len8 (c := c) (by omega)
  have rg2 := hW.lenN (c := c) (by omega)
  refine J_iconst (v := 2) hx dX7_isJoint_9 (by decide) ?_
  refine J_isub (v := (((A.ch c).length : Nat) : Int) - 2) hx dX7_isJoint_10 (w32_id (by omega) (by omega)) ?_
  refine J_i2l hx dX7_isJoint_11 ?_
  refine J_invS (As := [vL (k), vL (0), vL ((((A.ch c).length : Nat) : Int) - 2)]) (st := []) hx lk_X7_85 okX7_in dX7_isJoint_12 rfl rfl (Nat.le_of_ble_eq_true rfl) (Nat.zero_add _).symm (Nat.zero_add _).symm rfl (c_X7_in (a := k) (lo := 0) (hi := (((A.ch c).length : Nat) : Int) - 2) ?_)
  intro v3 hv3
  refine J_zret hx hr dX7_isJoint_15 (by omega) ?_
  exact hQ _ (by omega)

set_option maxHeartbeats 4000000 in
theorem lp2_X7_placeOf {g : WG} {d : Nat} {T : TT} {M : MM} {r sz : Nat} {A : YA} {Q : MVal → TT → MM → Nat → Prop} (hT : MT T r) (hN : MN M r A) (hW : WFY A) {x : CX} (hx : OKx g x RX7 cX7_placeOf (d + 1)) (hr : RTx g x (some .int) Q) {p c : Nat} (hp : p < A.n) (hc : c < 2) (hQ : Q (vI ((10 * A.co p + plcY A p : Nat) : Int)) T M sz) (hK : (∀ i, i < (A.ch c).length → (A.ch c).getD i 0 ≠ p) → Jd g x 44 [vR r, vI ((p : Nat) : Int), vI ((c : Nat) : Int), vI (((A.ch c).length : Nat) : Int)] [] T M sz 0 0) (k : Nat) (hk : k ≤ (A.ch c).length) (hno : ∀ i, i < k → (A.ch c).getD i 0 ≠ p) : Jd g x 9 [vR (r), vI (((p : Nat) : Int)), vI (((c : Nat) : Int)), vI (((k : Nat) : Int))] [] T M sz 0 0 := by
  have hl8 := hW.len8 hc
  have hn8 := hW.n8
  refine J_iload_n hx dX7_placeOf_9 (i := 3) rfl rfl ?_
  refine J_aload_n hx dX7_placeOf_10 (i := 0) rfl rfl ?_
  refine J_getR (b := r + 25) hx fl_X7_57 cl_X7 dX7_placeOf_11 hT.o (by decide) rfl hT.r16 ?_
  refine J_iload_n hx dX7_placeOf_14 (i := 2) rfl rfl ?_
  refine J_iald2 (v := (((A.ch c).length : Nat) : Int)) hx c dX7_placeOf_15 hT.k25 (by omega) (hT.l25 (by omega)) (hN.sz (by omega)) ?_
  have rg1 := hW.len8 (c := c) (by omega)
  have rg2 := hW.lenN (c := c) (by omega)
  refine J_icmp_ge (tgt := 44) hx dX7_placeOf_16 (by decide) (fun c3 => ?_) (fun c3 => ?_)
  · have ek : k = (A.ch c).length := by omega
    subst ek
    exact hK hno
  · refine J_aload_n hx dX7_placeOf_19 (i := 0) rfl rfl ?_
    refine J_getR (b := r + 22) hx fl_X7_54 cl_X7 dX7_placeOf_20 hT.o (by decide) rfl hT.r15 ?_
    refine J_iload_n hx dX7_placeOf_23 (i := 2) rfl rfl ?_
    refine J_aald (b := r + 23 + c) hx c dX7_placeOf_24 hT.k22 (by decide) (by omega) (hT.l22 (by omega)) (hT.f22 (by omega)) ?_
    refine J_iload_n hx dX7_placeOf_25 (i := 3) rfl rfl ?_
    refine J_iald2 (v := (((A.ch c).getD k 0 : Nat) : Int)) hx k dX7_placeOf_26 (hT.kl (by omega)) (by omega) (hT.ll (by omega) (by omega)) (hN.ln (by omega) (by omega)) ?_
    have rg4 := hW.at (c := c) (k := k) (by omega) (by omega)
    refine J_iload_n hx dX7_placeOf_27 (i := 1) rfl rfl ?_
    refine J_icmp_ne (tgt := 38) hx dX7_placeOf_28 (by decide) (fun c5 => ?_) (fun c5 => ?_)
    · refine J_iinc (v := ((k : Nat) : Int) + 1) (lsn := [vR (r), vI (((p : Nat) : Int)), vI (((c : Nat) : Int)), vI (((k : Nat) : Int) + 1)]) hx dX7_placeOf_38 rfl (jinc1 (by omega) (by omega)) rfl rfl ?_
      refine J_goto (tgt := 9) hx dX7_placeOf_41 (by decide) ?_
      exact lp2_X7_placeOf hT hN hW hx hr hp hc hQ hK (k + 1) (by omega) (fun i9 h9 => by
          by_cases e9 : i9 = k
          · subst e9; omega
          · exact hno i9 (by omega))
    · refine J_bipush (v := 10) hx dX7_placeOf_31 (by decide) ?_
      refine J_iload_n hx dX7_placeOf_33 (i := 2) rfl rfl ?_
      refine J_imul (v := 10 * ((c : Nat) : Int)) hx dX7_placeOf_34 (w32_id (by omega) (by omega)) ?_
      refine J_iload_n hx dX7_placeOf_35 (i := 3) rfl rfl ?_
      refine J_iadd (v := 10 * ((c : Nat) : Int) + ((k : Nat) : Int)) hx dX7_placeOf_36 (w32_id (by omega) (by omega)) ?_
      refine J_iret hx hr dX7_placeOf_37 ?_
      refine Qv hQ ?_
      have h8 : (A.ch c).getD k 0 = p := by omega
      have h7 : p ∈ A.ch c := by rw [← h8]; exact hW.mem hc (by omega)
      have h6 := hW.co hc h7
      have h9 := idxOf_getD (hW.nd hc) (show k < (A.ch c).length by omega)
      rw [h8] at h9
      unfold plcY
      rw [h6, h9]
      omega
termination_by (A.ch c).length - k
decreasing_by all_goals omega

set_option maxHeartbeats 4000000 in
theorem c_X7_placeOf {g : WG} {d : Nat} {T : TT} {M : MM} {r sz : Nat} {A : YA} {Q : MVal → TT → MM → Nat → Prop} (hT : MT T r) (hN : MN M r A) (hW : WFY A) {p : Nat} (hp : p < A.n) (hQ : Q (vI ((10 * A.co p + plcY A p : Nat) : Int)) T M sz) : Ct g (d + 1) mX7_placeOf [vR (r), vI (((p : Nat) : Int))] T M sz 0 0 Q := by
  refine Ct_of2 (ls := [vR (r), vI (((p : Nat) : Int)), vU, vU]) okX7_placeOf rfl (Nat.le_of_ble_eq_true rfl) rfl ?_
  intro x hx hr hnm
  have hl0 := hW.len8 (c := 0) (by decide)
  have hl1 := hW.len8 (c := 1) (by decide)
  refine J_iconst (v := 0) hx dX7_placeOf_0 (by decide) ?_
  refine J_istore_n (lsn := [vR (r), vI (((p : Nat) : Int)), vI (0), vU]) hx dX7_placeOf_1 (i := 2) rfl (Nat.le_of_ble_eq_true rfl) rfl rfl ?_
  refine J_iload_n hx dX7_placeOf_2 (i := 2) rfl rfl ?_
  refine J_iconst (v := 2) hx dX7_placeOf_3 (by decide) ?_
  refine J_icmp_ge (tgt := 50) hx dX7_placeOf_4 (by decide) (fun c9 => absurd c9 (by decide)) (fun _ => ?_)
  refine J_iconst (v := 0) hx dX7_placeOf_7 (by decide) ?_
  refine J_istore_n (lsn := [vR (r), vI (((p : Nat) : Int)), vI (0), vI (0)]) hx dX7_placeOf_8 (i := 3) rfl (Nat.le_of_ble_eq_true rfl) rfl rfl ?_
  refine lp2_X7_placeOf hT hN hW hx hr hp (c := 0) (by decide) hQ (fun hno0 => ?_) 0 (by omega) (fun i9 h9 => absurd h9 (Nat.not_lt_zero i9))
  refine J_iinc (v := 1) (lsn := [vR (r), vI (((p : Nat) : Int)), vI (1), vI (((A.ch 0).length : Nat) : Int)]) hx dX7_placeOf_44 rfl (by decide) rfl rfl ?_
  refine J_goto (tgt := 2) hx dX7_placeOf_47 (by decide) ?_
  refine J_iload_n hx dX7_placeOf_2 (i := 2) rfl rfl ?_
  refine J_iconst (v := 2) hx dX7_placeOf_3 (by decide) ?_
  refine J_icmp_ge (tgt := 50) hx dX7_placeOf_4 (by decide) (fun c9 => absurd c9 (by decide)) (fun _ => ?_)
  refine J_iconst (v := 0) hx dX7_placeOf_7 (by decide) ?_
  refine J_istore_n (lsn := [vR (r), vI (((p : Nat) : Int)), vI (1), vI (0)]) hx dX7_placeOf_8 (i := 3) rfl (Nat.le_of_ble_eq_true rfl) rfl rfl ?_
  refine lp2_X7_placeOf hT hN hW hx hr hp (c := 1) (by decide) hQ (fun hno1 => ?_) 0 (by omega) (fun i9 h9 => absurd h9 (Nat.not_lt_zero i9))
  exfalso
  have hh : ∀ c, (∀ i, i < (A.ch c).length → (A.ch c).getD i 0 ≠ p) → p ∉ A.ch c := fun c h q => h _ (List.idxOf_lt_length_iff.mpr q) (getD_idxOf q)
  exact (hW.cov hp).elim (hh 0 hno0) (hh 1 hno1)
set_option maxHeartbeats 4000000 in
theorem c_X7_chainAt {g : WG} {d : Nat} {T : TT} {M : MM} {r sz : Nat} {A : YA} {Q : MVal → TT → MM → Nat → Prop} (hT : MT T r) (hN : MN M r A) (hW : WFY A) {p : Nat} (hp : p < A.n) (hQ : Q (vI ((A.co p : Nat) : Int)) T M sz) : Ct g (d + 2) mX7_chainAt [vR (r), vI (((p : Nat) : Int))] T M sz 0 0 Q := by
  refine Ct_of2 (ls := [vR (r), vI (((p : Nat) : Int))]) okX7_chainAt rfl (Nat.le_of_ble_eq_true rfl) rfl ?_
  intro x hx hr hnm
  have hn8 := hW.n8
  refine J_aload_n hx dX7_chainAt_0 (i := 0) rfl rfl ?_
  refine J_iload_n hx dX7_chainAt_1 (i := 1) rfl rfl ?_
  refine J_invV (As := [vI (((p : Nat) : Int))]) (st := []) hx lk_X7_89 okX7_placeOf dX7_chainAt_2 hT.o (by decide) rfl rfl rfl (Nat.le_of_ble_eq_true rfl) (Nat.zero_add _).symm (Nat.zero_add _).symm rfl (c_X7_placeOf hT hN hW (p := p) (by omega) ?_)
  have rg1 := A.co2 p
  have rg2 := plcY_lt hW (p := p) (by omega)
  have rg3 := hW.len8 (c := A.co p) (by omega)
  refine J_bipush (v := 10) hx dX7_chainAt_5 (by decide) ?_
  refine J_idiv (v := ((10 * A.co p + plcY A p : Nat) : Int) / 10) hx dX7_chainAt_7 (by omega) (jdiv (by omega) (by omega) (by omega)) ?_
  refine J_iret hx hr dX7_chainAt_8 ?_
  exact Qv hQ (by omega)

set_option maxHeartbeats 4000000 in
theorem c_X7_hold {g : WG} {d : Nat} {T : TT} {M : MM} {r sz : Nat} {A : YA} {Q : MVal → TT → MM → Nat → Prop} (hT : MT T r) (hN : MN M r A) (hW : WFY A) {p : Nat} (hp : p < A.n) {b : Int} (hb : b = -1 ∨ (0 ≤ b ∧ b < A.n)) (hQ : Q (vI (hold A p b)) T M sz) : Ct g (d + 1) mX7_hold [vR (r), vI (((p : Nat) : Int)), vI (b)] T M sz 0 0 Q := by
  refine Ct_of2 (ls := [vR (r), vI (((p : Nat) : Int)), vI (b), vU]) okX7_hold rfl (Nat.le_of_ble_eq_true rfl) rfl ?_
  intro x hx hr hnm
  have hn8 := hW.n8
  refine J_aload_n hx dX7_hold_0 (i := 0) rfl rfl ?_
  refine J_getR (b := r + 18) hx fl_X7_40 cl_X7 dX7_hold_1 hT.o (by decide) rfl hT.r11 ?_
  refine J_iload_n hx dX7_hold_4 (i := 1) rfl rfl ?_
  refine J_iald2 (v := A.att 1 p) hx p dX7_hold_5 hT.k18 (by omega) (hT.l18 (by omega)) (hN.gr (by omega)) ?_
  have rg1 := hW.gr (p := p) (by omega)
  refine J_aload_n hx dX7_hold_6 (i := 0) rfl rfl ?_
  refine J_getR (b := r + 20) hx fl_X7_46 cl_X7 dX7_hold_7 hT.o (by decide) rfl hT.r13 ?_
  refine J_iload_n hx dX7_hold_10 (i := 1) rfl rfl ?_
  refine J_iald2 (v := A.att 3 p) hx p dX7_hold_11 hT.k20 (by omega) (hT.l20 (by omega)) (hN.ti (by omega)) ?_
  have rg2 := hW.ti (p := p) (by omega)
  refine J_icmp_le (tgt := 31) hx dX7_hold_12 (by decide) (fun c3 => ?_) (fun c3 => ?_)
  · refine J_iconst (v := 0) hx dX7_hold_31 (by decide) ?_
    refine J_istore_n (lsn := [vR (r), vI (((p : Nat) : Int)), vI (b), vI (0)]) hx dX7_hold_32 (i := 3) rfl (Nat.le_of_ble_eq_true rfl) rfl rfl ?_
    refine J_aload_n hx dX7_hold_33 (i := 0) rfl rfl ?_
    refine J_getR (b := r + 17) hx fl_X7_37 cl_X7 dX7_hold_34 hT.o (by decide) rfl hT.r10 ?_
    refine J_iload_n hx dX7_hold_37 (i := 1) rfl rfl ?_
    refine J_iald2 (v := A.att 0 p) hx p dX7_hold_38 hT.k17 (by omega) (hT.l17 (by omega)) (hN.kd (by omega)) ?_
    have rg4 := hW.kd (p := p) (by omega)
    by_cases t5_0 : A.att 0 p = 1
    · refine J_tswIn (tgt := 72) (off := 33) hx dX7_hold_39 (by omega) (by omega) (by rw [t5_0]; rfl) (by decide) ?_
      refine J_iload_n hx dX7_hold_72 (i := 3) rfl rfl ?_
      refine J_aload_n hx dX7_hold_73 (i := 0) rfl rfl ?_
      refine J_getR (b := r + 21) hx fl_X7_49 cl_X7 dX7_hold_74 hT.o (by decide) rfl hT.r14 ?_
      refine J_iload_n hx dX7_hold_77 (i := 1) rfl rfl ?_
      refine J_iald2 (v := A.att 4 p) hx p dX7_hold_78 hT.k21 (by omega) (hT.l21 (by omega)) (hN.by_ (by omega)) ?_
      have rg6 := hW.by_ (p := p) (by omega)
      refine J_iadd (v := 0 + (A.att 4 p)) hx dX7_hold_79 (w32_id (by omega) (by omega)) ?_
      refine J_iret hx hr dX7_hold_80 ?_
      exact Qv hQ (by unfold hold holdB; (repeat' split) <;> omega)
    by_cases t5_1 : A.att 0 p = 2
    · refine J_tswIn (tgt := 111) (off := 72) hx dX7_hold_39 (by omega) (by omega) (by rw [t5_1]; rfl) (by decide) ?_
      refine J_iload_n hx dX7_hold_111 (i := 3) rfl rfl ?_
      refine J_iconst (v := 2) hx dX7_hold_112 (by decide) ?_
      refine J_idiv (v := 0 / 2) hx dX7_hold_113 (by omega) (jdiv (by omega) (by omega) (by omega)) ?_
      refine J_iret hx hr dX7_hold_114 ?_
      exact Qv hQ (by unfold hold holdB; (repeat' split) <;> omega)
    by_cases t5_2 : A.att 0 p = 3
    · refine J_tswIn (tgt := 81) (off := 42) hx dX7_hold_39 (by omega) (by omega) (by rw [t5_2]; rfl) (by decide) ?_
      refine J_iload_n hx dX7_hold_81 (i := 3) rfl rfl ?_
      refine J_aload_n hx dX7_hold_82 (i := 0) rfl rfl ?_
      refine J_getR (b := r + 21) hx fl_X7_49 cl_X7 dX7_hold_83 hT.o (by decide) rfl hT.r14 ?_
      refine J_iload_n hx dX7_hold_86 (i := 1) rfl rfl ?_
      refine J_iald2 (v := A.att 4 p) hx p dX7_hold_87 hT.k21 (by omega) (hT.l21 (by omega)) (hN.by_ (by omega)) ?_
      have rg7 := hW.by_ (p := p) (by omega)
      refine J_iadd (v := 0 + (A.att 4 p)) hx dX7_hold_88 (w32_id (by omega) (by omega)) ?_
      refine J_iload_n hx dX7_hold_89 (i := 2) rfl rfl ?_
      refine J_iconst (v := -1) hx dX7_hold_90 (by decide) ?_
      refine J_icmp_eq (tgt := 108) hx dX7_hold_91 (by decide) (fun c8 => ?_) (fun c8 => ?_)
      · refine J_iconst (v := 0) hx dX7_hold_108 (by decide) ?_
        refine J_iadd (v := 0 + (A.att 4 p) + 0) hx dX7_hold_109 (w32_id (by omega) (by omega)) ?_
        refine J_iret hx hr dX7_hold_110 ?_
        exact Qv hQ (by unfold hold holdB; (repeat' split) <;> omega)
      · refine J_aload_n hx dX7_hold_94 (i := 0) rfl rfl ?_
        refine J_getR (b := r + 17) hx fl_X7_37 cl_X7 dX7_hold_95 hT.o (by decide) rfl hT.r10 ?_
        refine J_iload_n hx dX7_hold_98 (i := 2) rfl rfl ?_
        refine J_iald2 (v := A.att 0 (Int.toNat (b))) hx (Int.toNat (b)) dX7_hold_99 hT.k17 (by omega) (hT.l17 (by omega)) (hN.kd (by omega)) ?_
        have rg9 := hW.kd (p := Int.toNat (b)) (by omega)
        refine J_iconst (v := 3) hx dX7_hold_100 (by decide) ?_
        refine J_icmp_ne (tgt := 108) hx dX7_hold_101 (by decide) (fun c10 => ?_) (fun c10 => ?_)
        · refine J_iconst (v := 0) hx dX7_hold_108 (by decide) ?_
          refine J_iadd (v := 0 + (A.att 4 p) + 0) hx dX7_hold_109 (w32_id (by omega) (by omega)) ?_
          refine J_iret hx hr dX7_hold_110 ?_
          exact Qv hQ (by unfold hold holdB; (repeat' split) <;> omega)
        · refine J_iconst (v := 5) hx dX7_hold_104 (by decide) ?_
          refine J_goto (tgt := 109) hx dX7_hold_105 (by decide) ?_
          refine J_iadd (v := 0 + (A.att 4 p) + 5) hx dX7_hold_109 (w32_id (by omega) (by omega)) ?_
          refine J_iret hx hr dX7_hold_110 ?_
          exact Qv hQ (by unfold hold holdB; (repeat' split) <;> omega)
    by_cases t5_3 : A.att 0 p = 4
    · refine J_tswIn (tgt := 115) (off := 76) hx dX7_hold_39 (by omega) (by omega) (by rw [t5_3]; rfl) (by decide) ?_
      refine J_iload_n hx dX7_hold_115 (i := 3) rfl rfl ?_
      refine J_aload_n hx dX7_hold_116 (i := 0) rfl rfl ?_
      refine J_getR (b := r + 19) hx fl_X7_43 cl_X7 dX7_hold_117 hT.o (by decide) rfl hT.r12 ?_
      refine J_iload_n hx dX7_hold_120 (i := 1) rfl rfl ?_
      refine J_iald2 (v := A.att 2 p) hx p dX7_hold_121 hT.k19 (by omega) (hT.l19 (by omega)) (hN.we (by omega)) ?_
      have rg11 := hW.we (p := p) (by omega)
      refine J_iconst (v := 4) hx dX7_hold_122 (by decide) ?_
      refine J_idiv (v := (A.att 2 p) / 4) hx dX7_hold_123 (by omega) (jdiv (by omega) (by omega) (by omega)) ?_
      refine J_iadd (v := 0 + ((A.att 2 p) / 4)) hx dX7_hold_124 (w32_id (by omega) (by omega)) ?_
      refine J_iret hx hr dX7_hold_125 ?_
      exact Qv hQ (by unfold hold holdB; (repeat' split) <;> omega)
    by_cases t5_4 : A.att 0 p = 5
    · refine J_tswIn (tgt := 111) (off := 72) hx dX7_hold_39 (by omega) (by omega) (by rw [t5_4]; rfl) (by decide) ?_
      refine J_iload_n hx dX7_hold_111 (i := 3) rfl rfl ?_
      refine J_iconst (v := 2) hx dX7_hold_112 (by decide) ?_
      refine J_idiv (v := 0 / 2) hx dX7_hold_113 (by omega) (jdiv (by omega) (by omega) (by omega)) ?_
      refine J_iret hx hr dX7_hold_114 ?_
      exact Qv hQ (by unfold hold holdB; (repeat' split) <;> omega)
    refine J_tswOut (tgt := 126) hx dX7_hold_39 (by omega) (by decide) ?_
    refine J_iload_n hx dX7_hold_126 (i := 3) rfl rfl ?_
    refine J_iret hx hr dX7_hold_127 ?_
    exact Qv hQ (by unfold hold holdB; (repeat' split) <;> omega)
  · refine J_aload_n hx dX7_hold_15 (i := 0) rfl rfl ?_
    refine J_getR (b := r + 18) hx fl_X7_40 cl_X7 dX7_hold_16 hT.o (by decide) rfl hT.r11 ?_
    refine J_iload_n hx dX7_hold_19 (i := 1) rfl rfl ?_
    refine J_iald2 (v := A.att 1 p) hx p dX7_hold_20 hT.k18 (by omega) (hT.l18 (by omega)) (hN.gr (by omega)) ?_
    have rg12 := hW.gr (p := p) (by omega)
    refine J_aload_n hx dX7_hold_21 (i := 0) rfl rfl ?_
    refine J_getR (b := r + 20) hx fl_X7_46 cl_X7 dX7_hold_22 hT.o (by decide) rfl hT.r13 ?_
    refine J_iload_n hx dX7_hold_25 (i := 1) rfl rfl ?_
    refine J_iald2 (v := A.att 3 p) hx p dX7_hold_26 hT.k20 (by omega) (hT.l20 (by omega)) (hN.ti (by omega)) ?_
    have rg13 := hW.ti (p := p) (by omega)
    refine J_isub (v := A.att 1 p - (A.att 3 p)) hx dX7_hold_27 (w32_id (by omega) (by omega)) ?_
    refine J_goto (tgt := 32) hx dX7_hold_28 (by decide) ?_
    refine J_istore_n (lsn := [vR (r), vI (((p : Nat) : Int)), vI (b), vI (A.att 1 p - (A.att 3 p))]) hx dX7_hold_32 (i := 3) rfl (Nat.le_of_ble_eq_true rfl) rfl rfl ?_
    refine J_aload_n hx dX7_hold_33 (i := 0) rfl rfl ?_
    refine J_getR (b := r + 17) hx fl_X7_37 cl_X7 dX7_hold_34 hT.o (by decide) rfl hT.r10 ?_
    refine J_iload_n hx dX7_hold_37 (i := 1) rfl rfl ?_
    refine J_iald2 (v := A.att 0 p) hx p dX7_hold_38 hT.k17 (by omega) (hT.l17 (by omega)) (hN.kd (by omega)) ?_
    have rg14 := hW.kd (p := p) (by omega)
    by_cases t15_0 : A.att 0 p = 1
    · refine J_tswIn (tgt := 72) (off := 33) hx dX7_hold_39 (by omega) (by omega) (by rw [t15_0]; rfl) (by decide) ?_
      refine J_iload_n hx dX7_hold_72 (i := 3) rfl rfl ?_
      refine J_aload_n hx dX7_hold_73 (i := 0) rfl rfl ?_
      refine J_getR (b := r + 21) hx fl_X7_49 cl_X7 dX7_hold_74 hT.o (by decide) rfl hT.r14 ?_
      refine J_iload_n hx dX7_hold_77 (i := 1) rfl rfl ?_
      refine J_iald2 (v := A.att 4 p) hx p dX7_hold_78 hT.k21 (by omega) (hT.l21 (by omega)) (hN.by_ (by omega)) ?_
      have rg16 := hW.by_ (p := p) (by omega)
      refine J_iadd (v := A.att 1 p - (A.att 3 p) + (A.att 4 p)) hx dX7_hold_79 (w32_id (by omega) (by omega)) ?_
      refine J_iret hx hr dX7_hold_80 ?_
      exact Qv hQ (by unfold hold holdB; (repeat' split) <;> omega)
    by_cases t15_1 : A.att 0 p = 2
    · refine J_tswIn (tgt := 111) (off := 72) hx dX7_hold_39 (by omega) (by omega) (by rw [t15_1]; rfl) (by decide) ?_
      refine J_iload_n hx dX7_hold_111 (i := 3) rfl rfl ?_
      refine J_iconst (v := 2) hx dX7_hold_112 (by decide) ?_
      refine J_idiv (v := (A.att 1 p - (A.att 3 p)) / 2) hx dX7_hold_113 (by omega) (jdiv (by omega) (by omega) (by omega)) ?_
      refine J_iret hx hr dX7_hold_114 ?_
      exact Qv hQ (by unfold hold holdB; (repeat' split) <;> omega)
    by_cases t15_2 : A.att 0 p = 3
    · refine J_tswIn (tgt := 81) (off := 42) hx dX7_hold_39 (by omega) (by omega) (by rw [t15_2]; rfl) (by decide) ?_
      refine J_iload_n hx dX7_hold_81 (i := 3) rfl rfl ?_
      refine J_aload_n hx dX7_hold_82 (i := 0) rfl rfl ?_
      refine J_getR (b := r + 21) hx fl_X7_49 cl_X7 dX7_hold_83 hT.o (by decide) rfl hT.r14 ?_
      refine J_iload_n hx dX7_hold_86 (i := 1) rfl rfl ?_
      refine J_iald2 (v := A.att 4 p) hx p dX7_hold_87 hT.k21 (by omega) (hT.l21 (by omega)) (hN.by_ (by omega)) ?_
      have rg17 := hW.by_ (p := p) (by omega)
      refine J_iadd (v := A.att 1 p - (A.att 3 p) + (A.att 4 p)) hx dX7_hold_88 (w32_id (by omega) (by omega)) ?_
      refine J_iload_n hx dX7_hold_89 (i := 2) rfl rfl ?_
      refine J_iconst (v := -1) hx dX7_hold_90 (by decide) ?_
      refine J_icmp_eq (tgt := 108) hx dX7_hold_91 (by decide) (fun c18 => ?_) (fun c18 => ?_)
      · refine J_iconst (v := 0) hx dX7_hold_108 (by decide) ?_
        refine J_iadd (v := A.att 1 p - (A.att 3 p) + (A.att 4 p) + 0) hx dX7_hold_109 (w32_id (by omega) (by omega)) ?_
        refine J_iret hx hr dX7_hold_110 ?_
        exact Qv hQ (by unfold hold holdB; (repeat' split) <;> omega)
      · refine J_aload_n hx dX7_hold_94 (i := 0) rfl rfl ?_
        refine J_getR (b := r + 17) hx fl_X7_37 cl_X7 dX7_hold_95 hT.o (by decide) rfl hT.r10 ?_
        refine J_iload_n hx dX7_hold_98 (i := 2) rfl rfl ?_
        refine J_iald2 (v := A.att 0 (Int.toNat (b))) hx (Int.toNat (b)) dX7_hold_99 hT.k17 (by omega) (hT.l17 (by omega)) (hN.kd (by omega)) ?_
        have rg19 := hW.kd (p := Int.toNat (b)) (by omega)
        refine J_iconst (v := 3) hx dX7_hold_100 (by decide) ?_
        refine J_icmp_ne (tgt := 108) hx dX7_hold_101 (by decide) (fun c20 => ?_) (fun c20 => ?_)
        · refine J_iconst (v := 0) hx dX7_hold_108 (by decide) ?_
          refine J_iadd (v := A.att 1 p - (A.att 3 p) + (A.att 4 p) + 0) hx dX7_hold_109 (w32_id (by omega) (by omega)) ?_
          refine J_iret hx hr dX7_hold_110 ?_
          exact Qv hQ (by unfold hold holdB; (repeat' split) <;> omega)
        · refine J_iconst (v := 5) hx dX7_hold_104 (by decide) ?_
          refine J_goto (tgt := 109) hx dX7_hold_105 (by decide) ?_
          refine J_iadd (v := A.att 1 p - (A.att 3 p) + (A.att 4 p) + 5) hx dX7_hold_109 (w32_id (by omega) (by omega)) ?_
          refine J_iret hx hr dX7_hold_110 ?_
          exact Qv hQ (by unfold hold holdB; (repeat' split) <;> omega)
    by_cases t15_3 : A.att 0 p = 4
    · refine J_tswIn (tgt := 115) (off := 76) hx dX7_hold_39 (by omega) (by omega) (by rw [t15_3]; rfl) (by decide) ?_
      refine J_iload_n hx dX7_hold_115 (i := 3) rfl rfl ?_
      refine J_aload_n hx dX7_hold_116 (i := 0) rfl rfl ?_
      refine J_getR (b := r + 19) hx fl_X7_43 cl_X7 dX7_hold_117 hT.o (by decide) rfl hT.r12 ?_
      refine J_iload_n hx dX7_hold_120 (i := 1) rfl rfl ?_
      refine J_iald2 (v := A.att 2 p) hx p dX7_hold_121 hT.k19 (by omega) (hT.l19 (by omega)) (hN.we (by omega)) ?_
      have rg21 := hW.we (p := p) (by omega)
      refine J_iconst (v := 4) hx dX7_hold_122 (by decide) ?_
      refine J_idiv (v := (A.att 2 p) / 4) hx dX7_hold_123 (by omega) (jdiv (by omega) (by omega) (by omega)) ?_
      refine J_iadd (v := A.att 1 p - (A.att 3 p) + ((A.att 2 p) / 4)) hx dX7_hold_124 (w32_id (by omega) (by omega)) ?_
      refine J_iret hx hr dX7_hold_125 ?_
      exact Qv hQ (by unfold hold holdB; (repeat' split) <;> omega)
    by_cases t15_4 : A.att 0 p = 5
    · refine J_tswIn (tgt := 111) (off := 72) hx dX7_hold_39 (by omega) (by omega) (by rw [t15_4]; rfl) (by decide) ?_
      refine J_iload_n hx dX7_hold_111 (i := 3) rfl rfl ?_
      refine J_iconst (v := 2) hx dX7_hold_112 (by decide) ?_
      refine J_idiv (v := (A.att 1 p - (A.att 3 p)) / 2) hx dX7_hold_113 (by omega) (jdiv (by omega) (by omega) (by omega)) ?_
      refine J_iret hx hr dX7_hold_114 ?_
      exact Qv hQ (by unfold hold holdB; (repeat' split) <;> omega)
    refine J_tswOut (tgt := 126) hx dX7_hold_39 (by omega) (by decide) ?_
    refine J_iload_n hx dX7_hold_126 (i := 3) rfl rfl ?_
    refine J_iret hx hr dX7_hold_127 ?_
    exact Qv hQ (by unfold hold holdB; (repeat' split) <;> omega)

set_option maxHeartbeats 4000000 in
theorem c_X7_force {g : WG} {d : Nat} {T : TT} {M : MM} {r sz : Nat} {A : YA} {Q : MVal → TT → MM → Nat → Prop} (hT : MT T r) (hN : MN M r A) (hW : WFY A) {p : Nat} (hp : p < A.n) (hQ : Q (vI (force A p)) T M sz) : Ct g (d + 1) mX7_force [vR (r), vI (((p : Nat) : Int))] T M sz 0 0 Q := by
  refine Ct_of2 (ls := [vR (r), vI (((p : Nat) : Int)), vU]) okX7_force rfl (Nat.le_of_ble_eq_true rfl) rfl ?_
  intro x hx hr hnm
  have hn8 := hW.n8
  refine J_aload_n hx dX7_force_0 (i := 0) rfl rfl ?_
  refine J_getR (b := r + 19) hx fl_X7_43 cl_X7 dX7_force_1 hT.o (by decide) rfl hT.r12 ?_
  refine J_iload_n hx dX7_force_4 (i := 1) rfl rfl ?_
  refine J_iald2 (v := A.att 2 p) hx p dX7_force_5 hT.k19 (by omega) (hT.l19 (by omega)) (hN.we (by omega)) ?_
  have rg1 := hW.we (p := p) (by omega)
  refine J_aload_n hx dX7_force_6 (i := 0) rfl rfl ?_
  refine J_getI2 (v := A.sc 1) hx fl_X7_60 cl_X7 dX7_force_7 hT.o (by decide) rfl hN.s1 ?_
  have rg2 := hW.s1
  refine J_iconst (v := 3) hx dX7_force_10 (by decide) ?_
  refine J_idiv (v := (A.sc 1) / 3) hx dX7_force_11 (by omega) (jdiv (by omega) (by omega) (by omega)) ?_
  refine J_iadd (v := A.att 2 p + ((A.sc 1) / 3)) hx dX7_force_12 (w32_id (by omega) (by omega)) ?_
  refine J_istore_n (lsn := [vR (r), vI (((p : Nat) : Int)), vI (A.att 2 p + ((A.sc 1) / 3))]) hx dX7_force_13 (i := 2) rfl (Nat.le_of_ble_eq_true rfl) rfl rfl ?_
  refine J_aload_n hx dX7_force_14 (i := 0) rfl rfl ?_
  refine J_getR (b := r + 17) hx fl_X7_37 cl_X7 dX7_force_15 hT.o (by decide) rfl hT.r10 ?_
  refine J_iload_n hx dX7_force_18 (i := 1) rfl rfl ?_
  refine J_iald2 (v := A.att 0 p) hx p dX7_force_19 hT.k17 (by omega) (hT.l17 (by omega)) (hN.kd (by omega)) ?_
  have rg3 := hW.kd (p := p) (by omega)
  refine J_iconst (v := 4) hx dX7_force_20 (by decide) ?_
  refine J_icmp_ne (tgt := 35) hx dX7_force_21 (by decide) (fun c4 => ?_) (fun c4 => ?_)
  · refine J_aload_n hx dX7_force_35 (i := 0) rfl rfl ?_
    refine J_getR (b := r + 17) hx fl_X7_37 cl_X7 dX7_force_36 hT.o (by decide) rfl hT.r10 ?_
    refine J_iload_n hx dX7_force_39 (i := 1) rfl rfl ?_
    refine J_iald2 (v := A.att 0 p) hx p dX7_force_40 hT.k17 (by omega) (hT.l17 (by omega)) (hN.kd (by omega)) ?_
    have rg5 := hW.kd (p := p) (by omega)
    refine J_iconst (v := 5) hx dX7_force_41 (by decide) ?_
    refine J_icmp_ne (tgt := 51) hx dX7_force_42 (by decide) (fun c6 => ?_) (fun c6 => ?_)
    · refine J_iload_n hx dX7_force_51 (i := 2) rfl rfl ?_
      refine J_iret hx hr dX7_force_52 ?_
      exact Qv hQ (by unfold force; (repeat' split) <;> omega)
    · refine J_iload_n hx dX7_force_45 (i := 2) rfl rfl ?_
      refine J_iconst (v := 2) hx dX7_force_46 (by decide) ?_
      refine J_iadd (v := A.att 2 p + ((A.sc 1) / 3) + 2) hx dX7_force_47 (w32_id (by omega) (by omega)) ?_
      refine J_goto (tgt := 52) hx dX7_force_48 (by decide) ?_
      refine J_iret hx hr dX7_force_52 ?_
      exact Qv hQ (by unfold force; (repeat' split) <;> omega)
  · refine J_iload_n hx dX7_force_24 (i := 2) rfl rfl ?_
    refine J_aload_n hx dX7_force_25 (i := 0) rfl rfl ?_
    refine J_getR (b := r + 21) hx fl_X7_49 cl_X7 dX7_force_26 hT.o (by decide) rfl hT.r14 ?_
    refine J_iload_n hx dX7_force_29 (i := 1) rfl rfl ?_
    refine J_iald2 (v := A.att 4 p) hx p dX7_force_30 hT.k21 (by omega) (hT.l21 (by omega)) (hN.by_ (by omega)) ?_
    have rg7 := hW.by_ (p := p) (by omega)
    refine J_iadd (v := A.att 2 p + ((A.sc 1) / 3) + (A.att 4 p)) hx dX7_force_31 (w32_id (by omega) (by omega)) ?_
    refine J_goto (tgt := 52) hx dX7_force_32 (by decide) ?_
    refine J_iret hx hr dX7_force_52 ?_
    exact Qv hQ (by unfold force; (repeat' split) <;> omega)

set_option maxHeartbeats 4000000 in
theorem c_X7_strengthOf {g : WG} {d : Nat} {T : TT} {M : MM} {r sz : Nat} {A : YA} {Q : MVal → TT → MM → Nat → Prop} (hT : MT T r) (hN : MN M r A) (hW : WFY A) {l : List Nat} {q : Nat} (hk : (T q).1 = 10) (hn : (T q).2.1 = 8) (hl : ∀ k, k < l.length → M q k = ((l.getD k 0 : Nat) : Int)) (hlt : ∀ p ∈ l, p < A.n) (h8 : l.length ≤ 8) {j : Nat} (hj : j + 1 < l.length) (hQ : Q (vI (strl A l j)) T M sz) : Ct g (d + 2) mX7_strengthOf [vR (r), vR (q), vI (((l.length : Nat) : Int)), vI (((j : Nat) : Int))] T M sz 0 0 Q := by
  refine Ct_of2 (ls := [vR (r), vR (q), vI (((l.length : Nat) : Int)), vI (((j : Nat) : Int)), vU]) okX7_strengthOf rfl (Nat.le_of_ble_eq_true rfl) rfl ?_
  intro x hx hr hnm
  have hn8 := hW.n8
  refine J_aload_n hx dX7_strengthOf_0 (i := 0) rfl rfl ?_
  refine J_aload_n hx dX7_strengthOf_1 (i := 1) rfl rfl ?_
  refine J_iload_n hx dX7_strengthOf_2 (i := 3) rfl rfl ?_
  refine J_iald2 (v := ((l.getD j 0 : Nat) : Int)) hx j dX7_strengthOf_3 hk (by omega) (by rw [hn]; omega) (hl j (by omega)) ?_
  have rg1 := getD_lt hlt (k := j) (by omega)
  refine J_aload_n hx dX7_strengthOf_4 (i := 1) rfl rfl ?_
  refine J_iload_n hx dX7_strengthOf_5 (i := 3) rfl rfl ?_
  refine J_iconst (v := 1) hx dX7_strengthOf_6 (by decide) ?_
  refine J_iadd (v := ((j : Nat) : Int) + 1) hx dX7_strengthOf_7 (w32_id (by omega) (by omega)) ?_
  refine J_iald2 (v := ((l.getD (j + 1) 0 : Nat) : Int)) hx (j + 1) dX7_strengthOf_8 hk (by omega) (by rw [hn]; omega) (hl (j + 1) (by omega)) ?_
  have rg2 := getD_lt hlt (k := j + 1) (by omega)
  refine J_invV (As := [vI (((l.getD j 0 : Nat) : Int)), vI (((l.getD (j + 1) 0 : Nat) : Int))]) (st := []) hx lk_X7_122 okX7_hold dX7_strengthOf_9 hT.o (by decide) rfl rfl rfl (Nat.le_of_ble_eq_true rfl) (Nat.zero_add _).symm (Nat.zero_add _).symm rfl (c_X7_hold hT hN hW (p := l.getD j 0) (by omega) (b := ((l.getD (j + 1) 0 : Nat) : Int)) (by omega) ?_)
  have rg3 := hold_rg hW (p := l.getD j 0) (by omega) ((l.getD (j + 1) 0 : Nat) : Int)
  refine J_aload_n hx dX7_strengthOf_12 (i := 0) rfl rfl ?_
  refine J_aload_n hx dX7_strengthOf_13 (i := 1) rfl rfl ?_
  refine J_iload_n hx dX7_strengthOf_14 (i := 3) rfl rfl ?_
  refine J_iconst (v := 1) hx dX7_strengthOf_15 (by decide) ?_
  refine J_iadd (v := ((j : Nat) : Int) + 1) hx dX7_strengthOf_16 (w32_id (by omega) (by omega)) ?_
  refine J_iald2 (v := ((l.getD (j + 1) 0 : Nat) : Int)) hx (j + 1) dX7_strengthOf_17 hk (by omega) (by rw [hn]; omega) (hl (j + 1) (by omega)) ?_
  have rg4 := getD_lt hlt (k := j + 1) (by omega)
  refine J_aload_n hx dX7_strengthOf_18 (i := 1) rfl rfl ?_
  refine J_iload_n hx dX7_strengthOf_19 (i := 3) rfl rfl ?_
  refine J_iald2 (v := ((l.getD j 0 : Nat) : Int)) hx j dX7_strengthOf_20 hk (by omega) (by rw [hn]; omega) (hl j (by omega)) ?_
  have rg5 := getD_lt hlt (k := j) (by omega)
  refine J_invV (As := [vI (((l.getD (j + 1) 0 : Nat) : Int)), vI (((l.getD j 0 : Nat) : Int))]) (st := [vI (hold A (l.getD j 0) ((l.getD (j + 1) 0 : Nat) : Int))]) hx lk_X7_122 okX7_hold dX7_strengthOf_21 hT.o (by decide) rfl rfl rfl (Nat.le_of_ble_eq_true rfl) (Nat.zero_add _).symm (Nat.zero_add _).symm rfl (c_X7_hold hT hN hW (p := l.getD (j + 1) 0) (by omega) (b := ((l.getD j 0 : Nat) : Int)) (by omega) ?_)
  have rg6 := hold_rg hW (p := l.getD (j + 1) 0) (by omega) ((l.getD j 0 : Nat) : Int)
  refine J_iadd (v := hold A (l.getD j 0) ((l.getD (j + 1) 0 : Nat) : Int) + (hold A (l.getD (j + 1) 0) ((l.getD j 0 : Nat) : Int))) hx dX7_strengthOf_24 (w32_id (by omega) (by omega)) ?_
  refine J_iconst (v := 3) hx dX7_strengthOf_25 (by decide) ?_
  refine J_aload_n hx dX7_strengthOf_26 (i := 0) rfl rfl ?_
  refine J_getI2 (v := A.sc 3) hx fl_X7_145 cl_X7 dX7_strengthOf_27 hT.o (by decide) rfl hN.s3 ?_
  have rg7 := hW.s3
  refine J_imul (v := 3 * (A.sc 3)) hx dX7_strengthOf_30 (w32_id (by omega) (by omega)) ?_
  refine J_iadd (v := hold A (l.getD j 0) ((l.getD (j + 1) 0 : Nat) : Int) + (hold A (l.getD (j + 1) 0) ((l.getD j 0 : Nat) : Int)) + (3 * (A.sc 3))) hx dX7_strengthOf_31 (w32_id (by omega) (by omega)) ?_
  refine J_istore (lsn := [vR (r), vR (q), vI (((l.length : Nat) : Int)), vI (((j : Nat) : Int)), vI (hold A (l.getD j 0) ((l.getD (j + 1) 0 : Nat) : Int) + (hold A (l.getD (j + 1) 0) ((l.getD j 0 : Nat) : Int)) + (3 * (A.sc 3)))]) hx dX7_strengthOf_32 (Nat.le_of_ble_eq_true rfl) rfl rfl ?_
  refine J_iload_n hx dX7_strengthOf_34 (i := 3) rfl rfl ?_
  refine J_if_eq (tgt := 45) hx dX7_strengthOf_35 (by decide) (fun c8 => ?_) (fun c8 => ?_)
  · refine J_iload hx dX7_strengthOf_45 rfl ?_
    refine J_iconst (v := 2) hx dX7_strengthOf_47 (by decide) ?_
    refine J_icmp_le (tgt := 58) hx dX7_strengthOf_48 (by decide) (fun c9 => ?_) (fun c9 => ?_)
    · refine J_iconst (v := 0) hx dX7_strengthOf_58 (by decide) ?_
      refine J_istore (lsn := [vR (r), vR (q), vI (((l.length : Nat) : Int)), vI (((j : Nat) : Int)), vI (0)]) hx dX7_strengthOf_59 (Nat.le_of_ble_eq_true rfl) rfl rfl ?_
      refine J_iload hx dX7_strengthOf_61 rfl ?_
      refine J_iret hx hr dX7_strengthOf_63 ?_
      exact Qv hQ (by unfold strl strb; (repeat' split) <;> omega)
    · refine J_iload hx dX7_strengthOf_51 rfl ?_
      refine J_iconst (v := 2) hx dX7_strengthOf_53 (by decide) ?_
      refine J_isub (v := hold A (l.getD j 0) ((l.getD (j + 1) 0 : Nat) : Int) + (hold A (l.getD (j + 1) 0) ((l.getD j 0 : Nat) : Int)) + (3 * (A.sc 3)) - 2) hx dX7_strengthOf_54 (w32_id (by omega) (by omega)) ?_
      refine J_goto (tgt := 59) hx dX7_strengthOf_55 (by decide) ?_
      refine J_istore (lsn := [vR (r), vR (q), vI (((l.length : Nat) : Int)), vI (((j : Nat) : Int)), vI (hold A (l.getD j 0) ((l.getD (j + 1) 0 : Nat) : Int) + (hold A (l.getD (j + 1) 0) ((l.getD j 0 : Nat) : Int)) + (3 * (A.sc 3)) - 2)]) hx dX7_strengthOf_59 (Nat.le_of_ble_eq_true rfl) rfl rfl ?_
      refine J_iload hx dX7_strengthOf_61 rfl ?_
      refine J_iret hx hr dX7_strengthOf_63 ?_
      exact Qv hQ (by unfold strl strb; (repeat' split) <;> omega)
  · refine J_iload_n hx dX7_strengthOf_38 (i := 3) rfl rfl ?_
    refine J_iload_n hx dX7_strengthOf_39 (i := 2) rfl rfl ?_
    refine J_iconst (v := 2) hx dX7_strengthOf_40 (by decide) ?_
    refine J_isub (v := ((l.length : Nat) : Int) - 2) hx dX7_strengthOf_41 (w32_id (by omega) (by omega)) ?_
    refine J_icmp_ne (tgt := 61) hx dX7_strengthOf_42 (by decide) (fun c10 => ?_) (fun c10 => ?_)
    · refine J_iload hx dX7_strengthOf_61 rfl ?_
      refine J_iret hx hr dX7_strengthOf_63 ?_
      exact Qv hQ (by unfold strl strb; (repeat' split) <;> omega)
    · refine J_iload hx dX7_strengthOf_45 rfl ?_
      refine J_iconst (v := 2) hx dX7_strengthOf_47 (by decide) ?_
      refine J_icmp_le (tgt := 58) hx dX7_strengthOf_48 (by decide) (fun c11 => ?_) (fun c11 => ?_)
      · refine J_iconst (v := 0) hx dX7_strengthOf_58 (by decide) ?_
        refine J_istore (lsn := [vR (r), vR (q), vI (((l.length : Nat) : Int)), vI (((j : Nat) : Int)), vI (0)]) hx dX7_strengthOf_59 (Nat.le_of_ble_eq_true rfl) rfl rfl ?_
        refine J_iload hx dX7_strengthOf_61 rfl ?_
        refine J_iret hx hr dX7_strengthOf_63 ?_
        exact Qv hQ (by unfold strl strb; (repeat' split) <;> omega)
      · refine J_iload hx dX7_strengthOf_51 rfl ?_
        refine J_iconst (v := 2) hx dX7_strengthOf_53 (by decide) ?_
        refine J_isub (v := hold A (l.getD j 0) ((l.getD (j + 1) 0 : Nat) : Int) + (hold A (l.getD (j + 1) 0) ((l.getD j 0 : Nat) : Int)) + (3 * (A.sc 3)) - 2) hx dX7_strengthOf_54 (w32_id (by omega) (by omega)) ?_
        refine J_goto (tgt := 59) hx dX7_strengthOf_55 (by decide) ?_
        refine J_istore (lsn := [vR (r), vR (q), vI (((l.length : Nat) : Int)), vI (((j : Nat) : Int)), vI (hold A (l.getD j 0) ((l.getD (j + 1) 0 : Nat) : Int) + (hold A (l.getD (j + 1) 0) ((l.getD j 0 : Nat) : Int)) + (3 * (A.sc 3)) - 2)]) hx dX7_strengthOf_59 (Nat.le_of_ble_eq_true rfl) rfl rfl ?_
        refine J_iload hx dX7_strengthOf_61 rfl ?_
        refine J_iret hx hr dX7_strengthOf_63 ?_
        exact Qv hQ (by unfold strl strb; (repeat' split) <;> omega)

theorem least1_rg {A : YA} (h : WFY A) {l : List Nat} (hl : ∀ p ∈ l, p < A.n) : -1 ≤ least1 A l ∧ least1 A l ≤ 71 := by
  unfold least1
  split
  · omega
  · have := minS_rg h hl (j := l.length - 2) (by omega); omega
set_option maxHeartbeats 4000000 in
theorem lp_X7_leastOf {g : WG} {d : Nat} {T : TT} {M : MM} {r sz : Nat} {A : YA} {Q : MVal → TT → MM → Nat → Prop} (hT : MT T r) (hN : MN M r A) (hW : WFY A) {x : CX} (hx : OKx g x RX7 cX7_leastOf (d + 3)) (hr : RTx g x (some .int) Q) {l : List Nat} {q : Nat} (hk : (T q).1 = 10) (hn : (T q).2.1 = 8) (hl : ∀ k, k < l.length → M q k = ((l.getD k 0 : Nat) : Int)) (hlt : ∀ p ∈ l, p < A.n) (h8 : l.length ≤ 8) (hQ : Q (vI (least1 A l)) T M sz) (j : Nat) (w : Int) (u : MVal) (hj : j + 1 ≤ l.length ∨ j = 0) (hw0 : j = 0 → w = -1) (hw1 : 1 ≤ j → w = minS A l (j - 1)) : Jd g x 5 [vR (r), vR (q), vI (((l.length : Nat) : Int)), vI (w), vI (((j : Nat) : Int)), u] [] T M sz 0 0 := by
  have hn8 := hW.n8
  refine J_iload hx dX7_leastOf_5 rfl ?_
  refine J_iload_n hx dX7_leastOf_7 (i := 2) rfl rfl ?_
  refine J_iconst (v := 1) hx dX7_leastOf_8 (by decide) ?_
  refine J_isub (v := ((l.length : Nat) : Int) - 1) hx dX7_leastOf_9 (w32_id (by omega) (by omega)) ?_
  refine J_icmp_ge (tgt := 47) hx dX7_leastOf_10 (by decide) (fun c1 => ?_) (fun c1 => ?_)
  · refine J_iload_n hx dX7_leastOf_47 (i := 3) rfl rfl ?_
    refine J_iret hx hr dX7_leastOf_48 ?_
    refine Qv hQ ?_
    unfold least1
    by_cases e9 : l.length < 2
    · rw [if_pos e9]; exact (hw0 (by omega)).symm
    · rw [if_neg e9, show l.length - 2 = j - 1 by omega]; exact (hw1 (by omega)).symm
  · refine J_aload_n hx dX7_leastOf_13 (i := 0) rfl rfl ?_
    refine J_aload_n hx dX7_leastOf_14 (i := 1) rfl rfl ?_
    refine J_iload_n hx dX7_leastOf_15 (i := 2) rfl rfl ?_
    refine J_iload hx dX7_leastOf_16 rfl ?_
    refine J_invV (As := [vR (q), vI (((l.length : Nat) : Int)), vI (((j : Nat) : Int))]) (st := []) hx lk_X7_266 okX7_strengthOf dX7_leastOf_18 hT.o (by decide) rfl rfl rfl (Nat.le_of_ble_eq_true rfl) (Nat.zero_add _).symm (Nat.zero_add _).symm rfl (c_X7_strengthOf hT hN hW (l := l) (q := q) hk hn hl hlt (by omega) (j := j) (by omega) ?_)
    have rg2 := strl_rg hW (l := l) hlt (j := j) (by omega)
    refine J_istore (lsn := [vR (r), vR (q), vI (((l.length : Nat) : Int)), vI (w), vI (((j : Nat) : Int)), vI (strl A l j)]) hx dX7_leastOf_21 (Nat.le_of_ble_eq_true rfl) rfl rfl ?_
    refine J_iload_n hx dX7_leastOf_23 (i := 3) rfl rfl ?_
    refine J_iconst (v := -1) hx dX7_leastOf_24 (by decide) ?_
    refine J_icmp_eq (tgt := 34) hx dX7_leastOf_25 (by decide) (fun c3 => ?_) (fun c3 => ?_)
    · refine J_iload hx dX7_leastOf_34 rfl ?_
      refine J_goto (tgt := 40) hx dX7_leastOf_36 (by decide) ?_
      refine J_istore_n (lsn := [vR (r), vR (q), vI (((l.length : Nat) : Int)), vI (strl A l j), vI (((j : Nat) : Int)), vI (strl A l j)]) hx dX7_leastOf_40 (i := 3) rfl (Nat.le_of_ble_eq_true rfl) rfl rfl ?_
      refine J_iinc (v := ((j : Nat) : Int) + 1) (lsn := [vR (r), vR (q), vI (((l.length : Nat) : Int)), vI (strl A l j), vI (((j : Nat) : Int) + 1), vI (strl A l j)]) hx dX7_leastOf_41 rfl (jinc1 (by omega) (by omega)) rfl rfl ?_
      refine J_goto (tgt := 5) hx dX7_leastOf_44 (by decide) ?_
      exact lp_X7_leastOf hT hN hW hx hr hk hn hl hlt h8 hQ (j + 1) _ _ (by omega) (fun h9 => by omega) (fun h9 => by
          by_cases e9 : j = 0
          · subst e9; first | rfl | (have := hw0 rfl; omega)
          · have e8 : minS A l (j + 1 - 1) = if strl A l j < minS A l (j - 1) then strl A l j else minS A l (j - 1) := by
              rw [show j + 1 - 1 = (j - 1) + 1 by omega]; show (if strl A l (j - 1 + 1) < _ then strl A l (j - 1 + 1) else _) = _; rw [show j - 1 + 1 = j by omega]
            have e7 := hw1 (by omega)
            have e6 := minS_rg hW hlt (j := j - 1) (by omega)
            rw [e8]; split <;> omega)
    · refine J_iload hx dX7_leastOf_28 rfl ?_
      refine J_iload_n hx dX7_leastOf_30 (i := 3) rfl rfl ?_
      refine J_icmp_ge (tgt := 39) hx dX7_leastOf_31 (by decide) (fun c4 => ?_) (fun c4 => ?_)
      · refine J_iload_n hx dX7_leastOf_39 (i := 3) rfl rfl ?_
        refine J_istore_n (lsn := [vR (r), vR (q), vI (((l.length : Nat) : Int)), vI (w), vI (((j : Nat) : Int)), vI (strl A l j)]) hx dX7_leastOf_40 (i := 3) rfl (Nat.le_of_ble_eq_true rfl) rfl rfl ?_
        refine J_iinc (v := ((j : Nat) : Int) + 1) (lsn := [vR (r), vR (q), vI (((l.length : Nat) : Int)), vI (w), vI (((j : Nat) : Int) + 1), vI (strl A l j)]) hx dX7_leastOf_41 rfl (jinc1 (by omega) (by omega)) rfl rfl ?_
        refine J_goto (tgt := 5) hx dX7_leastOf_44 (by decide) ?_
        exact lp_X7_leastOf hT hN hW hx hr hk hn hl hlt h8 hQ (j + 1) _ _ (by omega) (fun h9 => by omega) (fun h9 => by
            by_cases e9 : j = 0
            · subst e9; first | rfl | (have := hw0 rfl; omega)
            · have e8 : minS A l (j + 1 - 1) = if strl A l j < minS A l (j - 1) then strl A l j else minS A l (j - 1) := by
                rw [show j + 1 - 1 = (j - 1) + 1 by omega]; show (if strl A l (j - 1 + 1) < _ then strl A l (j - 1 + 1) else _) = _; rw [show j - 1 + 1 = j by omega]
              have e7 := hw1 (by omega)
              have e6 := minS_rg hW hlt (j := j - 1) (by omega)
              rw [e8]; split <;> omega)
      · refine J_iload hx dX7_leastOf_34 rfl ?_
        refine J_goto (tgt := 40) hx dX7_leastOf_36 (by decide) ?_
        refine J_istore_n (lsn := [vR (r), vR (q), vI (((l.length : Nat) : Int)), vI (strl A l j), vI (((j : Nat) : Int)), vI (strl A l j)]) hx dX7_leastOf_40 (i := 3) rfl (Nat.le_of_ble_eq_true rfl) rfl rfl ?_
        refine J_iinc (v := ((j : Nat) : Int) + 1) (lsn := [vR (r), vR (q), vI (((l.length : Nat) : Int)), vI (strl A l j), vI (((j : Nat) : Int) + 1), vI (strl A l j)]) hx dX7_leastOf_41 rfl (jinc1 (by omega) (by omega)) rfl rfl ?_
        refine J_goto (tgt := 5) hx dX7_leastOf_44 (by decide) ?_
        exact lp_X7_leastOf hT hN hW hx hr hk hn hl hlt h8 hQ (j + 1) _ _ (by omega) (fun h9 => by omega) (fun h9 => by
            by_cases e9 : j = 0
            · subst e9; first | rfl | (have := hw0 rfl; omega)
            · have e8 : minS A l (j + 1 - 1) = if strl A l j < minS A l (j - 1) then strl A l j else minS A l (j - 1) := by
                rw [show j + 1 - 1 = (j - 1) + 1 by omega]; show (if strl A l (j - 1 + 1) < _ then strl A l (j - 1 + 1) else _) = _; rw [show j - 1 + 1 = j by omega]
              have e7 := hw1 (by omega)
              have e6 := minS_rg hW hlt (j := j - 1) (by omega)
              rw [e8]; split <;> omega)
termination_by l.length - j
decreasing_by all_goals omega

set_option maxHeartbeats 4000000 in
theorem c_X7_leastOf {g : WG} {d : Nat} {T : TT} {M : MM} {r sz : Nat} {A : YA} {Q : MVal → TT → MM → Nat → Prop} (hT : MT T r) (hN : MN M r A) (hW : WFY A) {l : List Nat} {q : Nat} (hk : (T q).1 = 10) (hn : (T q).2.1 = 8) (hl : ∀ k, k < l.length → M q k = ((l.getD k 0 : Nat) : Int)) (hlt : ∀ p ∈ l, p < A.n) (h8 : l.length ≤ 8) (hQ : Q (vI (least1 A l)) T M sz) : Ct g (d + 3) mX7_leastOf [vR (r), vR (q), vI (((l.length : Nat) : Int))] T M sz 0 0 Q := by
  refine Ct_of2 (ls := [vR (r), vR (q), vI (((l.length : Nat) : Int)), vU, vU, vU]) okX7_leastOf rfl (Nat.le_of_ble_eq_true rfl) rfl ?_
  intro x hx hr hnm
  refine J_iconst (v := -1) hx dX7_leastOf_0 (by decide) ?_
  refine J_istore_n (lsn := [vR (r), vR (q), vI (((l.length : Nat) : Int)), vI ((-1)), vU, vU]) hx dX7_leastOf_1 (i := 3) rfl (Nat.le_of_ble_eq_true rfl) rfl rfl ?_
  refine J_iconst (v := 0) hx dX7_leastOf_2 (by decide) ?_
  refine J_istore (lsn := [vR (r), vR (q), vI (((l.length : Nat) : Int)), vI ((-1)), vI (0), vU]) hx dX7_leastOf_3 (Nat.le_of_ble_eq_true rfl) rfl rfl ?_
  exact lp_X7_leastOf hT hN hW hx hr hk hn hl hlt h8 hQ 0 _ _ (by omega) (fun _ => rfl) (fun h9 => absurd h9 (by decide))

set_option maxHeartbeats 4000000 in
theorem lp_X7_oddsOf {g : WG} {d : Nat} {T : TT} {M : MM} {r sz : Nat} {A : YA} {Q : MVal → TT → MM → Nat → Prop} (hT : MT T r) (hN : MN M r A) (hW : WFY A) {x : CX} (hx : OKx g x RX7 cX7_oddsOf (d + 3)) (hr : RTx g x (some .int) Q) {p j : Nat} (hp : p < A.n) (hj : j + 1 < (A.ch A.tn).length) (hQ : Q (vI (oddsY A p j)) T M sz) (k : Nat) (m : Int) (hk : k ≤ A.sc 2) (hm : ((force A p + k - 1 - strl A (A.ch A.tn) j ≤ 0 ∧ m = 0) ∨ (0 < force A p + k - 1 - strl A (A.ch A.tn) j ∧ force A p + k - 1 - strl A (A.ch A.tn) j ≤ k ∧ m = force A p + k - 1 - strl A (A.ch A.tn) j) ∨ (k < force A p + k - 1 - strl A (A.ch A.tn) j ∧ m = k))) : Jd g x 5 [vR (r), vI (((p : Nat) : Int)), vI (((j : Nat) : Int)), vI (m), vI (((k : Nat) : Int))] [] T M sz 0 0 := by
  have hn8 := hW.n8
  have hs2 := hW.s2
  have ht2 := hW.tn2
  have hl8 := hW.len8 ht2
  have rf9 := force_rg hW hp
  have rs9 := strl_rg hW (l := A.ch A.tn) (fun p hp => hW.lt ht2 hp) hj
  refine J_iload hx dX7_oddsOf_5 rfl ?_
  refine J_aload_n hx dX7_oddsOf_7 (i := 0) rfl rfl ?_
  refine J_getI2 (v := A.sc 2) hx fl_X7_64 cl_X7 dX7_oddsOf_8 hT.o (by decide) rfl hN.s2 ?_
  have rg1 := hW.s2
  refine J_icmp_ge (tgt := 62) hx dX7_oddsOf_11 (by decide) (fun c2 => ?_) (fun c2 => ?_)
  · refine J_ldc (v := 1000000) hx ct_X7_218 dX7_oddsOf_62 (by decide) ?_
    refine J_iload_n hx dX7_oddsOf_64 (i := 3) rfl rfl ?_
    refine J_imul (v := 1000000 * m) hx dX7_oddsOf_65 (w32_id (by omega) (by omega)) ?_
    refine J_aload_n hx dX7_oddsOf_66 (i := 0) rfl rfl ?_
    refine J_getI2 (v := A.sc 2) hx fl_X7_64 cl_X7 dX7_oddsOf_67 hT.o (by decide) rfl hN.s2 ?_
    have rg3 := hW.s2
    refine J_idiv (v := (1000000 * m) / (A.sc 2)) hx dX7_oddsOf_70 (by omega) (jdiv (by omega) (by omega) (by omega)) ?_
    refine J_iret hx hr dX7_oddsOf_71 ?_
    refine Qv hQ ?_
    unfold oddsY oddsB
    rcases hm with ⟨q1, q2⟩ | ⟨q1, q3, q2⟩ | ⟨q1, q2⟩
    · rw [if_pos (by omega), q2]; simp
    · by_cases q4 : A.sc 2 ≤ force A p + A.sc 2 - 1 - strl A (A.ch A.tn) j
      · rw [if_neg (by omega), if_pos q4, show m = A.sc 2 by omega, Int.mul_ediv_cancel _ (by omega)]
      · rw [if_neg (by omega), if_neg q4, show m = force A p + A.sc 2 - 1 - strl A (A.ch A.tn) j by omega]
    · rw [if_neg (by omega), if_pos (by omega), show m = A.sc 2 by omega, Int.mul_ediv_cancel _ (by omega)]
  · refine J_iload_n hx dX7_oddsOf_14 (i := 3) rfl rfl ?_
    refine J_aload_n hx dX7_oddsOf_15 (i := 0) rfl rfl ?_
    refine J_iload_n hx dX7_oddsOf_16 (i := 1) rfl rfl ?_
    refine J_invV (As := [vI (((p : Nat) : Int))]) (st := [vI (m)]) hx lk_X7_126 okX7_force dX7_oddsOf_17 hT.o (by decide) rfl rfl rfl (Nat.le_of_ble_eq_true rfl) (Nat.zero_add _).symm (Nat.zero_add _).symm rfl (c_X7_force hT hN hW (p := p) (by omega) ?_)
    have rg4 := force_rg hW (p := p) (by omega)
    refine J_iload hx dX7_oddsOf_20 rfl ?_
    refine J_iadd (v := force A p + ((k : Nat) : Int)) hx dX7_oddsOf_22 (w32_id (by omega) (by omega)) ?_
    refine J_aload_n hx dX7_oddsOf_23 (i := 0) rfl rfl ?_
    refine J_aload_n hx dX7_oddsOf_24 (i := 0) rfl rfl ?_
    refine J_getR (b := r + 22) hx fl_X7_54 cl_X7 dX7_oddsOf_25 hT.o (by decide) rfl hT.r15 ?_
    refine J_aload_n hx dX7_oddsOf_28 (i := 0) rfl rfl ?_
    refine J_getI2 (v := ((A.tn : Nat) : Int)) hx fl_X7_148 cl_X7 dX7_oddsOf_29 hT.o (by decide) rfl (hN.tn hW) ?_
    have rg5 := hW.tn2
    refine J_aald (b := r + 23 + A.tn) hx A.tn dX7_oddsOf_32 hT.k22 (by decide) (by omega) (hT.l22 (by omega)) (hT.f22 (by omega)) ?_
    refine J_aload_n hx dX7_oddsOf_33 (i := 0) rfl rfl ?_
    refine J_getR (b := r + 25) hx fl_X7_57 cl_X7 dX7_oddsOf_34 hT.o (by decide) rfl hT.r16 ?_
    refine J_aload_n hx dX7_oddsOf_37 (i := 0) rfl rfl ?_
    refine J_getI2 (v := ((A.tn : Nat) : Int)) hx fl_X7_148 cl_X7 dX7_oddsOf_38 hT.o (by decide) rfl (hN.tn hW) ?_
    have rg6 := hW.tn2
    refine J_iald2 (v := (((A.ch A.tn).length : Nat) : Int)) hx A.tn dX7_oddsOf_41 hT.k25 (by omega) (hT.l25 (by omega)) (hN.sz (by omega)) ?_
    have rg7 := hW.len8 (c := A.tn) (by omega)
    have rg8 := hW.lenN (c := A.tn) (by omega)
    refine J_iload_n hx dX7_oddsOf_42 (i := 2) rfl rfl ?_
    refine J_invV (As := [vR (r + 23 + A.tn), vI ((((A.ch A.tn).length : Nat) : Int)), vI (((j : Nat) : Int))]) (st := [vI (force A p + ((k : Nat) : Int)), vI (m)]) hx lk_X7_266 okX7_strengthOf dX7_oddsOf_43 hT.o (by decide) rfl rfl rfl (Nat.le_of_ble_eq_true rfl) (Nat.zero_add _).symm (Nat.zero_add _).symm rfl (c_X7_strengthOf hT hN hW (l := A.ch A.tn) (q := r + 23 + A.tn) (hT.kl (by omega)) (hT.nl (by omega)) (fun k9 h9 => hN.ln (by omega) h9) (fun p9 h9 => hW.lt (by omega) h9) (by omega) (j := j) (by omega) ?_)
    have rg9 := strl_rg hW (l := A.ch A.tn) (fun p9 h9 => hW.lt (by omega) h9) (j := j) (by omega)
    refine J_icmp_le (tgt := 53) hx dX7_oddsOf_46 (by decide) (fun c10 => ?_) (fun c10 => ?_)
    · refine J_iconst (v := 0) hx dX7_oddsOf_53 (by decide) ?_
      refine J_iadd (v := m + 0) hx dX7_oddsOf_54 (w32_id (by omega) (by omega)) ?_
      refine J_istore_n (lsn := [vR (r), vI (((p : Nat) : Int)), vI (((j : Nat) : Int)), vI (m + 0), vI (((k : Nat) : Int))]) hx dX7_oddsOf_55 (i := 3) rfl (Nat.le_of_ble_eq_true rfl) rfl rfl ?_
      refine J_iinc (v := ((k : Nat) : Int) + 1) (lsn := [vR (r), vI (((p : Nat) : Int)), vI (((j : Nat) : Int)), vI (m + 0), vI (((k : Nat) : Int) + 1)]) hx dX7_oddsOf_56 rfl (jinc1 (by omega) (by omega)) rfl rfl ?_
      refine J_goto (tgt := 5) hx dX7_oddsOf_59 (by decide) ?_
      exact lp_X7_oddsOf hT hN hW hx hr hp hj hQ (k + 1) _ (by omega) (by omega)
    · refine J_iconst (v := 1) hx dX7_oddsOf_49 (by decide) ?_
      refine J_goto (tgt := 54) hx dX7_oddsOf_50 (by decide) ?_
      refine J_iadd (v := m + 1) hx dX7_oddsOf_54 (w32_id (by omega) (by omega)) ?_
      refine J_istore_n (lsn := [vR (r), vI (((p : Nat) : Int)), vI (((j : Nat) : Int)), vI (m + 1), vI (((k : Nat) : Int))]) hx dX7_oddsOf_55 (i := 3) rfl (Nat.le_of_ble_eq_true rfl) rfl rfl ?_
      refine J_iinc (v := ((k : Nat) : Int) + 1) (lsn := [vR (r), vI (((p : Nat) : Int)), vI (((j : Nat) : Int)), vI (m + 1), vI (((k : Nat) : Int) + 1)]) hx dX7_oddsOf_56 rfl (jinc1 (by omega) (by omega)) rfl rfl ?_
      refine J_goto (tgt := 5) hx dX7_oddsOf_59 (by decide) ?_
      exact lp_X7_oddsOf hT hN hW hx hr hp hj hQ (k + 1) _ (by omega) (by omega)
termination_by (A.sc 2).toNat - k
decreasing_by all_goals omega

set_option maxHeartbeats 4000000 in
theorem c_X7_oddsOf {g : WG} {d : Nat} {T : TT} {M : MM} {r sz : Nat} {A : YA} {Q : MVal → TT → MM → Nat → Prop} (hT : MT T r) (hN : MN M r A) (hW : WFY A) {p j : Nat} (hp : p < A.n) (hj : j + 1 < (A.ch A.tn).length) (hQ : Q (vI (oddsY A p j)) T M sz) : Ct g (d + 3) mX7_oddsOf [vR (r), vI (((p : Nat) : Int)), vI (((j : Nat) : Int))] T M sz 0 0 Q := by
  refine Ct_of2 (ls := [vR (r), vI (((p : Nat) : Int)), vI (((j : Nat) : Int)), vU, vU]) okX7_oddsOf rfl (Nat.le_of_ble_eq_true rfl) rfl ?_
  intro x hx hr hnm
  have hs2 := hW.s2
  have ht2 := hW.tn2
  have rf9 := force_rg hW hp
  have rs9 := strl_rg hW (l := A.ch A.tn) (fun p hp => hW.lt ht2 hp) hj
  refine J_iconst (v := 0) hx dX7_oddsOf_0 (by decide) ?_
  refine J_istore_n (lsn := [vR (r), vI (((p : Nat) : Int)), vI (((j : Nat) : Int)), vI (0), vU]) hx dX7_oddsOf_1 (i := 3) rfl (Nat.le_of_ble_eq_true rfl) rfl rfl ?_
  refine J_iconst (v := 0) hx dX7_oddsOf_2 (by decide) ?_
  refine J_istore (lsn := [vR (r), vI (((p : Nat) : Int)), vI (((j : Nat) : Int)), vI (0), vI (0)]) hx dX7_oddsOf_3 (Nat.le_of_ble_eq_true rfl) rfl rfl ?_
  exact lp_X7_oddsOf hT hN hW hx hr hp hj hQ 0 _ (by omega) (by omega)

set_option maxHeartbeats 4000000 in
theorem c_X7_isOver {g : WG} {d : Nat} {T : TT} {M : MM} {r sz : Nat} {A : YA} {Q : MVal → TT → MM → Nat → Prop} (hT : MT T r) (hN : MN M r A) (hW : WFY A)  (hQ : ∀ v : Int, ((v = 1 ∧ overY A) ∨ (v = 0 ∧ ¬ overY A)) → Q (vI v) T M sz) : Ct g (d + 1) mX7_isOver [vR (r)] T M sz 0 0 Q := by
  refine Ct_of2 (ls := [vR (r)]) okX7_isOver rfl (Nat.le_of_ble_eq_true rfl) rfl ?_
  intro x hx hr hnm
  refine J_aload_n hx dX7_isOver_0 (i := 0) rfl rfl ?_
  refine J_getR (b := r + 25) hx fl_X7_57 cl_X7 dX7_isOver_1 hT.o (by decide) rfl hT.r16 ?_
  refine J_iconst (v := 0) hx dX7_isOver_4 (by decide) ?_
  refine J_iald2 (v := (((A.ch 0).length : Nat) : Int)) hx 0 dX7_isOver_5 hT.k25 (by omega) (hT.l25 (by omega)) (hN.sz (by omega)) ?_
  have rg1 := hW.len8 (c := 0) (by omega)
  have rg2 := hW.lenN (c := 0) (by omega)
  refine J_iconst (v := 2) hx dX7_isOver_6 (by decide) ?_
  refine J_icmp_lt (tgt := 31) hx dX7_isOver_7 (by decide) (fun c3 => ?_) (fun c3 => ?_)
  · refine J_iconst (v := 1) hx dX7_isOver_31 (by decide) ?_
    refine J_goto (tgt := 36) hx dX7_isOver_32 (by decide) ?_
    refine J_zret hx hr dX7_isOver_36 (by omega) ?_
    exact hQ _ (by unfold overY; omega)
  · refine J_aload_n hx dX7_isOver_10 (i := 0) rfl rfl ?_
    refine J_getR (b := r + 25) hx fl_X7_57 cl_X7 dX7_isOver_11 hT.o (by decide) rfl hT.r16 ?_
    refine J_iconst (v := 1) hx dX7_isOver_14 (by decide) ?_
    refine J_iald2 (v := (((A.ch 1).length : Nat) : Int)) hx 1 dX7_isOver_15 hT.k25 (by omega) (hT.l25 (by omega)) (hN.sz (by omega)) ?_
    have rg4 := hW.len8 (c := 1) (by omega)
    have rg5 := hW.lenN (c := 1) (by omega)
    refine J_iconst (v := 2) hx dX7_isOver_16 (by decide) ?_
    refine J_icmp_lt (tgt := 31) hx dX7_isOver_17 (by decide) (fun c6 => ?_) (fun c6 => ?_)
    · refine J_iconst (v := 1) hx dX7_isOver_31 (by decide) ?_
      refine J_goto (tgt := 36) hx dX7_isOver_32 (by decide) ?_
      refine J_zret hx hr dX7_isOver_36 (by omega) ?_
      exact hQ _ (by unfold overY; omega)
    · refine J_aload_n hx dX7_isOver_20 (i := 0) rfl rfl ?_
      refine J_getI2 (v := A.sc 6) hx fl_X7_274 cl_X7 dX7_isOver_21 hT.o (by decide) rfl hN.s6 ?_
      have rg7 := hW.s6
      refine J_aload_n hx dX7_isOver_24 (i := 0) rfl rfl ?_
      refine J_getI2 (v := A.sc 4) hx fl_X7_67 cl_X7 dX7_isOver_25 hT.o (by decide) rfl hN.s4 ?_
      have rg8 := hW.s4
      refine J_icmp_lt (tgt := 35) hx dX7_isOver_28 (by decide) (fun c9 => ?_) (fun c9 => ?_)
      · refine J_iconst (v := 0) hx dX7_isOver_35 (by decide) ?_
        refine J_zret hx hr dX7_isOver_36 (by omega) ?_
        exact hQ _ (by unfold overY; omega)
      · refine J_iconst (v := 1) hx dX7_isOver_31 (by decide) ?_
        refine J_goto (tgt := 36) hx dX7_isOver_32 (by decide) ?_
        refine J_zret hx hr dX7_isOver_36 (by omega) ?_
        exact hQ _ (by unfold overY; omega)

set_option maxHeartbeats 4000000 in
theorem c_X7_wonNow {g : WG} {d : Nat} {T : TT} {M : MM} {r sz : Nat} {A : YA} {Q : MVal → TT → MM → Nat → Prop} (hT : MT T r) (hN : MN M r A) (hW : WFY A)  (hQ : ∀ v : Int, ((overY A ∧ v = leadY A) ∨ (¬ overY A ∧ v = -1)) → Q (vI v) T M sz) : Ct g (d + 2) mX7_wonNow [vR (r)] T M sz 0 0 Q := by
  refine Ct_of2 (ls := [vR (r)]) okX7_wonNow rfl (Nat.le_of_ble_eq_true rfl) rfl ?_
  intro x hx hr hnm
  refine J_aload_n hx dX7_wonNow_0 (i := 0) rfl rfl ?_
  refine J_invV (As := []) (st := []) hx lk_X7_208 okX7_isOver dX7_wonNow_1 hT.o (by decide) rfl rfl rfl (Nat.le_of_ble_eq_true rfl) (Nat.zero_add _).symm (Nat.zero_add _).symm rfl (c_X7_isOver hT hN hW  ?_)
  intro v1 hv1
  refine J_if_eq (tgt := 22) hx dX7_wonNow_4 (by decide) (fun c2 => ?_) (fun c2 => ?_)
  · refine J_iconst (v := -1) hx dX7_wonNow_22 (by decide) ?_
    refine J_goto (tgt := 46) hx dX7_wonNow_23 (by decide) ?_
    refine J_iret hx hr dX7_wonNow_46 ?_
    exact hQ _ (by unfold leadY; grind)
  · refine J_aload_n hx dX7_wonNow_7 (i := 0) rfl rfl ?_
    refine J_getR (b := r + 25) hx fl_X7_57 cl_X7 dX7_wonNow_8 hT.o (by decide) rfl hT.r16 ?_
    refine J_iconst (v := 0) hx dX7_wonNow_11 (by decide) ?_
    refine J_iald2 (v := (((A.ch 0).length : Nat) : Int)) hx 0 dX7_wonNow_12 hT.k25 (by omega) (hT.l25 (by omega)) (hN.sz (by omega)) ?_
    have rg3 := hW.len8 (c := 0) (by omega)
    have rg4 := hW.lenN (c := 0) (by omega)
    refine J_aload_n hx dX7_wonNow_13 (i := 0) rfl rfl ?_
    refine J_getR (b := r + 25) hx fl_X7_57 cl_X7 dX7_wonNow_14 hT.o (by decide) rfl hT.r16 ?_
    refine J_iconst (v := 1) hx dX7_wonNow_17 (by decide) ?_
    refine J_iald2 (v := (((A.ch 1).length : Nat) : Int)) hx 1 dX7_wonNow_18 hT.k25 (by omega) (hT.l25 (by omega)) (hN.sz (by omega)) ?_
    have rg5 := hW.len8 (c := 1) (by omega)
    have rg6 := hW.lenN (c := 1) (by omega)
    refine J_icmp_ne (tgt := 26) hx dX7_wonNow_19 (by decide) (fun c7 => ?_) (fun c7 => ?_)
    · refine J_aload_n hx dX7_wonNow_26 (i := 0) rfl rfl ?_
      refine J_getR (b := r + 25) hx fl_X7_57 cl_X7 dX7_wonNow_27 hT.o (by decide) rfl hT.r16 ?_
      refine J_iconst (v := 0) hx dX7_wonNow_30 (by decide) ?_
      refine J_iald2 (v := (((A.ch 0).length : Nat) : Int)) hx 0 dX7_wonNow_31 hT.k25 (by omega) (hT.l25 (by omega)) (hN.sz (by omega)) ?_
      have rg8 := hW.len8 (c := 0) (by omega)
      have rg9 := hW.lenN (c := 0) (by omega)
      refine J_aload_n hx dX7_wonNow_32 (i := 0) rfl rfl ?_
      refine J_getR (b := r + 25) hx fl_X7_57 cl_X7 dX7_wonNow_33 hT.o (by decide) rfl hT.r16 ?_
      refine J_iconst (v := 1) hx dX7_wonNow_36 (by decide) ?_
      refine J_iald2 (v := (((A.ch 1).length : Nat) : Int)) hx 1 dX7_wonNow_37 hT.k25 (by omega) (hT.l25 (by omega)) (hN.sz (by omega)) ?_
      have rg10 := hW.len8 (c := 1) (by omega)
      have rg11 := hW.lenN (c := 1) (by omega)
      refine J_icmp_le (tgt := 45) hx dX7_wonNow_38 (by decide) (fun c12 => ?_) (fun c12 => ?_)
      · refine J_iconst (v := 1) hx dX7_wonNow_45 (by decide) ?_
        refine J_iret hx hr dX7_wonNow_46 ?_
        exact hQ _ (by unfold leadY; grind)
      · refine J_iconst (v := 0) hx dX7_wonNow_41 (by decide) ?_
        refine J_goto (tgt := 46) hx dX7_wonNow_42 (by decide) ?_
        refine J_iret hx hr dX7_wonNow_46 ?_
        exact hQ _ (by unfold leadY; grind)
    · refine J_iconst (v := -1) hx dX7_wonNow_22 (by decide) ?_
      refine J_goto (tgt := 46) hx dX7_wonNow_23 (by decide) ?_
      refine J_iret hx hr dX7_wonNow_46 ?_
      exact hQ _ (by unfold leadY; grind)

set_option maxHeartbeats 4000000 in
theorem lp_X7_atOf {g : WG} {d : Nat} {T : TT} {M : MM} {r sz : Nat} {A : YA} {Q : MVal → TT → MM → Nat → Prop} (hT : MT T r) (hN : MN M r A) (hW : WFY A) {x : CX} (hx : OKx g x RX7 cX7_atOf (d + 4)) (hr : RTx g x (some .int) Q) {p : Nat} (hp : p < A.n) (hQ : Q (vI ((atY A p : Nat) : Int)) T M sz) (j w : Nat) (h1 : 1 ≤ j) (hj : j + 1 ≤ (A.ch A.tn).length) (hwj : w < j) (hw : w = pkN tt_ (fun j => - oddsY A p j) j) : Jd g x 4 [vR (r), vI (((p : Nat) : Int)), vI (((w : Nat) : Int)), vI (((j : Nat) : Int))] [] T M sz 0 0 := by
  have hn8 := hW.n8
  have ht2 := hW.tn2
  have hl8 := hW.len8 ht2
  refine J_iload_n hx dX7_atOf_4 (i := 3) rfl rfl ?_
  refine J_aload_n hx dX7_atOf_5 (i := 0) rfl rfl ?_
  refine J_getR (b := r + 25) hx fl_X7_57 cl_X7 dX7_atOf_6 hT.o (by decide) rfl hT.r16 ?_
  refine J_aload_n hx dX7_atOf_9 (i := 0) rfl rfl ?_
  refine J_getI2 (v := ((A.tn : Nat) : Int)) hx fl_X7_148 cl_X7 dX7_atOf_10 hT.o (by decide) rfl (hN.tn hW) ?_
  have rg1 := hW.tn2
  refine J_iald2 (v := (((A.ch A.tn).length : Nat) : Int)) hx A.tn dX7_atOf_13 hT.k25 (by omega) (hT.l25 (by omega)) (hN.sz (by omega)) ?_
  have rg2 := hW.len8 (c := A.tn) (by omega)
  have rg3 := hW.lenN (c := A.tn) (by omega)
  refine J_iconst (v := 1) hx dX7_atOf_14 (by decide) ?_
  refine J_isub (v := (((A.ch A.tn).length : Nat) : Int) - 1) hx dX7_atOf_15 (w32_id (by omega) (by omega)) ?_
  refine J_icmp_ge (tgt := 46) hx dX7_atOf_16 (by decide) (fun c4 => ?_) (fun c4 => ?_)
  · refine J_iload_n hx dX7_atOf_46 (i := 2) rfl rfl ?_
    refine J_iret hx hr dX7_atOf_47 ?_
    exact Qv hQ (by rw [hw]; unfold atY; rw [show (A.ch A.tn).length - 1 = j by omega])
  · refine J_aload_n hx dX7_atOf_19 (i := 0) rfl rfl ?_
    refine J_iload_n hx dX7_atOf_20 (i := 1) rfl rfl ?_
    refine J_iload_n hx dX7_atOf_21 (i := 3) rfl rfl ?_
    refine J_invV (As := [vI (((p : Nat) : Int)), vI (((j : Nat) : Int))]) (st := []) hx lk_X7_211 okX7_oddsOf dX7_atOf_22 hT.o (by decide) rfl rfl rfl (Nat.le_of_ble_eq_true rfl) (Nat.zero_add _).symm (Nat.zero_add _).symm rfl (c_X7_oddsOf hT hN hW (p := p) (by omega) (j := j) (by omega) ?_)
    have rg5 : 0 ≤ oddsY A p j ∧ oddsY A p j ≤ 1000000 := oddsB_rg hW _ _
    refine J_aload_n hx dX7_atOf_25 (i := 0) rfl rfl ?_
    refine J_iload_n hx dX7_atOf_26 (i := 1) rfl rfl ?_
    refine J_iload_n hx dX7_atOf_27 (i := 2) rfl rfl ?_
    refine J_invV (As := [vI (((p : Nat) : Int)), vI (((w : Nat) : Int))]) (st := [vI (oddsY A p j)]) hx lk_X7_211 okX7_oddsOf dX7_atOf_28 hT.o (by decide) rfl rfl rfl (Nat.le_of_ble_eq_true rfl) (Nat.zero_add _).symm (Nat.zero_add _).symm rfl (c_X7_oddsOf hT hN hW (p := p) (by omega) (j := w) (by omega) ?_)
    have rg6 : 0 ≤ oddsY A p w ∧ oddsY A p w ≤ 1000000 := oddsB_rg hW _ _
    refine J_icmp_le (tgt := 38) hx dX7_atOf_31 (by decide) (fun c7 => ?_) (fun c7 => ?_)
    · refine J_iload_n hx dX7_atOf_38 (i := 2) rfl rfl ?_
      refine J_istore_n (lsn := [vR (r), vI (((p : Nat) : Int)), vI (((w : Nat) : Int)), vI (((j : Nat) : Int))]) hx dX7_atOf_39 (i := 2) rfl (Nat.le_of_ble_eq_true rfl) rfl rfl ?_
      refine J_iinc (v := ((j : Nat) : Int) + 1) (lsn := [vR (r), vI (((p : Nat) : Int)), vI (((w : Nat) : Int)), vI (((j : Nat) : Int) + 1)]) hx dX7_atOf_40 rfl (jinc1 (by omega) (by omega)) rfl rfl ?_
      refine J_goto (tgt := 4) hx dX7_atOf_43 (by decide) ?_
      have hp9 := qn_ge (k := (fun j => - oddsY A p j)) (j := j) (by omega) (by rw [← hw]; omega)
      exact lp_X7_atOf hT hN hW hx hr hp hQ (j + 1) w (by omega) (by omega) (by omega) (by rw [hp9]; exact hw)
    · refine J_iload_n hx dX7_atOf_34 (i := 3) rfl rfl ?_
      refine J_goto (tgt := 39) hx dX7_atOf_35 (by decide) ?_
      refine J_istore_n (lsn := [vR (r), vI (((p : Nat) : Int)), vI (((j : Nat) : Int)), vI (((j : Nat) : Int))]) hx dX7_atOf_39 (i := 2) rfl (Nat.le_of_ble_eq_true rfl) rfl rfl ?_
      refine J_iinc (v := ((j : Nat) : Int) + 1) (lsn := [vR (r), vI (((p : Nat) : Int)), vI (((j : Nat) : Int)), vI (((j : Nat) : Int) + 1)]) hx dX7_atOf_40 rfl (jinc1 (by omega) (by omega)) rfl rfl ?_
      refine J_goto (tgt := 4) hx dX7_atOf_43 (by decide) ?_
      have hp9 := qn_lt (k := (fun j => - oddsY A p j)) (j := j) (by omega) (by rw [← hw]; omega)
      exact lp_X7_atOf hT hN hW hx hr hp hQ (j + 1) j (by omega) (by omega) (by omega) (by rw [hp9])
termination_by (A.ch A.tn).length - j
decreasing_by all_goals omega

set_option maxHeartbeats 4000000 in
theorem c_X7_atOf {g : WG} {d : Nat} {T : TT} {M : MM} {r sz : Nat} {A : YA} {Q : MVal → TT → MM → Nat → Prop} (hT : MT T r) (hN : MN M r A) (hW : WFY A) {p : Nat} (hp : p < A.n) (h2 : 2 ≤ (A.ch A.tn).length) (hQ : Q (vI ((atY A p : Nat) : Int)) T M sz) : Ct g (d + 4) mX7_atOf [vR (r), vI (((p : Nat) : Int))] T M sz 0 0 Q := by
  refine Ct_of2 (ls := [vR (r), vI (((p : Nat) : Int)), vU, vU]) okX7_atOf rfl (Nat.le_of_ble_eq_true rfl) rfl ?_
  intro x hx hr hnm
  refine J_iconst (v := 0) hx dX7_atOf_0 (by decide) ?_
  refine J_istore_n (lsn := [vR (r), vI (((p : Nat) : Int)), vI (0), vU]) hx dX7_atOf_1 (i := 2) rfl (Nat.le_of_ble_eq_true rfl) rfl rfl ?_
  refine J_iconst (v := 1) hx dX7_atOf_2 (by decide) ?_
  refine J_istore_n (lsn := [vR (r), vI (((p : Nat) : Int)), vI (0), vI (1)]) hx dX7_atOf_3 (i := 3) rfl (Nat.le_of_ble_eq_true rfl) rfl rfl ?_
  exact lp_X7_atOf hT hN hW hx hr hp hQ 1 0 (by omega) (by omega) (by omega) rfl

def sidY (A : YA) (j : Nat) : Nat := if hold A ((A.ch A.tn).getD j 0) (((A.ch A.tn).getD (j + 1) 0 : Nat) : Int) < hold A ((A.ch A.tn).getD (j + 1) 0) (((A.ch A.tn).getD j 0 : Nat) : Int) then 1 else 0
theorem sidY_lt (A : YA) (j : Nat) : sidY A j < 2 := by unfold sidY; split <;> omega
set_option maxHeartbeats 4000000 in
theorem c_X7_takeAt {g : WG} {d : Nat} {T : TT} {M : MM} {r sz : Nat} {A : YA} {Q : MVal → TT → MM → Nat → Prop} (hT : MT T r) (hN : MN M r A) (hW : WFY A) {j : Nat} (hj : j + 1 < (A.ch A.tn).length) (hQ : Q (vI ((sidY A j : Nat) : Int)) T M sz) : Ct g (d + 2) mX7_takeAt [vR (r), vI (((j : Nat) : Int))] T M sz 0 0 Q := by
  refine Ct_of2 (ls := [vR (r), vI (((j : Nat) : Int)), vU, vU]) okX7_takeAt rfl (Nat.le_of_ble_eq_true rfl) rfl ?_
  intro x hx hr hnm
  have hn8 := hW.n8
  have ht2 := hW.tn2
  have hl8 := hW.len8 ht2
  refine J_aload_n hx dX7_takeAt_0 (i := 0) rfl rfl ?_
  refine J_getR (b := r + 22) hx fl_X7_54 cl_X7 dX7_takeAt_1 hT.o (by decide) rfl hT.r15 ?_
  refine J_aload_n hx dX7_takeAt_4 (i := 0) rfl rfl ?_
  refine J_getI2 (v := ((A.tn : Nat) : Int)) hx fl_X7_148 cl_X7 dX7_takeAt_5 hT.o (by decide) rfl (hN.tn hW) ?_
  have rg1 := hW.tn2
  refine J_aald (b := r + 23 + A.tn) hx A.tn dX7_takeAt_8 hT.k22 (by decide) (by omega) (hT.l22 (by omega)) (hT.f22 (by omega)) ?_
  refine J_iload_n hx dX7_takeAt_9 (i := 1) rfl rfl ?_
  refine J_iald2 (v := (((A.ch A.tn).getD j 0 : Nat) : Int)) hx j dX7_takeAt_10 (hT.kl (by omega)) (by omega) (hT.ll (by omega) (by omega)) (hN.ln (by omega) (by omega)) ?_
  have rg2 := hW.at (c := A.tn) (k := j) (by omega) (by omega)
  refine J_istore_n (lsn := [vR (r), vI (((j : Nat) : Int)), vI ((((A.ch A.tn).getD j 0 : Nat) : Int)), vU]) hx dX7_takeAt_11 (i := 2) rfl (Nat.le_of_ble_eq_true rfl) rfl rfl ?_
  refine J_aload_n hx dX7_takeAt_12 (i := 0) rfl rfl ?_
  refine J_getR (b := r + 22) hx fl_X7_54 cl_X7 dX7_takeAt_13 hT.o (by decide) rfl hT.r15 ?_
  refine J_aload_n hx dX7_takeAt_16 (i := 0) rfl rfl ?_
  refine J_getI2 (v := ((A.tn : Nat) : Int)) hx fl_X7_148 cl_X7 dX7_takeAt_17 hT.o (by decide) rfl (hN.tn hW) ?_
  have rg3 := hW.tn2
  refine J_aald (b := r + 23 + A.tn) hx A.tn dX7_takeAt_20 hT.k22 (by decide) (by omega) (hT.l22 (by omega)) (hT.f22 (by omega)) ?_
  refine J_iload_n hx dX7_takeAt_21 (i := 1) rfl rfl ?_
  refine J_iconst (v := 1) hx dX7_takeAt_22 (by decide) ?_
  refine J_iadd (v := ((j : Nat) : Int) + 1) hx dX7_takeAt_23 (w32_id (by omega) (by omega)) ?_
  refine J_iald2 (v := (((A.ch A.tn).getD (j + 1) 0 : Nat) : Int)) hx (j + 1) dX7_takeAt_24 (hT.kl (by omega)) (by omega) (hT.ll (by omega) (by omega)) (hN.ln (by omega) (by omega)) ?_
  have rg4 := hW.at (c := A.tn) (k := j + 1) (by omega) (by omega)
  refine J_istore_n (lsn := [vR (r), vI (((j : Nat) : Int)), vI ((((A.ch A.tn).getD j 0 : Nat) : Int)), vI ((((A.ch A.tn).getD (j + 1) 0 : Nat) : Int))]) hx dX7_takeAt_25 (i := 3) rfl (Nat.le_of_ble_eq_true rfl) rfl rfl ?_
  refine J_aload_n hx dX7_takeAt_26 (i := 0) rfl rfl ?_
  refine J_iload_n hx dX7_takeAt_27 (i := 3) rfl rfl ?_
  refine J_iload_n hx dX7_takeAt_28 (i := 2) rfl rfl ?_
  refine J_invV (As := [vI ((((A.ch A.tn).getD (j + 1) 0 : Nat) : Int)), vI ((((A.ch A.tn).getD j 0 : Nat) : Int))]) (st := []) hx lk_X7_122 okX7_hold dX7_takeAt_29 hT.o (by decide) rfl rfl rfl (Nat.le_of_ble_eq_true rfl) (Nat.zero_add _).symm (Nat.zero_add _).symm rfl (c_X7_hold hT hN hW (p := (A.ch A.tn).getD (j + 1) 0) (by omega) (b := (((A.ch A.tn).getD j 0 : Nat) : Int)) (by omega) ?_)
  have rg5 := hold_rg hW (p := (A.ch A.tn).getD (j + 1) 0) (by omega) (((A.ch A.tn).getD j 0 : Nat) : Int)
  refine J_aload_n hx dX7_takeAt_32 (i := 0) rfl rfl ?_
  refine J_iload_n hx dX7_takeAt_33 (i := 2) rfl rfl ?_
  refine J_iload_n hx dX7_takeAt_34 (i := 3) rfl rfl ?_
  refine J_invV (As := [vI ((((A.ch A.tn).getD j 0 : Nat) : Int)), vI ((((A.ch A.tn).getD (j + 1) 0 : Nat) : Int))]) (st := [vI (hold A ((A.ch A.tn).getD (j + 1) 0) (((A.ch A.tn).getD j 0 : Nat) : Int))]) hx lk_X7_122 okX7_hold dX7_takeAt_35 hT.o (by decide) rfl rfl rfl (Nat.le_of_ble_eq_true rfl) (Nat.zero_add _).symm (Nat.zero_add _).symm rfl (c_X7_hold hT hN hW (p := (A.ch A.tn).getD j 0) (by omega) (b := (((A.ch A.tn).getD (j + 1) 0 : Nat) : Int)) (by omega) ?_)
  have rg6 := hold_rg hW (p := (A.ch A.tn).getD j 0) (by omega) (((A.ch A.tn).getD (j + 1) 0 : Nat) : Int)
  refine J_icmp_le (tgt := 45) hx dX7_takeAt_38 (by decide) (fun c7 => ?_) (fun c7 => ?_)
  · refine J_iconst (v := 0) hx dX7_takeAt_45 (by decide) ?_
    refine J_iret hx hr dX7_takeAt_46 ?_
    exact Qv hQ (by unfold sidY; split <;> omega)
  · refine J_iconst (v := 1) hx dX7_takeAt_41 (by decide) ?_
    refine J_goto (tgt := 46) hx dX7_takeAt_42 (by decide) ?_
    refine J_iret hx hr dX7_takeAt_46 ?_
    exact Qv hQ (by unfold sidY; split <;> omega)

theorem pkI_rg (P : Nat → Bool) (k : Nat → Int) (i : Nat) : pkI P k i = -1 ∨ ∃ b : Nat, pick P k i = some b ∧ b < i ∧ pkI P k i = (b : Int) := by
  have h := pick_spec P k i
  unfold pkI
  cases e : pick P k i with
  | none => exact Or.inl rfl
  | some b => rw [e] at h; exact Or.inr ⟨b, rfl, h.1, rfl⟩
theorem cb_no {P : Nat → Bool} {k : Nat → Int} {j : Nat} {w : Int} (hw : w = pkI P k j) (hp : P j = false) : w = pkI P k (j + 1) := by rw [pkI_eq (qk_no (H := 0) hp)]; exact hw
theorem cb_first {P : Nat → Bool} {k : Nat → Int} {j : Nat} {w : Int} (hw : w = pkI P k j) (h1 : w = -1) (hp : P j = true) : ((j : Nat) : Int) = pkI P k (j + 1) := by
  have e : pick P k j = none := by
    cases e : pick P k j with
    | none => rfl
    | some b => rw [pkI_of e] at hw; omega
  have e2 : pick P k (j + 1) = some j := by
    show (match pick P k j with | none => if P j = true then some j else none | some b => if P j = true ∧ k j < k b then some j else some b) = _
    rw [e]; simp [hp]
  rw [pkI_of e2]
theorem cb_lt {P : Nat → Bool} {k : Nat → Int} {j b : Nat} (hw : ((b : Nat) : Int) = pkI P k j) (hp : P j = true) (hk : k j < k b) : ((j : Nat) : Int) = pkI P k (j + 1) := by
  rcases pkI_rg P k j with e | ⟨b', e1, e2, e3⟩
  · omega
  · have : b' = b := by omega
    subst this
    rw [pkI_of (qk_lt (H := 0) hp (by rw [pkV_of e1]; exact hk))]
theorem cb_ge {P : Nat → Bool} {k : Nat → Int} {j b : Nat} (hw : ((b : Nat) : Int) = pkI P k j) (hk : ¬ k j < k b) : ((b : Nat) : Int) = pkI P k (j + 1) := by
  rcases pkI_rg P k j with e | ⟨b', e1, e2, e3⟩
  · omega
  · have : b' = b := by omega
    subst this
    rw [pkI_eq (qk_ge (H := k j + 1) (by omega) (by rw [pkV_of e1]; exact hk))]; exact hw

set_option maxHeartbeats 4000000 in
theorem lp_X7_callBy {g : WG} {d : Nat} {T : TT} {M : MM} {r sz : Nat} {A : YA} {Q : MVal → TT → MM → Nat → Prop} (hT : MT T r) (hN : MN M r A) (hW : WFY A) {x : CX} (hx : OKx g x RX7 cX7_callBy (d + 5)) (hr : RTx g x (some .int) Q) {rule : Int} (hrule : rule = 0 ∨ rule = 1) (h2 : 2 ≤ (A.ch A.tn).length) (hQ : Q (vI (whoY A rule)) T M sz) (j : Nat) (w : Int) (u4 u5 : MVal) (hj : j ≤ A.n) (hw : w = pkI (calY A) (key2 A rule) j) : Jd g x 4 [vR (r), vI (rule), vI (w), vI (((j : Nat) : Int)), u4, u5] [] T M sz 0 0 := by
  have hn8 := hW.n8
  have ht2 := hW.tn2
  have hl8 := hW.len8 ht2
  refine J_iload_n hx dX7_callBy_4 (i := 3) rfl rfl ?_
  refine J_aload_n hx dX7_callBy_5 (i := 0) rfl rfl ?_
  refine J_getI2 (v := ((A.n : Nat) : Int)) hx fl_X7_82 cl_X7 dX7_callBy_6 hT.o (by decide) rfl hN.pp ?_
  have rg1 := hW.n8
  refine J_icmp_ge (tgt := 107) hx dX7_callBy_9 (by decide) (fun c2 => ?_) (fun c2 => ?_)
  · refine J_iload_n hx dX7_callBy_107 (i := 2) rfl rfl ?_
    refine J_iret hx hr dX7_callBy_108 ?_
    have ej : j = A.n := by omega
    subst ej
    exact Qv hQ (by rw [hw]; unfold whoY pkI; rw [who_key hW h2 hrule])
  · refine J_aload_n hx dX7_callBy_12 (i := 0) rfl rfl ?_
    refine J_iload_n hx dX7_callBy_13 (i := 3) rfl rfl ?_
    refine J_invV (As := [vI (((j : Nat) : Int))]) (st := []) hx lk_X7_119 okX7_chainAt dX7_callBy_14 hT.o (by decide) rfl rfl rfl (Nat.le_of_ble_eq_true rfl) (Nat.zero_add _).symm (Nat.zero_add _).symm rfl (c_X7_chainAt hT hN hW (p := j) (by omega) ?_)
    have rg3 := A.co2 j
    refine J_aload_n hx dX7_callBy_17 (i := 0) rfl rfl ?_
    refine J_getI2 (v := ((A.tn : Nat) : Int)) hx fl_X7_148 cl_X7 dX7_callBy_18 hT.o (by decide) rfl (hN.tn hW) ?_
    have rg4 := hW.tn2
    refine J_icmp_eq (tgt := 101) hx dX7_callBy_21 (by decide) (fun c5 => ?_) (fun c5 => ?_)
    · refine J_iinc (v := ((j : Nat) : Int) + 1) (lsn := [vR (r), vI (rule), vI (w), vI (((j : Nat) : Int) + 1), u4, u5]) hx dX7_callBy_101 rfl (jinc1 (by omega) (by omega)) rfl rfl ?_
      refine J_goto (tgt := 4) hx dX7_callBy_104 (by decide) ?_
      first
      | exact lp_X7_callBy hT hN hW hx hr hrule h2 hQ (j + 1) _ _ _ (by omega) (cb_no hw (by simp [calY]; omega))
      | exact lp_X7_callBy hT hN hW hx hr hrule h2 hQ (j + 1) _ _ _ (by omega) (cb_first hw (by omega) (by simp [calY]; omega))
      | exact lp_X7_callBy hT hN hW hx hr hrule h2 hQ (j + 1) _ _ _ (by omega) (cb_lt hw (by simp [calY]; omega) (by unfold key2; (repeat' split) <;> omega))
      | exact lp_X7_callBy hT hN hW hx hr hrule h2 hQ (j + 1) _ _ _ (by omega) (cb_ge hw (by unfold key2; (repeat' split) <;> omega))
      | (exfalso; omega)
    · refine J_iload_n hx dX7_callBy_24 (i := 1) rfl rfl ?_
      refine J_iconst (v := 1) hx dX7_callBy_25 (by decide) ?_
      refine J_icmp_ne (tgt := 38) hx dX7_callBy_26 (by decide) (fun c6 => ?_) (fun c6 => ?_)
      · refine J_aload_n hx dX7_callBy_38 (i := 0) rfl rfl ?_
        refine J_iload_n hx dX7_callBy_39 (i := 3) rfl rfl ?_
        refine J_aload_n hx dX7_callBy_40 (i := 0) rfl rfl ?_
        refine J_iload_n hx dX7_callBy_41 (i := 3) rfl rfl ?_
        refine J_invV (As := [vI (((j : Nat) : Int))]) (st := [vI (((j : Nat) : Int)), vR (r)]) hx lk_X7_280 okX7_atOf dX7_callBy_42 hT.o (by decide) rfl rfl rfl (Nat.le_of_ble_eq_true rfl) (Nat.zero_add _).symm (Nat.zero_add _).symm rfl (c_X7_atOf hT hN hW (p := j) (by omega) (by omega) ?_)
        have rg7 := atY_lt (A := A) (by omega) j
        refine J_invV (As := [vI (((j : Nat) : Int)), vI (((atY A j : Nat) : Int))]) (st := []) hx lk_X7_211 okX7_oddsOf dX7_callBy_45 hT.o (by decide) rfl rfl rfl (Nat.le_of_ble_eq_true rfl) (Nat.zero_add _).symm (Nat.zero_add _).symm rfl (c_X7_oddsOf hT hN hW (p := j) (by omega) (j := atY A j) (by omega) ?_)
        have rg8 : 0 ≤ oddsY A j (atY A j) ∧ oddsY A j (atY A j) ≤ 1000000 := oddsB_rg hW _ _
        refine J_istore (lsn := [vR (r), vI (rule), vI (w), vI (((j : Nat) : Int)), vI (oddsY A j (atY A j)), u5]) hx dX7_callBy_48 (Nat.le_of_ble_eq_true rfl) rfl rfl ?_
        refine J_iload_n hx dX7_callBy_50 (i := 2) rfl rfl ?_
        refine J_iconst (v := -1) hx dX7_callBy_51 (by decide) ?_
        refine J_icmp_ne (tgt := 62) hx dX7_callBy_52 (by decide) (fun c9 => ?_) (fun c9 => ?_)
        · have hwb : ∃ b : Nat, w = ((b : Nat) : Int) ∧ b < j := by
              rcases pkI_rg (calY A) (key2 A rule) j with e9 | ⟨b9, e1, e2, e3⟩
              · exact absurd (hw.trans e9) (by omega)
              · exact ⟨b9, hw.trans e3, e2⟩
          obtain ⟨b, rfl, hbj⟩ := hwb
          refine J_iload_n hx dX7_callBy_62 (i := 1) rfl rfl ?_
          refine J_iconst (v := 1) hx dX7_callBy_63 (by decide) ?_
          refine J_icmp_ne (tgt := 76) hx dX7_callBy_64 (by decide) (fun c10 => ?_) (fun c10 => ?_)
          · refine J_aload_n hx dX7_callBy_76 (i := 0) rfl rfl ?_
            refine J_iload_n hx dX7_callBy_77 (i := 2) rfl rfl ?_
            refine J_aload_n hx dX7_callBy_78 (i := 0) rfl rfl ?_
            refine J_iload_n hx dX7_callBy_79 (i := 2) rfl rfl ?_
            refine J_invV (As := [vI (((b : Nat) : Int))]) (st := [vI (((b : Nat) : Int)), vR (r)]) hx lk_X7_280 okX7_atOf dX7_callBy_80 hT.o (by decide) rfl rfl rfl (Nat.le_of_ble_eq_true rfl) (Nat.zero_add _).symm (Nat.zero_add _).symm rfl (c_X7_atOf hT hN hW (p := b) (by omega) (by omega) ?_)
            have rg11 := atY_lt (A := A) (by omega) b
            refine J_invV (As := [vI (((b : Nat) : Int)), vI (((atY A b : Nat) : Int))]) (st := []) hx lk_X7_211 okX7_oddsOf dX7_callBy_83 hT.o (by decide) rfl rfl rfl (Nat.le_of_ble_eq_true rfl) (Nat.zero_add _).symm (Nat.zero_add _).symm rfl (c_X7_oddsOf hT hN hW (p := b) (by omega) (j := atY A b) (by omega) ?_)
            have rg12 : 0 ≤ oddsY A b (atY A b) ∧ oddsY A b (atY A b) ≤ 1000000 := oddsB_rg hW _ _
            refine J_istore (lsn := [vR (r), vI (rule), vI (((b : Nat) : Int)), vI (((j : Nat) : Int)), vI (oddsY A j (atY A j)), vI (oddsY A b (atY A b))]) hx dX7_callBy_86 (Nat.le_of_ble_eq_true rfl) rfl rfl ?_
            refine J_iload hx dX7_callBy_88 rfl ?_
            refine J_iload hx dX7_callBy_90 rfl ?_
            refine J_icmp_ge (tgt := 99) hx dX7_callBy_92 (by decide) (fun c13 => ?_) (fun c13 => ?_)
            · refine J_iload_n hx dX7_callBy_99 (i := 2) rfl rfl ?_
              refine J_istore_n (lsn := [vR (r), vI (rule), vI (((b : Nat) : Int)), vI (((j : Nat) : Int)), vI (oddsY A j (atY A j)), vI (oddsY A b (atY A b))]) hx dX7_callBy_100 (i := 2) rfl (Nat.le_of_ble_eq_true rfl) rfl rfl ?_
              refine J_iinc (v := ((j : Nat) : Int) + 1) (lsn := [vR (r), vI (rule), vI (((b : Nat) : Int)), vI (((j : Nat) : Int) + 1), vI (oddsY A j (atY A j)), vI (oddsY A b (atY A b))]) hx dX7_callBy_101 rfl (jinc1 (by omega) (by omega)) rfl rfl ?_
              refine J_goto (tgt := 4) hx dX7_callBy_104 (by decide) ?_
              first
              | exact lp_X7_callBy hT hN hW hx hr hrule h2 hQ (j + 1) _ _ _ (by omega) (cb_no hw (by simp [calY]; omega))
              | exact lp_X7_callBy hT hN hW hx hr hrule h2 hQ (j + 1) _ _ _ (by omega) (cb_first hw (by omega) (by simp [calY]; omega))
              | exact lp_X7_callBy hT hN hW hx hr hrule h2 hQ (j + 1) _ _ _ (by omega) (cb_lt hw (by simp [calY]; omega) (by unfold key2; (repeat' split) <;> omega))
              | exact lp_X7_callBy hT hN hW hx hr hrule h2 hQ (j + 1) _ _ _ (by omega) (cb_ge hw (by unfold key2; (repeat' split) <;> omega))
              | (exfalso; omega)
            · refine J_iload_n hx dX7_callBy_95 (i := 3) rfl rfl ?_
              refine J_goto (tgt := 100) hx dX7_callBy_96 (by decide) ?_
              refine J_istore_n (lsn := [vR (r), vI (rule), vI (((j : Nat) : Int)), vI (((j : Nat) : Int)), vI (oddsY A j (atY A j)), vI (oddsY A b (atY A b))]) hx dX7_callBy_100 (i := 2) rfl (Nat.le_of_ble_eq_true rfl) rfl rfl ?_
              refine J_iinc (v := ((j : Nat) : Int) + 1) (lsn := [vR (r), vI (rule), vI (((j : Nat) : Int)), vI (((j : Nat) : Int) + 1), vI (oddsY A j (atY A j)), vI (oddsY A b (atY A b))]) hx dX7_callBy_101 rfl (jinc1 (by omega) (by omega)) rfl rfl ?_
              refine J_goto (tgt := 4) hx dX7_callBy_104 (by decide) ?_
              first
              | exact lp_X7_callBy hT hN hW hx hr hrule h2 hQ (j + 1) _ _ _ (by omega) (cb_no hw (by simp [calY]; omega))
              | exact lp_X7_callBy hT hN hW hx hr hrule h2 hQ (j + 1) _ _ _ (by omega) (cb_first hw (by omega) (by simp [calY]; omega))
              | exact lp_X7_callBy hT hN hW hx hr hrule h2 hQ (j + 1) _ _ _ (by omega) (cb_lt hw (by simp [calY]; omega) (by unfold key2; (repeat' split) <;> omega))
              | exact lp_X7_callBy hT hN hW hx hr hrule h2 hQ (j + 1) _ _ _ (by omega) (cb_ge hw (by unfold key2; (repeat' split) <;> omega))
              | (exfalso; omega)
          · refine J_aload_n hx dX7_callBy_67 (i := 0) rfl rfl ?_
            refine J_getR (b := r + 19) hx fl_X7_43 cl_X7 dX7_callBy_68 hT.o (by decide) rfl hT.r12 ?_
            refine J_iload_n hx dX7_callBy_71 (i := 2) rfl rfl ?_
            refine J_iald2 (v := A.att 2 b) hx b dX7_callBy_72 hT.k19 (by omega) (hT.l19 (by omega)) (hN.we (by omega)) ?_
            have rg14 := hW.we (p := b) (by omega)
            refine J_goto (tgt := 86) hx dX7_callBy_73 (by decide) ?_
            refine J_istore (lsn := [vR (r), vI (rule), vI (((b : Nat) : Int)), vI (((j : Nat) : Int)), vI (oddsY A j (atY A j)), vI (A.att 2 b)]) hx dX7_callBy_86 (Nat.le_of_ble_eq_true rfl) rfl rfl ?_
            refine J_iload hx dX7_callBy_88 rfl ?_
            refine J_iload hx dX7_callBy_90 rfl ?_
            refine J_icmp_ge (tgt := 99) hx dX7_callBy_92 (by decide) (fun c15 => ?_) (fun c15 => ?_)
            · refine J_iload_n hx dX7_callBy_99 (i := 2) rfl rfl ?_
              refine J_istore_n (lsn := [vR (r), vI (rule), vI (((b : Nat) : Int)), vI (((j : Nat) : Int)), vI (oddsY A j (atY A j)), vI (A.att 2 b)]) hx dX7_callBy_100 (i := 2) rfl (Nat.le_of_ble_eq_true rfl) rfl rfl ?_
              refine J_iinc (v := ((j : Nat) : Int) + 1) (lsn := [vR (r), vI (rule), vI (((b : Nat) : Int)), vI (((j : Nat) : Int) + 1), vI (oddsY A j (atY A j)), vI (A.att 2 b)]) hx dX7_callBy_101 rfl (jinc1 (by omega) (by omega)) rfl rfl ?_
              refine J_goto (tgt := 4) hx dX7_callBy_104 (by decide) ?_
              first
              | exact lp_X7_callBy hT hN hW hx hr hrule h2 hQ (j + 1) _ _ _ (by omega) (cb_no hw (by simp [calY]; omega))
              | exact lp_X7_callBy hT hN hW hx hr hrule h2 hQ (j + 1) _ _ _ (by omega) (cb_first hw (by omega) (by simp [calY]; omega))
              | exact lp_X7_callBy hT hN hW hx hr hrule h2 hQ (j + 1) _ _ _ (by omega) (cb_lt hw (by simp [calY]; omega) (by unfold key2; (repeat' split) <;> omega))
              | exact lp_X7_callBy hT hN hW hx hr hrule h2 hQ (j + 1) _ _ _ (by omega) (cb_ge hw (by unfold key2; (repeat' split) <;> omega))
              | (exfalso; omega)
            · refine J_iload_n hx dX7_callBy_95 (i := 3) rfl rfl ?_
              refine J_goto (tgt := 100) hx dX7_callBy_96 (by decide) ?_
              refine J_istore_n (lsn := [vR (r), vI (rule), vI (((j : Nat) : Int)), vI (((j : Nat) : Int)), vI (oddsY A j (atY A j)), vI (A.att 2 b)]) hx dX7_callBy_100 (i := 2) rfl (Nat.le_of_ble_eq_true rfl) rfl rfl ?_
              refine J_iinc (v := ((j : Nat) : Int) + 1) (lsn := [vR (r), vI (rule), vI (((j : Nat) : Int)), vI (((j : Nat) : Int) + 1), vI (oddsY A j (atY A j)), vI (A.att 2 b)]) hx dX7_callBy_101 rfl (jinc1 (by omega) (by omega)) rfl rfl ?_
              refine J_goto (tgt := 4) hx dX7_callBy_104 (by decide) ?_
              first
              | exact lp_X7_callBy hT hN hW hx hr hrule h2 hQ (j + 1) _ _ _ (by omega) (cb_no hw (by simp [calY]; omega))
              | exact lp_X7_callBy hT hN hW hx hr hrule h2 hQ (j + 1) _ _ _ (by omega) (cb_first hw (by omega) (by simp [calY]; omega))
              | exact lp_X7_callBy hT hN hW hx hr hrule h2 hQ (j + 1) _ _ _ (by omega) (cb_lt hw (by simp [calY]; omega) (by unfold key2; (repeat' split) <;> omega))
              | exact lp_X7_callBy hT hN hW hx hr hrule h2 hQ (j + 1) _ _ _ (by omega) (cb_ge hw (by unfold key2; (repeat' split) <;> omega))
              | (exfalso; omega)
        · refine J_iload hx dX7_callBy_55 rfl ?_
          refine J_iconst (v := 1) hx dX7_callBy_57 (by decide) ?_
          refine J_iadd (v := oddsY A j (atY A j) + 1) hx dX7_callBy_58 (w32_id (by omega) (by omega)) ?_
          refine J_goto (tgt := 86) hx dX7_callBy_59 (by decide) ?_
          refine J_istore (lsn := [vR (r), vI (rule), vI (w), vI (((j : Nat) : Int)), vI (oddsY A j (atY A j)), vI (oddsY A j (atY A j) + 1)]) hx dX7_callBy_86 (Nat.le_of_ble_eq_true rfl) rfl rfl ?_
          refine J_iload hx dX7_callBy_88 rfl ?_
          refine J_iload hx dX7_callBy_90 rfl ?_
          refine J_icmp_ge (tgt := 99) hx dX7_callBy_92 (by decide) (fun c16 => ?_) (fun c16 => ?_)
          · refine J_iload_n hx dX7_callBy_99 (i := 2) rfl rfl ?_
            refine J_istore_n (lsn := [vR (r), vI (rule), vI (w), vI (((j : Nat) : Int)), vI (oddsY A j (atY A j)), vI (oddsY A j (atY A j) + 1)]) hx dX7_callBy_100 (i := 2) rfl (Nat.le_of_ble_eq_true rfl) rfl rfl ?_
            refine J_iinc (v := ((j : Nat) : Int) + 1) (lsn := [vR (r), vI (rule), vI (w), vI (((j : Nat) : Int) + 1), vI (oddsY A j (atY A j)), vI (oddsY A j (atY A j) + 1)]) hx dX7_callBy_101 rfl (jinc1 (by omega) (by omega)) rfl rfl ?_
            refine J_goto (tgt := 4) hx dX7_callBy_104 (by decide) ?_
            first
            | exact lp_X7_callBy hT hN hW hx hr hrule h2 hQ (j + 1) _ _ _ (by omega) (cb_no hw (by simp [calY]; omega))
            | exact lp_X7_callBy hT hN hW hx hr hrule h2 hQ (j + 1) _ _ _ (by omega) (cb_first hw (by omega) (by simp [calY]; omega))
            | exact lp_X7_callBy hT hN hW hx hr hrule h2 hQ (j + 1) _ _ _ (by omega) (cb_lt hw (by simp [calY]; omega) (by unfold key2; (repeat' split) <;> omega))
            | exact lp_X7_callBy hT hN hW hx hr hrule h2 hQ (j + 1) _ _ _ (by omega) (cb_ge hw (by unfold key2; (repeat' split) <;> omega))
            | (exfalso; omega)
          · refine J_iload_n hx dX7_callBy_95 (i := 3) rfl rfl ?_
            refine J_goto (tgt := 100) hx dX7_callBy_96 (by decide) ?_
            refine J_istore_n (lsn := [vR (r), vI (rule), vI (((j : Nat) : Int)), vI (((j : Nat) : Int)), vI (oddsY A j (atY A j)), vI (oddsY A j (atY A j) + 1)]) hx dX7_callBy_100 (i := 2) rfl (Nat.le_of_ble_eq_true rfl) rfl rfl ?_
            refine J_iinc (v := ((j : Nat) : Int) + 1) (lsn := [vR (r), vI (rule), vI (((j : Nat) : Int)), vI (((j : Nat) : Int) + 1), vI (oddsY A j (atY A j)), vI (oddsY A j (atY A j) + 1)]) hx dX7_callBy_101 rfl (jinc1 (by omega) (by omega)) rfl rfl ?_
            refine J_goto (tgt := 4) hx dX7_callBy_104 (by decide) ?_
            first
            | exact lp_X7_callBy hT hN hW hx hr hrule h2 hQ (j + 1) _ _ _ (by omega) (cb_no hw (by simp [calY]; omega))
            | exact lp_X7_callBy hT hN hW hx hr hrule h2 hQ (j + 1) _ _ _ (by omega) (cb_first hw (by omega) (by simp [calY]; omega))
            | exact lp_X7_callBy hT hN hW hx hr hrule h2 hQ (j + 1) _ _ _ (by omega) (cb_lt hw (by simp [calY]; omega) (by unfold key2; (repeat' split) <;> omega))
            | exact lp_X7_callBy hT hN hW hx hr hrule h2 hQ (j + 1) _ _ _ (by omega) (cb_ge hw (by unfold key2; (repeat' split) <;> omega))
            | (exfalso; omega)
      · refine J_aload_n hx dX7_callBy_29 (i := 0) rfl rfl ?_
        refine J_getR (b := r + 19) hx fl_X7_43 cl_X7 dX7_callBy_30 hT.o (by decide) rfl hT.r12 ?_
        refine J_iload_n hx dX7_callBy_33 (i := 3) rfl rfl ?_
        refine J_iald2 (v := A.att 2 j) hx j dX7_callBy_34 hT.k19 (by omega) (hT.l19 (by omega)) (hN.we (by omega)) ?_
        have rg17 := hW.we (p := j) (by omega)
        refine J_goto (tgt := 48) hx dX7_callBy_35 (by decide) ?_
        refine J_istore (lsn := [vR (r), vI (rule), vI (w), vI (((j : Nat) : Int)), vI (A.att 2 j), u5]) hx dX7_callBy_48 (Nat.le_of_ble_eq_true rfl) rfl rfl ?_
        refine J_iload_n hx dX7_callBy_50 (i := 2) rfl rfl ?_
        refine J_iconst (v := -1) hx dX7_callBy_51 (by decide) ?_
        refine J_icmp_ne (tgt := 62) hx dX7_callBy_52 (by decide) (fun c18 => ?_) (fun c18 => ?_)
        · have hwb : ∃ b : Nat, w = ((b : Nat) : Int) ∧ b < j := by
              rcases pkI_rg (calY A) (key2 A rule) j with e9 | ⟨b9, e1, e2, e3⟩
              · exact absurd (hw.trans e9) (by omega)
              · exact ⟨b9, hw.trans e3, e2⟩
          obtain ⟨b, rfl, hbj⟩ := hwb
          refine J_iload_n hx dX7_callBy_62 (i := 1) rfl rfl ?_
          refine J_iconst (v := 1) hx dX7_callBy_63 (by decide) ?_
          refine J_icmp_ne (tgt := 76) hx dX7_callBy_64 (by decide) (fun c19 => ?_) (fun c19 => ?_)
          · refine J_aload_n hx dX7_callBy_76 (i := 0) rfl rfl ?_
            refine J_iload_n hx dX7_callBy_77 (i := 2) rfl rfl ?_
            refine J_aload_n hx dX7_callBy_78 (i := 0) rfl rfl ?_
            refine J_iload_n hx dX7_callBy_79 (i := 2) rfl rfl ?_
            refine J_invV (As := [vI (((b : Nat) : Int))]) (st := [vI (((b : Nat) : Int)), vR (r)]) hx lk_X7_280 okX7_atOf dX7_callBy_80 hT.o (by decide) rfl rfl rfl (Nat.le_of_ble_eq_true rfl) (Nat.zero_add _).symm (Nat.zero_add _).symm rfl (c_X7_atOf hT hN hW (p := b) (by omega) (by omega) ?_)
            have rg20 := atY_lt (A := A) (by omega) b
            refine J_invV (As := [vI (((b : Nat) : Int)), vI (((atY A b : Nat) : Int))]) (st := []) hx lk_X7_211 okX7_oddsOf dX7_callBy_83 hT.o (by decide) rfl rfl rfl (Nat.le_of_ble_eq_true rfl) (Nat.zero_add _).symm (Nat.zero_add _).symm rfl (c_X7_oddsOf hT hN hW (p := b) (by omega) (j := atY A b) (by omega) ?_)
            have rg21 : 0 ≤ oddsY A b (atY A b) ∧ oddsY A b (atY A b) ≤ 1000000 := oddsB_rg hW _ _
            refine J_istore (lsn := [vR (r), vI (rule), vI (((b : Nat) : Int)), vI (((j : Nat) : Int)), vI (A.att 2 j), vI (oddsY A b (atY A b))]) hx dX7_callBy_86 (Nat.le_of_ble_eq_true rfl) rfl rfl ?_
            refine J_iload hx dX7_callBy_88 rfl ?_
            refine J_iload hx dX7_callBy_90 rfl ?_
            refine J_icmp_ge (tgt := 99) hx dX7_callBy_92 (by decide) (fun c22 => ?_) (fun c22 => ?_)
            · refine J_iload_n hx dX7_callBy_99 (i := 2) rfl rfl ?_
              refine J_istore_n (lsn := [vR (r), vI (rule), vI (((b : Nat) : Int)), vI (((j : Nat) : Int)), vI (A.att 2 j), vI (oddsY A b (atY A b))]) hx dX7_callBy_100 (i := 2) rfl (Nat.le_of_ble_eq_true rfl) rfl rfl ?_
              refine J_iinc (v := ((j : Nat) : Int) + 1) (lsn := [vR (r), vI (rule), vI (((b : Nat) : Int)), vI (((j : Nat) : Int) + 1), vI (A.att 2 j), vI (oddsY A b (atY A b))]) hx dX7_callBy_101 rfl (jinc1 (by omega) (by omega)) rfl rfl ?_
              refine J_goto (tgt := 4) hx dX7_callBy_104 (by decide) ?_
              first
              | exact lp_X7_callBy hT hN hW hx hr hrule h2 hQ (j + 1) _ _ _ (by omega) (cb_no hw (by simp [calY]; omega))
              | exact lp_X7_callBy hT hN hW hx hr hrule h2 hQ (j + 1) _ _ _ (by omega) (cb_first hw (by omega) (by simp [calY]; omega))
              | exact lp_X7_callBy hT hN hW hx hr hrule h2 hQ (j + 1) _ _ _ (by omega) (cb_lt hw (by simp [calY]; omega) (by unfold key2; (repeat' split) <;> omega))
              | exact lp_X7_callBy hT hN hW hx hr hrule h2 hQ (j + 1) _ _ _ (by omega) (cb_ge hw (by unfold key2; (repeat' split) <;> omega))
              | (exfalso; omega)
            · refine J_iload_n hx dX7_callBy_95 (i := 3) rfl rfl ?_
              refine J_goto (tgt := 100) hx dX7_callBy_96 (by decide) ?_
              refine J_istore_n (lsn := [vR (r), vI (rule), vI (((j : Nat) : Int)), vI (((j : Nat) : Int)), vI (A.att 2 j), vI (oddsY A b (atY A b))]) hx dX7_callBy_100 (i := 2) rfl (Nat.le_of_ble_eq_true rfl) rfl rfl ?_
              refine J_iinc (v := ((j : Nat) : Int) + 1) (lsn := [vR (r), vI (rule), vI (((j : Nat) : Int)), vI (((j : Nat) : Int) + 1), vI (A.att 2 j), vI (oddsY A b (atY A b))]) hx dX7_callBy_101 rfl (jinc1 (by omega) (by omega)) rfl rfl ?_
              refine J_goto (tgt := 4) hx dX7_callBy_104 (by decide) ?_
              first
              | exact lp_X7_callBy hT hN hW hx hr hrule h2 hQ (j + 1) _ _ _ (by omega) (cb_no hw (by simp [calY]; omega))
              | exact lp_X7_callBy hT hN hW hx hr hrule h2 hQ (j + 1) _ _ _ (by omega) (cb_first hw (by omega) (by simp [calY]; omega))
              | exact lp_X7_callBy hT hN hW hx hr hrule h2 hQ (j + 1) _ _ _ (by omega) (cb_lt hw (by simp [calY]; omega) (by unfold key2; (repeat' split) <;> omega))
              | exact lp_X7_callBy hT hN hW hx hr hrule h2 hQ (j + 1) _ _ _ (by omega) (cb_ge hw (by unfold key2; (repeat' split) <;> omega))
              | (exfalso; omega)
          · refine J_aload_n hx dX7_callBy_67 (i := 0) rfl rfl ?_
            refine J_getR (b := r + 19) hx fl_X7_43 cl_X7 dX7_callBy_68 hT.o (by decide) rfl hT.r12 ?_
            refine J_iload_n hx dX7_callBy_71 (i := 2) rfl rfl ?_
            refine J_iald2 (v := A.att 2 b) hx b dX7_callBy_72 hT.k19 (by omega) (hT.l19 (by omega)) (hN.we (by omega)) ?_
            have rg23 := hW.we (p := b) (by omega)
            refine J_goto (tgt := 86) hx dX7_callBy_73 (by decide) ?_
            refine J_istore (lsn := [vR (r), vI (rule), vI (((b : Nat) : Int)), vI (((j : Nat) : Int)), vI (A.att 2 j), vI (A.att 2 b)]) hx dX7_callBy_86 (Nat.le_of_ble_eq_true rfl) rfl rfl ?_
            refine J_iload hx dX7_callBy_88 rfl ?_
            refine J_iload hx dX7_callBy_90 rfl ?_
            refine J_icmp_ge (tgt := 99) hx dX7_callBy_92 (by decide) (fun c24 => ?_) (fun c24 => ?_)
            · refine J_iload_n hx dX7_callBy_99 (i := 2) rfl rfl ?_
              refine J_istore_n (lsn := [vR (r), vI (rule), vI (((b : Nat) : Int)), vI (((j : Nat) : Int)), vI (A.att 2 j), vI (A.att 2 b)]) hx dX7_callBy_100 (i := 2) rfl (Nat.le_of_ble_eq_true rfl) rfl rfl ?_
              refine J_iinc (v := ((j : Nat) : Int) + 1) (lsn := [vR (r), vI (rule), vI (((b : Nat) : Int)), vI (((j : Nat) : Int) + 1), vI (A.att 2 j), vI (A.att 2 b)]) hx dX7_callBy_101 rfl (jinc1 (by omega) (by omega)) rfl rfl ?_
              refine J_goto (tgt := 4) hx dX7_callBy_104 (by decide) ?_
              first
              | exact lp_X7_callBy hT hN hW hx hr hrule h2 hQ (j + 1) _ _ _ (by omega) (cb_no hw (by simp [calY]; omega))
              | exact lp_X7_callBy hT hN hW hx hr hrule h2 hQ (j + 1) _ _ _ (by omega) (cb_first hw (by omega) (by simp [calY]; omega))
              | exact lp_X7_callBy hT hN hW hx hr hrule h2 hQ (j + 1) _ _ _ (by omega) (cb_lt hw (by simp [calY]; omega) (by unfold key2; (repeat' split) <;> omega))
              | exact lp_X7_callBy hT hN hW hx hr hrule h2 hQ (j + 1) _ _ _ (by omega) (cb_ge hw (by unfold key2; (repeat' split) <;> omega))
              | (exfalso; omega)
            · refine J_iload_n hx dX7_callBy_95 (i := 3) rfl rfl ?_
              refine J_goto (tgt := 100) hx dX7_callBy_96 (by decide) ?_
              refine J_istore_n (lsn := [vR (r), vI (rule), vI (((j : Nat) : Int)), vI (((j : Nat) : Int)), vI (A.att 2 j), vI (A.att 2 b)]) hx dX7_callBy_100 (i := 2) rfl (Nat.le_of_ble_eq_true rfl) rfl rfl ?_
              refine J_iinc (v := ((j : Nat) : Int) + 1) (lsn := [vR (r), vI (rule), vI (((j : Nat) : Int)), vI (((j : Nat) : Int) + 1), vI (A.att 2 j), vI (A.att 2 b)]) hx dX7_callBy_101 rfl (jinc1 (by omega) (by omega)) rfl rfl ?_
              refine J_goto (tgt := 4) hx dX7_callBy_104 (by decide) ?_
              first
              | exact lp_X7_callBy hT hN hW hx hr hrule h2 hQ (j + 1) _ _ _ (by omega) (cb_no hw (by simp [calY]; omega))
              | exact lp_X7_callBy hT hN hW hx hr hrule h2 hQ (j + 1) _ _ _ (by omega) (cb_first hw (by omega) (by simp [calY]; omega))
              | exact lp_X7_callBy hT hN hW hx hr hrule h2 hQ (j + 1) _ _ _ (by omega) (cb_lt hw (by simp [calY]; omega) (by unfold key2; (repeat' split) <;> omega))
              | exact lp_X7_callBy hT hN hW hx hr hrule h2 hQ (j + 1) _ _ _ (by omega) (cb_ge hw (by unfold key2; (repeat' split) <;> omega))
              | (exfalso; omega)
        · refine J_iload hx dX7_callBy_55 rfl ?_
          refine J_iconst (v := 1) hx dX7_callBy_57 (by decide) ?_
          refine J_iadd (v := A.att 2 j + 1) hx dX7_callBy_58 (w32_id (by omega) (by omega)) ?_
          refine J_goto (tgt := 86) hx dX7_callBy_59 (by decide) ?_
          refine J_istore (lsn := [vR (r), vI (rule), vI (w), vI (((j : Nat) : Int)), vI (A.att 2 j), vI (A.att 2 j + 1)]) hx dX7_callBy_86 (Nat.le_of_ble_eq_true rfl) rfl rfl ?_
          refine J_iload hx dX7_callBy_88 rfl ?_
          refine J_iload hx dX7_callBy_90 rfl ?_
          refine J_icmp_ge (tgt := 99) hx dX7_callBy_92 (by decide) (fun c25 => ?_) (fun c25 => ?_)
          · refine J_iload_n hx dX7_callBy_99 (i := 2) rfl rfl ?_
            refine J_istore_n (lsn := [vR (r), vI (rule), vI (w), vI (((j : Nat) : Int)), vI (A.att 2 j), vI (A.att 2 j + 1)]) hx dX7_callBy_100 (i := 2) rfl (Nat.le_of_ble_eq_true rfl) rfl rfl ?_
            refine J_iinc (v := ((j : Nat) : Int) + 1) (lsn := [vR (r), vI (rule), vI (w), vI (((j : Nat) : Int) + 1), vI (A.att 2 j), vI (A.att 2 j + 1)]) hx dX7_callBy_101 rfl (jinc1 (by omega) (by omega)) rfl rfl ?_
            refine J_goto (tgt := 4) hx dX7_callBy_104 (by decide) ?_
            first
            | exact lp_X7_callBy hT hN hW hx hr hrule h2 hQ (j + 1) _ _ _ (by omega) (cb_no hw (by simp [calY]; omega))
            | exact lp_X7_callBy hT hN hW hx hr hrule h2 hQ (j + 1) _ _ _ (by omega) (cb_first hw (by omega) (by simp [calY]; omega))
            | exact lp_X7_callBy hT hN hW hx hr hrule h2 hQ (j + 1) _ _ _ (by omega) (cb_lt hw (by simp [calY]; omega) (by unfold key2; (repeat' split) <;> omega))
            | exact lp_X7_callBy hT hN hW hx hr hrule h2 hQ (j + 1) _ _ _ (by omega) (cb_ge hw (by unfold key2; (repeat' split) <;> omega))
            | (exfalso; omega)
          · refine J_iload_n hx dX7_callBy_95 (i := 3) rfl rfl ?_
            refine J_goto (tgt := 100) hx dX7_callBy_96 (by decide) ?_
            refine J_istore_n (lsn := [vR (r), vI (rule), vI (((j : Nat) : Int)), vI (((j : Nat) : Int)), vI (A.att 2 j), vI (A.att 2 j + 1)]) hx dX7_callBy_100 (i := 2) rfl (Nat.le_of_ble_eq_true rfl) rfl rfl ?_
            refine J_iinc (v := ((j : Nat) : Int) + 1) (lsn := [vR (r), vI (rule), vI (((j : Nat) : Int)), vI (((j : Nat) : Int) + 1), vI (A.att 2 j), vI (A.att 2 j + 1)]) hx dX7_callBy_101 rfl (jinc1 (by omega) (by omega)) rfl rfl ?_
            refine J_goto (tgt := 4) hx dX7_callBy_104 (by decide) ?_
            first
            | exact lp_X7_callBy hT hN hW hx hr hrule h2 hQ (j + 1) _ _ _ (by omega) (cb_no hw (by simp [calY]; omega))
            | exact lp_X7_callBy hT hN hW hx hr hrule h2 hQ (j + 1) _ _ _ (by omega) (cb_first hw (by omega) (by simp [calY]; omega))
            | exact lp_X7_callBy hT hN hW hx hr hrule h2 hQ (j + 1) _ _ _ (by omega) (cb_lt hw (by simp [calY]; omega) (by unfold key2; (repeat' split) <;> omega))
            | exact lp_X7_callBy hT hN hW hx hr hrule h2 hQ (j + 1) _ _ _ (by omega) (cb_ge hw (by unfold key2; (repeat' split) <;> omega))
            | (exfalso; omega)
termination_by A.n - j
decreasing_by all_goals omega

set_option maxHeartbeats 4000000 in
theorem c_X7_callBy {g : WG} {d : Nat} {T : TT} {M : MM} {r sz : Nat} {A : YA} {Q : MVal → TT → MM → Nat → Prop} (hT : MT T r) (hN : MN M r A) (hW : WFY A) {rule : Int} (hrule : rule = 0 ∨ rule = 1) (h2 : 2 ≤ (A.ch A.tn).length) (hQ : Q (vI (whoY A rule)) T M sz) : Ct g (d + 5) mX7_callBy [vR (r), vI (rule)] T M sz 0 0 Q := by
  refine Ct_of2 (ls := [vR (r), vI (rule), vU, vU, vU, vU]) okX7_callBy rfl (Nat.le_of_ble_eq_true rfl) rfl ?_
  intro x hx hr hnm
  refine J_iconst (v := -1) hx dX7_callBy_0 (by decide) ?_
  refine J_istore_n (lsn := [vR (r), vI (rule), vI ((-1)), vU, vU, vU]) hx dX7_callBy_1 (i := 2) rfl (Nat.le_of_ble_eq_true rfl) rfl rfl ?_
  refine J_iconst (v := 0) hx dX7_callBy_2 (by decide) ?_
  refine J_istore_n (lsn := [vR (r), vI (rule), vI ((-1)), vI (0), vU, vU]) hx dX7_callBy_3 (i := 3) rfl (Nat.le_of_ble_eq_true rfl) rfl rfl ?_
  exact lp_X7_callBy hT hN hW hx hr hrule h2 hQ 0 _ _ _ (by omega) rfl
