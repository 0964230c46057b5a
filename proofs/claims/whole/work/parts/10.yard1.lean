theorem jdiv {a b : Int} (h0 : 0 ≤ a) (h1 : a < 2147483648) (hb : 0 < b) : w32 (a.tdiv b) = a / b := by
  rw [Int.tdiv_eq_ediv_of_nonneg h0]
  have h2 : 0 ≤ a / b := Int.ediv_nonneg h0 (by omega)
  have h3 : a / b ≤ a := Int.ediv_le_self _ h0
  exact w32_id (by omega) (by omega)
theorem jrem {a b : Int} (h0 : 0 ≤ a) (hb : 0 < b) : a.tmod b = a % b := Int.tmod_eq_emod_of_nonneg h0
theorem Qv {Q : MVal → TT → MM → Nat → Prop} {T : TT} {M : MM} {sz : Nat} {a b : Int} (h : Q (vI a) T M sz) (e : a = b) : Q (vI b) T M sz := e ▸ h
/-! what is computed of a yard -/
def holdB (A : YA) (p : Nat) : Int := if A.att 3 p < A.att 1 p then A.att 1 p - A.att 3 p else 0
def hold (A : YA) (p : Nat) (b : Int) : Int :=
  if A.att 0 p = 1 then holdB A p + A.att 4 p
  else if A.att 0 p = 3 then holdB A p + A.att 4 p + (if b ≠ -1 ∧ A.att 0 b.toNat = 3 then 5 else 0)
  else if A.att 0 p = 2 ∨ A.att 0 p = 5 then holdB A p / 2
  else if A.att 0 p = 4 then holdB A p + A.att 2 p / 4
  else holdB A p
def force (A : YA) (p : Nat) : Int := A.att 2 p + A.sc 1 / 3 + (if A.att 0 p = 4 then A.att 4 p else if A.att 0 p = 5 then 2 else 0)
def strb (A : YA) (hs e : Int) : Int := if e = 0 then (if A.sc 3 = 1 then hs + 3 else hs) else if 2 < (if A.sc 3 = 1 then hs + 3 else hs) then (if A.sc 3 = 1 then hs + 3 else hs) - 2 else 0
def strl (A : YA) (l : List Nat) (j : Nat) : Int := strb A (hold A (l.getD j 0) (((l.getD (j + 1) 0 : Nat)) : Int) + hold A (l.getD (j + 1) 0) (((l.getD j 0 : Nat)) : Int)) (if j = 0 ∨ j + 2 = l.length then 1 else 0)
def oddsB (A : YA) (f s : Int) : Int := if f + A.sc 2 - 1 - s ≤ 0 then 0 else if A.sc 2 ≤ f + A.sc 2 - 1 - s then 1000000 else 1000000 * (f + A.sc 2 - 1 - s) / A.sc 2
def overY (A : YA) : Prop := (A.ch 0).length < 2 ∨ (A.ch 1).length < 2 ∨ A.sc 4 ≤ A.sc 6
def leadY (A : YA) : Int := if (A.ch 0).length = (A.ch 1).length then -1 else if (A.ch 1).length < (A.ch 0).length then 0 else 1
theorem holdB_rg {A : YA} (h : WFY A) {p : Nat} (hp : p < A.n) : 0 ≤ holdB A p ∧ holdB A p ≤ 20 := by
  have h1 := h.gr hp; have h2 := h.ti hp
  unfold holdB; split <;> omega
theorem hold_rg {A : YA} (h : WFY A) {p : Nat} (hp : p < A.n) (b : Int) : 0 ≤ hold A p b ∧ hold A p b ≤ 34 := by
  have h1 := holdB_rg h hp; have h2 := h.by_ hp; have h3 := h.we hp
  unfold hold
  repeat' split
  all_goals omega
theorem force_rg {A : YA} (h : WFY A) {p : Nat} (hp : p < A.n) : 0 ≤ force A p ∧ force A p ≤ 39 := by
  have h1 := h.we hp; have h2 := h.by_ hp; have h3 := h.s1
  unfold force
  repeat' split
  all_goals omega
theorem strb_rg {A : YA} (h : WFY A) {hs : Int} (e : Int) (h0 : 0 ≤ hs) (h1 : hs ≤ 68) : 0 ≤ strb A hs e ∧ strb A hs e ≤ 71 := by
  unfold strb
  repeat' split
  all_goals omega
theorem getD_lt {A : YA} {l : List Nat} (hl : ∀ p ∈ l, p < A.n) {k : Nat} (hk : k < l.length) : l.getD k 0 < A.n := by
  refine hl _ ?_
  rw [List.getD_eq_getElem?_getD, List.getElem?_eq_getElem hk]
  exact List.getElem_mem hk
theorem strl_rg {A : YA} (h : WFY A) {l : List Nat} (hl : ∀ p ∈ l, p < A.n) {j : Nat} (hj : j + 1 < l.length) : 0 ≤ strl A l j ∧ strl A l j ≤ 71 := by
  have h1 := hold_rg h (getD_lt hl (show j < l.length by omega)) ((l.getD (j + 1) 0 : Nat) : Int)
  have h2 := hold_rg h (getD_lt hl hj) ((l.getD j 0 : Nat) : Int)
  exact strb_rg h _ (by omega) (by omega)
theorem oddsB_rg {A : YA} (h : WFY A) (f s : Int) : 0 ≤ oddsB A f s ∧ oddsB A f s ≤ 1000000 := by
  have h1 := h.s2
  unfold oddsB
  split
  · omega
  · split
    · omega
    · rename_i a b
      constructor
      · exact Int.ediv_nonneg (by omega) (by omega)
      · exact Int.le_of_lt_add_one (Int.ediv_lt_of_lt_mul (by omega) (by
          have : (f + A.sc 2 - 1 - s) * 1000000 ≤ (A.sc 2 - 1) * 1000000 := Int.mul_le_mul_of_nonneg_right (by omega) (by decide)
          have e : (1000000 + 1) * A.sc 2 = 1000001 * A.sc 2 := by rfl
          rw [e]; omega))

set_option maxHeartbeats 4000000 in
theorem c_X5_has {g : WG} {d : Nat} {T : TT} {M : MM} {r sz : Nat} {A : YA} {Q : MVal → TT → MM → Nat → Prop} (hT : YT T r) (hN : YN M r A) (hW : WFY A) {one : Int} (hQ : ∀ v : Int, ((v = 1 ∧ 0 ≤ one ∧ one < A.n) ∨ (v = 0 ∧ ¬ (0 ≤ one ∧ one < A.n))) → Q (vI v) T M sz) : Ct g (d + 1) mX5_has [vR (r), vI (one)] T M sz 0 0 Q := by
  refine Ct_of2 (ls := [vR (r), vI (one)]) okX5_has rfl (Nat.le_of_ble_eq_true rfl) rfl ?_
  intro x hx hr hnm
  refine J_iload_n hx dX5_has_0 (i := 1) rfl rfl ?_
  refine J_if_lt (tgt := 16) hx dX5_has_1 (by decide) (fun c1 => ?_) (fun c1 => ?_)
  · refine J_iconst (v := 0) hx dX5_has_16 (by decide) ?_
    refine J_zret hx hr dX5_has_17 (by omega) ?_
    exact hQ _ (by omega)
  · refine J_iload_n hx dX5_has_4 (i := 1) rfl rfl ?_
    refine J_aload_n hx dX5_has_5 (i := 0) rfl rfl ?_
    refine J_getI2 (v := ((A.n : Nat) : Int)) hx fl_X5_57 cl_X5 dX5_has_6 hT.o (by decide) rfl hN.pp ?_
    have rg2 := hW.n8
    refine J_icmp_ge (tgt := 16) hx dX5_has_9 (by decide) (fun c3 => ?_) (fun c3 => ?_)
    · refine J_iconst (v := 0) hx dX5_has_16 (by decide) ?_
      refine J_zret hx hr dX5_has_17 (by omega) ?_
      exact hQ _ (by omega)
    · refine J_iconst (v := 1) hx dX5_has_12 (by decide) ?_
      refine J_goto (tgt := 17) hx dX5_has_13 (by decide) ?_
      refine J_zret hx hr dX5_has_17 (by omega) ?_
      exact hQ _ (by omega)

set_option maxHeartbeats 4000000 in
theorem c_X5_hasPlace {g : WG} {d : Nat} {T : TT} {M : MM} {r sz : Nat} {A : YA} {Q : MVal → TT → MM → Nat → Prop} (hT : YT T r) (hN : YN M r A) (hW : WFY A) {c : Nat} (hc : c < 2) {k : Int} (hQ : ∀ v : Int, ((v = 1 ∧ 0 ≤ k ∧ k < (A.ch c).length) ∨ (v = 0 ∧ ¬ (0 ≤ k ∧ k < (A.ch c).length))) → Q (vI v) T M sz) : Ct g (d + 1) mX5_hasPlace [vR (r), vI (((c : Nat) : Int)), vI (k)] T M sz 0 0 Q := by
  refine Ct_of2 (ls := [vR (r), vI (((c : Nat) : Int)), vI (k)]) okX5_hasPlace rfl (Nat.le_of_ble_eq_true rfl) rfl ?_
  intro x hx hr hnm
  refine J_iload_n hx dX5_hasPlace_0 (i := 2) rfl rfl ?_
  refine J_if_lt (tgt := 18) hx dX5_hasPlace_1 (by decide) (fun c1 => ?_) (fun c1 => ?_)
  · refine J_iconst (v := 0) hx dX5_hasPlace_18 (by decide) ?_
    refine J_zret hx hr dX5_hasPlace_19 (by omega) ?_
    exact hQ _ (by omega)
  · refine J_iload_n hx dX5_hasPlace_4 (i := 2) rfl rfl ?_
    refine J_aload_n hx dX5_hasPlace_5 (i := 0) rfl rfl ?_
    refine J_getR (b := r + 10) hx fl_X5_35 cl_X5 dX5_hasPlace_6 hT.o (by decide) rfl hT.r7 ?_
    refine J_iload_n hx dX5_hasPlace_9 (i := 1) rfl rfl ?_
    refine J_iald2 (v := (((A.ch c).length : Nat) : Int)) hx c dX5_hasPlace_10 hT.k10 (by omega) (hT.l10 (by omega)) (hN.sz (by omega)) ?_
    have rg2 := hW.len8 (c := c) (by omega)
    have rg3 := hW.lenN (c := c) (by omega)
    refine J_icmp_ge (tgt := 18) hx dX5_hasPlace_11 (by decide) (fun c4 => ?_) (fun c4 => ?_)
    · refine J_iconst (v := 0) hx dX5_hasPlace_18 (by decide) ?_
      refine J_zret hx hr dX5_hasPlace_19 (by omega) ?_
      exact hQ _ (by omega)
    · refine J_iconst (v := 1) hx dX5_hasPlace_14 (by decide) ?_
      refine J_goto (tgt := 19) hx dX5_hasPlace_15 (by decide) ?_
      refine J_zret hx hr dX5_hasPlace_19 (by omega) ?_
      exact hQ _ (by omega)

set_option maxHeartbeats 4000000 in
theorem c_X5_hasJoint {g : WG} {d : Nat} {T : TT} {M : MM} {r sz : Nat} {A : YA} {Q : MVal → TT → MM → Nat → Prop} (hT : YT T r) (hN : YN M r A) (hW : WFY A) {c : Nat} (hc : c < 2) {k : Int} (hQ : ∀ v : Int, ((v = 1 ∧ 0 ≤ k ∧ k + 1 < (A.ch c).length) ∨ (v = 0 ∧ ¬ (0 ≤ k ∧ k + 1 < (A.ch c).length))) → Q (vI v) T M sz) : Ct g (d + 1) mX5_hasJoint [vR (r), vI (((c : Nat) : Int)), vI (k)] T M sz 0 0 Q := by
  refine Ct_of2 (ls := [vR (r), vI (((c : Nat) : Int)), vI (k)]) okX5_hasJoint rfl (Nat.le_of_ble_eq_true rfl) rfl ?_
  intro x hx hr hnm
  refine J_iload_n hx dX5_hasJoint_0 (i := 2) rfl rfl ?_
  refine J_if_lt (tgt := 20) hx dX5_hasJoint_1 (by decide) (fun c1 => ?_) (fun c1 => ?_)
  · refine J_iconst (v := 0) hx dX5_hasJoint_20 (by decide) ?_
    refine J_zret hx hr dX5_hasJoint_21 (by omega) ?_
    exact hQ _ (by omega)
  · refine J_iload_n hx dX5_hasJoint_4 (i := 2) rfl rfl ?_
    refine J_aload_n hx dX5_hasJoint_5 (i := 0) rfl rfl ?_
    refine J_getR (b := r + 10) hx fl_X5_35 cl_X5 dX5_hasJoint_6 hT.o (by decide) rfl hT.r7 ?_
    refine J_iload_n hx dX5_hasJoint_9 (i := 1) rfl rfl ?_
    refine J_iald2 (v := (((A.ch c).length : Nat) : Int)) hx c dX5_hasJoint_10 hT.k10 (by omega) (hT.l10 (by omega)) (hN.sz (by omega)) ?_
    have rg2 := hW.len8 (c := c) (by omega)
    have rg3 := hW.lenN (c := c) (by omega)
    refine J_iconst (v := 1) hx dX5_hasJoint_11 (by decide) ?_
    refine J_isub (v := (((A.ch c).length : Nat) : Int) - 1) hx dX5_hasJoint_12 (w32_id (by omega) (by omega)) ?_
    refine J_icmp_ge (tgt := 20) hx dX5_hasJoint_13 (by decide) (fun c4 => ?_) (fun c4 => ?_)
    · refine J_iconst (v := 0) hx dX5_hasJoint_20 (by decide) ?_
      refine J_zret hx hr dX5_hasJoint_21 (by omega) ?_
      exact hQ _ (by omega)
    · refine J_iconst (v := 1) hx dX5_hasJoint_16 (by decide) ?_
      refine J_goto (tgt := 21) hx dX5_hasJoint_17 (by decide) ?_
      refine J_zret hx hr dX5_hasJoint_21 (by omega) ?_
      exact hQ _ (by omega)

set_option maxHeartbeats 4000000 in
theorem c_X5_isCalled {g : WG} {d : Nat} {T : TT} {M : MM} {r sz : Nat} {A : YA} {Q : MVal → TT → MM → Nat → Prop} (hT : YT T r) (hN : YN M r A) (hW : WFY A) {p : Nat} (hp : p < A.n) (hQ : ∀ v : Int, ((v = 1 ∧ A.co p ≠ A.tn) ∨ (v = 0 ∧ A.co p = A.tn)) → Q (vI v) T M sz) : Ct g (d + 1) mX5_isCalled [vR (r), vI (((p : Nat) : Int))] T M sz 0 0 Q := by
  refine Ct_of2 (ls := [vR (r), vI (((p : Nat) : Int))]) okX5_isCalled rfl (Nat.le_of_ble_eq_true rfl) rfl ?_
  intro x hx hr hnm
  have hn8 := hW.n8
  refine J_aload_n hx dX5_isCalled_0 (i := 0) rfl rfl ?_
  refine J_getR (b := r + 6) hx fl_X5_27 cl_X5 dX5_isCalled_1 hT.o (by decide) rfl hT.r5 ?_
  refine J_iload_n hx dX5_isCalled_4 (i := 1) rfl rfl ?_
  refine J_iald2 (v := ((A.co p : Nat) : Int)) hx p dX5_isCalled_5 hT.k6 (by omega) (hT.l6 (by omega)) (hN.hm (by omega)) ?_
  have rg1 := A.co2 p
  refine J_aload_n hx dX5_isCalled_6 (i := 0) rfl rfl ?_
  refine J_getI2 (v := ((A.tn : Nat) : Int)) hx fl_X5_63 cl_X5 dX5_isCalled_7 hT.o (by decide) rfl (hN.tn hW) ?_
  have rg2 := hW.tn2
  refine J_icmp_eq (tgt := 17) hx dX5_isCalled_10 (by decide) (fun c3 => ?_) (fun c3 => ?_)
  · refine J_iconst (v := 0) hx dX5_isCalled_17 (by decide) ?_
    refine J_zret hx hr dX5_isCalled_18 (by omega) ?_
    exact hQ _ (by omega)
  · refine J_iconst (v := 1) hx dX5_isCalled_13 (by decide) ?_
    refine J_goto (tgt := 18) hx dX5_isCalled_14 (by decide) ?_
    refine J_zret hx hr dX5_isCalled_18 (by omega) ?_
    exact hQ _ (by omega)

set_option maxHeartbeats 4000000 in
theorem c_X5_holdOf {g : WG} {d : Nat} {T : TT} {M : MM} {r sz : Nat} {A : YA} {Q : MVal → TT → MM → Nat → Prop} (hT : YT T r) (hN : YN M r A) (hW : WFY A) {p : Nat} (hp : p < A.n) {b : Int} (hb : b = -1 ∨ (0 ≤ b ∧ b < A.n)) (hQ : Q (vI (hold A p b)) T M sz) : Ct g (d + 1) mX5_holdOf [vR (r), vI (((p : Nat) : Int)), vI (b)] T M sz 0 0 Q := by
  refine Ct_of2 (ls := [vR (r), vI (((p : Nat) : Int)), vI (b), vU]) okX5_holdOf rfl (Nat.le_of_ble_eq_true rfl) rfl ?_
  intro x hx hr hnm
  have hn8 := hW.n8
  refine J_aload_n hx dX5_holdOf_0 (i := 0) rfl rfl ?_
  refine J_getR (b := r + 2) hx fl_X5_15 cl_X5 dX5_holdOf_1 hT.o (by decide) rfl hT.r1 ?_
  refine J_iload_n hx dX5_holdOf_4 (i := 1) rfl rfl ?_
  refine J_iald2 (v := A.att 1 p) hx p dX5_holdOf_5 hT.k2 (by omega) (hT.l2 (by omega)) (hN.gr (by omega)) ?_
  have rg1 := hW.gr (p := p) (by omega)
  refine J_aload_n hx dX5_holdOf_6 (i := 0) rfl rfl ?_
  refine J_getR (b := r + 4) hx fl_X5_21 cl_X5 dX5_holdOf_7 hT.o (by decide) rfl hT.r3 ?_
  refine J_iload_n hx dX5_holdOf_10 (i := 1) rfl rfl ?_
  refine J_iald2 (v := A.att 3 p) hx p dX5_holdOf_11 hT.k4 (by omega) (hT.l4 (by omega)) (hN.ti (by omega)) ?_
  have rg2 := hW.ti (p := p) (by omega)
  refine J_icmp_le (tgt := 31) hx dX5_holdOf_12 (by decide) (fun c3 => ?_) (fun c3 => ?_)
  · refine J_iconst (v := 0) hx dX5_holdOf_31 (by decide) ?_
    refine J_istore_n (lsn := [vR (r), vI (((p : Nat) : Int)), vI (b), vI (0)]) hx dX5_holdOf_32 (i := 3) rfl (Nat.le_of_ble_eq_true rfl) rfl rfl ?_
    refine J_aload_n hx dX5_holdOf_33 (i := 0) rfl rfl ?_
    refine J_getR (b := r + 1) hx fl_X5_9 cl_X5 dX5_holdOf_34 hT.o (by decide) rfl hT.r0 ?_
    refine J_iload_n hx dX5_holdOf_37 (i := 1) rfl rfl ?_
    refine J_iald2 (v := A.att 0 p) hx p dX5_holdOf_38 hT.k1 (by omega) (hT.l1 (by omega)) (hN.kd (by omega)) ?_
    have rg4 := hW.kd (p := p) (by omega)
    by_cases t5_0 : A.att 0 p = 1
    · refine J_tswIn (tgt := 72) (off := 33) hx dX5_holdOf_39 (by omega) (by omega) (by rw [t5_0]; rfl) (by decide) ?_
      refine J_iload_n hx dX5_holdOf_72 (i := 3) rfl rfl ?_
      refine J_aload_n hx dX5_holdOf_73 (i := 0) rfl rfl ?_
      refine J_getR (b := r + 5) hx fl_X5_24 cl_X5 dX5_holdOf_74 hT.o (by decide) rfl hT.r4 ?_
      refine J_iload_n hx dX5_holdOf_77 (i := 1) rfl rfl ?_
      refine J_iald2 (v := A.att 4 p) hx p dX5_holdOf_78 hT.k5 (by omega) (hT.l5 (by omega)) (hN.by_ (by omega)) ?_
      have rg6 := hW.by_ (p := p) (by omega)
      refine J_iadd (v := 0 + (A.att 4 p)) hx dX5_holdOf_79 (w32_id (by omega) (by omega)) ?_
      refine J_iret hx hr dX5_holdOf_80 ?_
      exact Qv hQ (by unfold hold holdB; (repeat' split) <;> omega)
    by_cases t5_1 : A.att 0 p = 2
    · refine J_tswIn (tgt := 111) (off := 72) hx dX5_holdOf_39 (by omega) (by omega) (by rw [t5_1]; rfl) (by decide) ?_
      refine J_iload_n hx dX5_holdOf_111 (i := 3) rfl rfl ?_
      refine J_iconst (v := 2) hx dX5_holdOf_112 (by decide) ?_
      refine J_idiv (v := 0 / 2) hx dX5_holdOf_113 (by omega) (jdiv (by omega) (by omega) (by omega)) ?_
      refine J_iret hx hr dX5_holdOf_114 ?_
      exact Qv hQ (by unfold hold holdB; (repeat' split) <;> omega)
    by_cases t5_2 : A.att 0 p = 3
    · refine J_tswIn (tgt := 81) (off := 42) hx dX5_holdOf_39 (by omega) (by omega) (by rw [t5_2]; rfl) (by decide) ?_
      refine J_iload_n hx dX5_holdOf_81 (i := 3) rfl rfl ?_
      refine J_aload_n hx dX5_holdOf_82 (i := 0) rfl rfl ?_
      refine J_getR (b := r + 5) hx fl_X5_24 cl_X5 dX5_holdOf_83 hT.o (by decide) rfl hT.r4 ?_
      refine J_iload_n hx dX5_holdOf_86 (i := 1) rfl rfl ?_
      refine J_iald2 (v := A.att 4 p) hx p dX5_holdOf_87 hT.k5 (by omega) (hT.l5 (by omega)) (hN.by_ (by omega)) ?_
      have rg7 := hW.by_ (p := p) (by omega)
      refine J_iadd (v := 0 + (A.att 4 p)) hx dX5_holdOf_88 (w32_id (by omega) (by omega)) ?_
      refine J_iload_n hx dX5_holdOf_89 (i := 2) rfl rfl ?_
      refine J_iconst (v := -1) hx dX5_holdOf_90 (by decide) ?_
      refine J_icmp_eq (tgt := 108) hx dX5_holdOf_91 (by decide) (fun c8 => ?_) (fun c8 => ?_)
      · refine J_iconst (v := 0) hx dX5_holdOf_108 (by decide) ?_
        refine J_iadd (v := 0 + (A.att 4 p) + 0) hx dX5_holdOf_109 (w32_id (by omega) (by omega)) ?_
        refine J_iret hx hr dX5_holdOf_110 ?_
        exact Qv hQ (by unfold hold holdB; (repeat' split) <;> omega)
      · refine J_aload_n hx dX5_holdOf_94 (i := 0) rfl rfl ?_
        refine J_getR (b := r + 1) hx fl_X5_9 cl_X5 dX5_holdOf_95 hT.o (by decide) rfl hT.r0 ?_
        refine J_iload_n hx dX5_holdOf_98 (i := 2) rfl rfl ?_
        refine J_iald2 (v := A.att 0 (Int.toNat (b))) hx (Int.toNat (b)) dX5_holdOf_99 hT.k1 (by omega) (hT.l1 (by omega)) (hN.kd (by omega)) ?_
        have rg9 := hW.kd (p := Int.toNat (b)) (by omega)
        refine J_iconst (v := 3) hx dX5_holdOf_100 (by decide) ?_
        refine J_icmp_ne (tgt := 108) hx dX5_holdOf_101 (by decide) (fun c10 => ?_) (fun c10 => ?_)
        · refine J_iconst (v := 0) hx dX5_holdOf_108 (by decide) ?_
          refine J_iadd (v := 0 + (A.att 4 p) + 0) hx dX5_holdOf_109 (w32_id (by omega) (by omega)) ?_
          refine J_iret hx hr dX5_holdOf_110 ?_
          exact Qv hQ (by unfold hold holdB; (repeat' split) <;> omega)
        · refine J_iconst (v := 5) hx dX5_holdOf_104 (by decide) ?_
          refine J_goto (tgt := 109) hx dX5_holdOf_105 (by decide) ?_
          refine J_iadd (v := 0 + (A.att 4 p) + 5) hx dX5_holdOf_109 (w32_id (by omega) (by omega)) ?_
          refine J_iret hx hr dX5_holdOf_110 ?_
          exact Qv hQ (by unfold hold holdB; (repeat' split) <;> omega)
    by_cases t5_3 : A.att 0 p = 4
    · refine J_tswIn (tgt := 115) (off := 76) hx dX5_holdOf_39 (by omega) (by omega) (by rw [t5_3]; rfl) (by decide) ?_
      refine J_iload_n hx dX5_holdOf_115 (i := 3) rfl rfl ?_
      refine J_aload_n hx dX5_holdOf_116 (i := 0) rfl rfl ?_
      refine J_getR (b := r + 3) hx fl_X5_18 cl_X5 dX5_holdOf_117 hT.o (by decide) rfl hT.r2 ?_
      refine J_iload_n hx dX5_holdOf_120 (i := 1) rfl rfl ?_
      refine J_iald2 (v := A.att 2 p) hx p dX5_holdOf_121 hT.k3 (by omega) (hT.l3 (by omega)) (hN.we (by omega)) ?_
      have rg11 := hW.we (p := p) (by omega)
      refine J_iconst (v := 4) hx dX5_holdOf_122 (by decide) ?_
      refine J_idiv (v := (A.att 2 p) / 4) hx dX5_holdOf_123 (by omega) (jdiv (by omega) (by omega) (by omega)) ?_
      refine J_iadd (v := 0 + ((A.att 2 p) / 4)) hx dX5_holdOf_124 (w32_id (by omega) (by omega)) ?_
      refine J_iret hx hr dX5_holdOf_125 ?_
      exact Qv hQ (by unfold hold holdB; (repeat' split) <;> omega)
    by_cases t5_4 : A.att 0 p = 5
    · refine J_tswIn (tgt := 111) (off := 72) hx dX5_holdOf_39 (by omega) (by omega) (by rw [t5_4]; rfl) (by decide) ?_
      refine J_iload_n hx dX5_holdOf_111 (i := 3) rfl rfl ?_
      refine J_iconst (v := 2) hx dX5_holdOf_112 (by decide) ?_
      refine J_idiv (v := 0 / 2) hx dX5_holdOf_113 (by omega) (jdiv (by omega) (by omega) (by omega)) ?_
      refine J_iret hx hr dX5_holdOf_114 ?_
      exact Qv hQ (by unfold hold holdB; (repeat' split) <;> omega)
    refine J_tswOut (tgt := 126) hx dX5_holdOf_39 (by omega) (by decide) ?_
    refine J_iload_n hx dX5_holdOf_126 (i := 3) rfl rfl ?_
    refine J_iret hx hr dX5_holdOf_127 ?_
    exact Qv hQ (by unfold hold holdB; (repeat' split) <;> omega)
  · refine J_aload_n hx dX5_holdOf_15 (i := 0) rfl rfl ?_
    refine J_getR (b := r + 2) hx fl_X5_15 cl_X5 dX5_holdOf_16 hT.o (by decide) rfl hT.r1 ?_
    refine J_iload_n hx dX5_holdOf_19 (i := 1) rfl rfl ?_
    refine J_iald2 (v := A.att 1 p) hx p dX5_holdOf_20 hT.k2 (by omega) (hT.l2 (by omega)) (hN.gr (by omega)) ?_
    have rg12 := hW.gr (p := p) (by omega)
    refine J_aload_n hx dX5_holdOf_21 (i := 0) rfl rfl ?_
    refine J_getR (b := r + 4) hx fl_X5_21 cl_X5 dX5_holdOf_22 hT.o (by decide) rfl hT.r3 ?_
    refine J_iload_n hx dX5_holdOf_25 (i := 1) rfl rfl ?_
    refine J_iald2 (v := A.att 3 p) hx p dX5_holdOf_26 hT.k4 (by omega) (hT.l4 (by omega)) (hN.ti (by omega)) ?_
    have rg13 := hW.ti (p := p) (by omega)
    refine J_isub (v := A.att 1 p - (A.att 3 p)) hx dX5_holdOf_27 (w32_id (by omega) (by omega)) ?_
    refine J_goto (tgt := 32) hx dX5_holdOf_28 (by decide) ?_
    refine J_istore_n (lsn := [vR (r), vI (((p : Nat) : Int)), vI (b), vI (A.att 1 p - (A.att 3 p))]) hx dX5_holdOf_32 (i := 3) rfl (Nat.le_of_ble_eq_true rfl) rfl rfl ?_
    refine J_aload_n hx dX5_holdOf_33 (i := 0) rfl rfl ?_
    refine J_getR (b := r + 1) hx fl_X5_9 cl_X5 dX5_holdOf_34 hT.o (by decide) rfl hT.r0 ?_
    refine J_iload_n hx dX5_holdOf_37 (i := 1) rfl rfl ?_
    refine J_iald2 (v := A.att 0 p) hx p dX5_holdOf_38 hT.k1 (by omega) (hT.l1 (by omega)) (hN.kd (by omega)) ?_
    have rg14 := hW.kd (p := p) (by omega)
    by_cases t15_0 : A.att 0 p = 1
    · refine J_tswIn (tgt := 72) (off := 33) hx dX5_holdOf_39 (by omega) (by omega) (by rw [t15_0]; rfl) (by decide) ?_
      refine J_iload_n hx dX5_holdOf_72 (i := 3) rfl rfl ?_
      refine J_aload_n hx dX5_holdOf_73 (i := 0) rfl rfl ?_
      refine J_getR (b := r + 5) hx fl_X5_24 cl_X5 dX5_holdOf_74 hT.o (by decide) rfl hT.r4 ?_
      refine J_iload_n hx dX5_holdOf_77 (i := 1) rfl rfl ?_
      refine J_iald2 (v := A.att 4 p) hx p dX5_holdOf_78 hT.k5 (by omega) (hT.l5 (by omega)) (hN.by_ (by omega)) ?_
      have rg16 := hW.by_ (p := p) (by omega)
      refine J_iadd (v := A.att 1 p - (A.att 3 p) + (A.att 4 p)) hx dX5_holdOf_79 (w32_id (by omega) (by omega)) ?_
      refine J_iret hx hr dX5_holdOf_80 ?_
      exact Qv hQ (by unfold hold holdB; (repeat' split) <;> omega)
    by_cases t15_1 : A.att 0 p = 2
    · refine J_tswIn (tgt := 111) (off := 72) hx dX5_holdOf_39 (by omega) (by omega) (by rw [t15_1]; rfl) (by decide) ?_
      refine J_iload_n hx dX5_holdOf_111 (i := 3) rfl rfl ?_
      refine J_iconst (v := 2) hx dX5_holdOf_112 (by decide) ?_
      refine J_idiv (v := (A.att 1 p - (A.att 3 p)) / 2) hx dX5_holdOf_113 (by omega) (jdiv (by omega) (by omega) (by omega)) ?_
      refine J_iret hx hr dX5_holdOf_114 ?_
      exact Qv hQ (by unfold hold holdB; (repeat' split) <;> omega)
    by_cases t15_2 : A.att 0 p = 3
    · refine J_tswIn (tgt := 81) (off := 42) hx dX5_holdOf_39 (by omega) (by omega) (by rw [t15_2]; rfl) (by decide) ?_
      refine J_iload_n hx dX5_holdOf_81 (i := 3) rfl rfl ?_
      refine J_aload_n hx dX5_holdOf_82 (i := 0) rfl rfl ?_
      refine J_getR (b := r + 5) hx fl_X5_24 cl_X5 dX5_holdOf_83 hT.o (by decide) rfl hT.r4 ?_
      refine J_iload_n hx dX5_holdOf_86 (i := 1) rfl rfl ?_
      refine J_iald2 (v := A.att 4 p) hx p dX5_holdOf_87 hT.k5 (by omega) (hT.l5 (by omega)) (hN.by_ (by omega)) ?_
      have rg17 := hW.by_ (p := p) (by omega)
      refine J_iadd (v := A.att 1 p - (A.att 3 p) + (A.att 4 p)) hx dX5_holdOf_88 (w32_id (by omega) (by omega)) ?_
      refine J_iload_n hx dX5_holdOf_89 (i := 2) rfl rfl ?_
      refine J_iconst (v := -1) hx dX5_holdOf_90 (by decide) ?_
      refine J_icmp_eq (tgt := 108) hx dX5_holdOf_91 (by decide) (fun c18 => ?_) (fun c18 => ?_)
      · refine J_iconst (v := 0) hx dX5_holdOf_108 (by decide) ?_
        refine J_iadd (v := A.att 1 p - (A.att 3 p) + (A.att 4 p) + 0) hx dX5_holdOf_109 (w32_id (by omega) (by omega)) ?_
        refine J_iret hx hr dX5_holdOf_110 ?_
        exact Qv hQ (by unfold hold holdB; (repeat' split) <;> omega)
      · refine J_aload_n hx dX5_holdOf_94 (i := 0) rfl rfl ?_
        refine J_getR (b := r + 1) hx fl_X5_9 cl_X5 dX5_holdOf_95 hT.o (by decide) rfl hT.r0 ?_
        refine J_iload_n hx dX5_holdOf_98 (i := 2) rfl rfl ?_
        refine J_iald2 (v := A.att 0 (Int.toNat (b))) hx (Int.toNat (b)) dX5_holdOf_99 hT.k1 (by omega) (hT.l1 (by omega)) (hN.kd (by omega)) ?_
        have rg19 := hW.kd (p := Int.toNat (b)) (by omega)
        refine J_iconst (v := 3) hx dX5_holdOf_100 (by decide) ?_
        refine J_icmp_ne (tgt := 108) hx dX5_holdOf_101 (by decide) (fun c20 => ?_) (fun c20 => ?_)
        · refine J_iconst (v := 0) hx dX5_holdOf_108 (by decide) ?_
          refine J_iadd (v := A.att 1 p - (A.att 3 p) + (A.att 4 p) + 0) hx dX5_holdOf_109 (w32_id (by omega) (by omega)) ?_
          refine J_iret hx hr dX5_holdOf_110 ?_
          exact Qv hQ (by unfold hold holdB; (repeat' split) <;> omega)
        · refine J_iconst (v := 5) hx dX5_holdOf_104 (by decide) ?_
          refine J_goto (tgt := 109) hx dX5_holdOf_105 (by decide) ?_
          refine J_iadd (v := A.att 1 p - (A.att 3 p) + (A.att 4 p) + 5) hx dX5_holdOf_109 (w32_id (by omega) (by omega)) ?_
          refine J_iret hx hr dX5_holdOf_110 ?_
          exact Qv hQ (by unfold hold holdB; (repeat' split) <;> omega)
    by_cases t15_3 : A.att 0 p = 4
    · refine J_tswIn (tgt := 115) (off := 76) hx dX5_holdOf_39 (by omega) (by omega) (by rw [t15_3]; rfl) (by decide) ?_
      refine J_iload_n hx dX5_holdOf_115 (i := 3) rfl rfl ?_
      refine J_aload_n hx dX5_holdOf_116 (i := 0) rfl rfl ?_
      refine J_getR (b := r + 3) hx fl_X5_18 cl_X5 dX5_holdOf_117 hT.o (by decide) rfl hT.r2 ?_
      refine J_iload_n hx dX5_holdOf_120 (i := 1) rfl rfl ?_
      refine J_iald2 (v := A.att 2 p) hx p dX5_holdOf_121 hT.k3 (by omega) (hT.l3 (by omega)) (hN.we (by omega)) ?_
      have rg21 := hW.we (p := p) (by omega)
      refine J_iconst (v := 4) hx dX5_holdOf_122 (by decide) ?_
      refine J_idiv (v := (A.att 2 p) / 4) hx dX5_holdOf_123 (by omega) (jdiv (by omega) (by omega) (by omega)) ?_
      refine J_iadd (v := A.att 1 p - (A.att 3 p) + ((A.att 2 p) / 4)) hx dX5_holdOf_124 (w32_id (by omega) (by omega)) ?_
      refine J_iret hx hr dX5_holdOf_125 ?_
      exact Qv hQ (by unfold hold holdB; (repeat' split) <;> omega)
    by_cases t15_4 : A.att 0 p = 5
    · refine J_tswIn (tgt := 111) (off := 72) hx dX5_holdOf_39 (by omega) (by omega) (by rw [t15_4]; rfl) (by decide) ?_
      refine J_iload_n hx dX5_holdOf_111 (i := 3) rfl rfl ?_
      refine J_iconst (v := 2) hx dX5_holdOf_112 (by decide) ?_
      refine J_idiv (v := (A.att 1 p - (A.att 3 p)) / 2) hx dX5_holdOf_113 (by omega) (jdiv (by omega) (by omega) (by omega)) ?_
      refine J_iret hx hr dX5_holdOf_114 ?_
      exact Qv hQ (by unfold hold holdB; (repeat' split) <;> omega)
    refine J_tswOut (tgt := 126) hx dX5_holdOf_39 (by omega) (by decide) ?_
    refine J_iload_n hx dX5_holdOf_126 (i := 3) rfl rfl ?_
    refine J_iret hx hr dX5_holdOf_127 ?_
    exact Qv hQ (by unfold hold holdB; (repeat' split) <;> omega)

set_option maxHeartbeats 4000000 in
theorem c_X5_strengthBy {g : WG} {d : Nat} {T : TT} {M : MM} {r sz : Nat} {A : YA} {Q : MVal → TT → MM → Nat → Prop} (hT : YT T r) (hN : YN M r A) (hW : WFY A) {hs e : Int} (h0 : 0 ≤ hs ∧ hs ≤ 68) (h1 : e = 0 ∨ e = 1) (hQ : Q (vI (strb A hs e)) T M sz) : Ct g (d + 1) mX5_strengthBy [vR (r), vI (hs), vI (e)] T M sz 0 0 Q := by
  refine Ct_of2 (ls := [vR (r), vI (hs), vI (e), vU]) okX5_strengthBy rfl (Nat.le_of_ble_eq_true rfl) rfl ?_
  intro x hx hr hnm
  refine J_aload_n hx dX5_strengthBy_0 (i := 0) rfl rfl ?_
  refine J_getI2 (v := A.sc 3) hx fl_X5_60 cl_X5 dX5_strengthBy_1 hT.o (by decide) rfl hN.s3 ?_
  have rg1 := hW.s3
  refine J_iconst (v := 1) hx dX5_strengthBy_4 (by decide) ?_
  refine J_icmp_ne (tgt := 14) hx dX5_strengthBy_5 (by decide) (fun c2 => ?_) (fun c2 => ?_)
  · refine J_iload_n hx dX5_strengthBy_14 (i := 1) rfl rfl ?_
    refine J_istore_n (lsn := [vR (r), vI (hs), vI (e), vI (hs)]) hx dX5_strengthBy_15 (i := 3) rfl (Nat.le_of_ble_eq_true rfl) rfl rfl ?_
    refine J_iload_n hx dX5_strengthBy_16 (i := 2) rfl rfl ?_
    refine J_if_ne (tgt := 22) hx dX5_strengthBy_17 (by decide) (fun c3 => ?_) (fun c3 => ?_)
    · refine J_iload_n hx dX5_strengthBy_22 (i := 3) rfl rfl ?_
      refine J_iconst (v := 2) hx dX5_strengthBy_23 (by decide) ?_
      refine J_icmp_le (tgt := 33) hx dX5_strengthBy_24 (by decide) (fun c4 => ?_) (fun c4 => ?_)
      · refine J_iconst (v := 0) hx dX5_strengthBy_33 (by decide) ?_
        refine J_iret hx hr dX5_strengthBy_34 ?_
        exact Qv hQ (by unfold strb; (repeat' split) <;> omega)
      · refine J_iload_n hx dX5_strengthBy_27 (i := 3) rfl rfl ?_
        refine J_iconst (v := 2) hx dX5_strengthBy_28 (by decide) ?_
        refine J_isub (v := hs - 2) hx dX5_strengthBy_29 (w32_id (by omega) (by omega)) ?_
        refine J_goto (tgt := 34) hx dX5_strengthBy_30 (by decide) ?_
        refine J_iret hx hr dX5_strengthBy_34 ?_
        exact Qv hQ (by unfold strb; (repeat' split) <;> omega)
    · refine J_iload_n hx dX5_strengthBy_20 (i := 3) rfl rfl ?_
      refine J_iret hx hr dX5_strengthBy_21 ?_
      exact Qv hQ (by unfold strb; (repeat' split) <;> omega)
  · refine J_iload_n hx dX5_strengthBy_8 (i := 1) rfl rfl ?_
    refine J_iconst (v := 3) hx dX5_strengthBy_9 (by decide) ?_
    refine J_iadd (v := hs + 3) hx dX5_strengthBy_10 (w32_id (by omega) (by omega)) ?_
    refine J_goto (tgt := 15) hx dX5_strengthBy_11 (by decide) ?_
    refine J_istore_n (lsn := [vR (r), vI (hs), vI (e), vI (hs + 3)]) hx dX5_strengthBy_15 (i := 3) rfl (Nat.le_of_ble_eq_true rfl) rfl rfl ?_
    refine J_iload_n hx dX5_strengthBy_16 (i := 2) rfl rfl ?_
    refine J_if_ne (tgt := 22) hx dX5_strengthBy_17 (by decide) (fun c5 => ?_) (fun c5 => ?_)
    · refine J_iload_n hx dX5_strengthBy_22 (i := 3) rfl rfl ?_
      refine J_iconst (v := 2) hx dX5_strengthBy_23 (by decide) ?_
      refine J_icmp_le (tgt := 33) hx dX5_strengthBy_24 (by decide) (fun c6 => ?_) (fun c6 => ?_)
      · refine J_iconst (v := 0) hx dX5_strengthBy_33 (by decide) ?_
        refine J_iret hx hr dX5_strengthBy_34 ?_
        exact Qv hQ (by unfold strb; (repeat' split) <;> omega)
      · refine J_iload_n hx dX5_strengthBy_27 (i := 3) rfl rfl ?_
        refine J_iconst (v := 2) hx dX5_strengthBy_28 (by decide) ?_
        refine J_isub (v := hs + 3 - 2) hx dX5_strengthBy_29 (w32_id (by omega) (by omega)) ?_
        refine J_goto (tgt := 34) hx dX5_strengthBy_30 (by decide) ?_
        refine J_iret hx hr dX5_strengthBy_34 ?_
        exact Qv hQ (by unfold strb; (repeat' split) <;> omega)
    · refine J_iload_n hx dX5_strengthBy_20 (i := 3) rfl rfl ?_
      refine J_iret hx hr dX5_strengthBy_21 ?_
      exact Qv hQ (by unfold strb; (repeat' split) <;> omega)

set_option maxHeartbeats 4000000 in
theorem c_X5_forceOf {g : WG} {d : Nat} {T : TT} {M : MM} {r sz : Nat} {A : YA} {Q : MVal → TT → MM → Nat → Prop} (hT : YT T r) (hN : YN M r A) (hW : WFY A) {p : Nat} (hp : p < A.n) (hQ : Q (vI (force A p)) T M sz) : Ct g (d + 1) mX5_forceOf [vR (r), vI (((p : Nat) : Int))] T M sz 0 0 Q := by
  refine Ct_of2 (ls := [vR (r), vI (((p : Nat) : Int)), vU]) okX5_forceOf rfl (Nat.le_of_ble_eq_true rfl) rfl ?_
  intro x hx hr hnm
  have hn8 := hW.n8
  refine J_aload_n hx dX5_forceOf_0 (i := 0) rfl rfl ?_
  refine J_getR (b := r + 3) hx fl_X5_18 cl_X5 dX5_forceOf_1 hT.o (by decide) rfl hT.r2 ?_
  refine J_iload_n hx dX5_forceOf_4 (i := 1) rfl rfl ?_
  refine J_iald2 (v := A.att 2 p) hx p dX5_forceOf_5 hT.k3 (by omega) (hT.l3 (by omega)) (hN.we (by omega)) ?_
  have rg1 := hW.we (p := p) (by omega)
  refine J_aload_n hx dX5_forceOf_6 (i := 0) rfl rfl ?_
  refine J_getI2 (v := A.sc 1) hx fl_X5_38 cl_X5 dX5_forceOf_7 hT.o (by decide) rfl hN.s1 ?_
  have rg2 := hW.s1
  refine J_iconst (v := 3) hx dX5_forceOf_10 (by decide) ?_
  refine J_idiv (v := (A.sc 1) / 3) hx dX5_forceOf_11 (by omega) (jdiv (by omega) (by omega) (by omega)) ?_
  refine J_iadd (v := A.att 2 p + ((A.sc 1) / 3)) hx dX5_forceOf_12 (w32_id (by omega) (by omega)) ?_
  refine J_istore_n (lsn := [vR (r), vI (((p : Nat) : Int)), vI (A.att 2 p + ((A.sc 1) / 3))]) hx dX5_forceOf_13 (i := 2) rfl (Nat.le_of_ble_eq_true rfl) rfl rfl ?_
  refine J_aload_n hx dX5_forceOf_14 (i := 0) rfl rfl ?_
  refine J_getR (b := r + 1) hx fl_X5_9 cl_X5 dX5_forceOf_15 hT.o (by decide) rfl hT.r0 ?_
  refine J_iload_n hx dX5_forceOf_18 (i := 1) rfl rfl ?_
  refine J_iald2 (v := A.att 0 p) hx p dX5_forceOf_19 hT.k1 (by omega) (hT.l1 (by omega)) (hN.kd (by omega)) ?_
  have rg3 := hW.kd (p := p) (by omega)
  refine J_iconst (v := 4) hx dX5_forceOf_20 (by decide) ?_
  refine J_icmp_ne (tgt := 33) hx dX5_forceOf_21 (by decide) (fun c4 => ?_) (fun c4 => ?_)
  · refine J_aload_n hx dX5_forceOf_33 (i := 0) rfl rfl ?_
    refine J_getR (b := r + 1) hx fl_X5_9 cl_X5 dX5_forceOf_34 hT.o (by decide) rfl hT.r0 ?_
    refine J_iload_n hx dX5_forceOf_37 (i := 1) rfl rfl ?_
    refine J_iald2 (v := A.att 0 p) hx p dX5_forceOf_38 hT.k1 (by omega) (hT.l1 (by omega)) (hN.kd (by omega)) ?_
    have rg5 := hW.kd (p := p) (by omega)
    refine J_iconst (v := 5) hx dX5_forceOf_39 (by decide) ?_
    refine J_icmp_ne (tgt := 49) hx dX5_forceOf_40 (by decide) (fun c6 => ?_) (fun c6 => ?_)
    · refine J_iload_n hx dX5_forceOf_49 (i := 2) rfl rfl ?_
      refine J_iret hx hr dX5_forceOf_50 ?_
      exact Qv hQ (by unfold force; (repeat' split) <;> omega)
    · refine J_iload_n hx dX5_forceOf_43 (i := 2) rfl rfl ?_
      refine J_iconst (v := 2) hx dX5_forceOf_44 (by decide) ?_
      refine J_iadd (v := A.att 2 p + ((A.sc 1) / 3) + 2) hx dX5_forceOf_45 (w32_id (by omega) (by omega)) ?_
      refine J_goto (tgt := 50) hx dX5_forceOf_46 (by decide) ?_
      refine J_iret hx hr dX5_forceOf_50 ?_
      exact Qv hQ (by unfold force; (repeat' split) <;> omega)
  · refine J_iload_n hx dX5_forceOf_24 (i := 2) rfl rfl ?_
    refine J_aload_n hx dX5_forceOf_25 (i := 0) rfl rfl ?_
    refine J_getR (b := r + 5) hx fl_X5_24 cl_X5 dX5_forceOf_26 hT.o (by decide) rfl hT.r4 ?_
    refine J_iload_n hx dX5_forceOf_29 (i := 1) rfl rfl ?_
    refine J_iald2 (v := A.att 4 p) hx p dX5_forceOf_30 hT.k5 (by omega) (hT.l5 (by omega)) (hN.by_ (by omega)) ?_
    have rg7 := hW.by_ (p := p) (by omega)
    refine J_iadd (v := A.att 2 p + ((A.sc 1) / 3) + (A.att 4 p)) hx dX5_forceOf_31 (w32_id (by omega) (by omega)) ?_
    refine J_iret hx hr dX5_forceOf_32 ?_
    exact Qv hQ (by unfold force; (repeat' split) <;> omega)

set_option maxHeartbeats 4000000 in
theorem c_X5_isOver {g : WG} {d : Nat} {T : TT} {M : MM} {r sz : Nat} {A : YA} {Q : MVal → TT → MM → Nat → Prop} (hT : YT T r) (hN : YN M r A) (hW : WFY A)  (hQ : ∀ v : Int, ((v = 1 ∧ overY A) ∨ (v = 0 ∧ ¬ overY A)) → Q (vI v) T M sz) : Ct g (d + 1) mX5_isOver [vR (r)] T M sz 0 0 Q := by
  refine Ct_of2 (ls := [vR (r)]) okX5_isOver rfl (Nat.le_of_ble_eq_true rfl) rfl ?_
  intro x hx hr hnm
  have hn8 := hW.n8
  refine J_aload_n hx dX5_isOver_0 (i := 0) rfl rfl ?_
  refine J_getR (b := r + 10) hx fl_X5_35 cl_X5 dX5_isOver_1 hT.o (by decide) rfl hT.r7 ?_
  refine J_iconst (v := 0) hx dX5_isOver_4 (by decide) ?_
  refine J_iald2 (v := (((A.ch 0).length : Nat) : Int)) hx 0 dX5_isOver_5 hT.k10 (by omega) (hT.l10 (by omega)) (hN.sz (by omega)) ?_
  have rg1 := hW.len8 (c := 0) (by omega)
  have rg2 := hW.lenN (c := 0) (by omega)
  refine J_iconst (v := 2) hx dX5_isOver_6 (by decide) ?_
  refine J_icmp_lt (tgt := 31) hx dX5_isOver_7 (by decide) (fun c3 => ?_) (fun c3 => ?_)
  · refine J_iconst (v := 1) hx dX5_isOver_31 (by decide) ?_
    refine J_goto (tgt := 36) hx dX5_isOver_32 (by decide) ?_
    refine J_zret hx hr dX5_isOver_36 (by omega) ?_
    exact hQ _ (by unfold overY; omega)
  · refine J_aload_n hx dX5_isOver_10 (i := 0) rfl rfl ?_
    refine J_getR (b := r + 10) hx fl_X5_35 cl_X5 dX5_isOver_11 hT.o (by decide) rfl hT.r7 ?_
    refine J_iconst (v := 1) hx dX5_isOver_14 (by decide) ?_
    refine J_iald2 (v := (((A.ch 1).length : Nat) : Int)) hx 1 dX5_isOver_15 hT.k10 (by omega) (hT.l10 (by omega)) (hN.sz (by omega)) ?_
    have rg4 := hW.len8 (c := 1) (by omega)
    have rg5 := hW.lenN (c := 1) (by omega)
    refine J_iconst (v := 2) hx dX5_isOver_16 (by decide) ?_
    refine J_icmp_lt (tgt := 31) hx dX5_isOver_17 (by decide) (fun c6 => ?_) (fun c6 => ?_)
    · refine J_iconst (v := 1) hx dX5_isOver_31 (by decide) ?_
      refine J_goto (tgt := 36) hx dX5_isOver_32 (by decide) ?_
      refine J_zret hx hr dX5_isOver_36 (by omega) ?_
      exact hQ _ (by unfold overY; omega)
    · refine J_aload_n hx dX5_isOver_20 (i := 0) rfl rfl ?_
      refine J_getI2 (v := A.sc 6) hx fl_X5_66 cl_X5 dX5_isOver_21 hT.o (by decide) rfl hN.s6 ?_
      have rg7 := hW.s6
      refine J_aload_n hx dX5_isOver_24 (i := 0) rfl rfl ?_
      refine J_getI2 (v := A.sc 4) hx fl_X5_45 cl_X5 dX5_isOver_25 hT.o (by decide) rfl hN.s4 ?_
      have rg8 := hW.s4
      refine J_icmp_lt (tgt := 35) hx dX5_isOver_28 (by decide) (fun c9 => ?_) (fun c9 => ?_)
      · refine J_iconst (v := 0) hx dX5_isOver_35 (by decide) ?_
        refine J_zret hx hr dX5_isOver_36 (by omega) ?_
        exact hQ _ (by unfold overY; omega)
      · refine J_iconst (v := 1) hx dX5_isOver_31 (by decide) ?_
        refine J_goto (tgt := 36) hx dX5_isOver_32 (by decide) ?_
        refine J_zret hx hr dX5_isOver_36 (by omega) ?_
        exact hQ _ (by unfold overY; omega)

set_option maxHeartbeats 4000000 in
theorem c_X5_leader {g : WG} {d : Nat} {T : TT} {M : MM} {r sz : Nat} {A : YA} {Q : MVal → TT → MM → Nat → Prop} (hT : YT T r) (hN : YN M r A) (hW : WFY A)  (hQ : Q (vI (leadY A)) T M sz) : Ct g (d + 1) mX5_leader [vR (r)] T M sz 0 0 Q := by
  refine Ct_of2 (ls := [vR (r)]) okX5_leader rfl (Nat.le_of_ble_eq_true rfl) rfl ?_
  intro x hx hr hnm
  have hn8 := hW.n8
  refine J_aload_n hx dX5_leader_0 (i := 0) rfl rfl ?_
  refine J_getR (b := r + 10) hx fl_X5_35 cl_X5 dX5_leader_1 hT.o (by decide) rfl hT.r7 ?_
  refine J_iconst (v := 0) hx dX5_leader_4 (by decide) ?_
  refine J_iald2 (v := (((A.ch 0).length : Nat) : Int)) hx 0 dX5_leader_5 hT.k10 (by omega) (hT.l10 (by omega)) (hN.sz (by omega)) ?_
  have rg1 := hW.len8 (c := 0) (by omega)
  have rg2 := hW.lenN (c := 0) (by omega)
  refine J_aload_n hx dX5_leader_6 (i := 0) rfl rfl ?_
  refine J_getR (b := r + 10) hx fl_X5_35 cl_X5 dX5_leader_7 hT.o (by decide) rfl hT.r7 ?_
  refine J_iconst (v := 1) hx dX5_leader_10 (by decide) ?_
  refine J_iald2 (v := (((A.ch 1).length : Nat) : Int)) hx 1 dX5_leader_11 hT.k10 (by omega) (hT.l10 (by omega)) (hN.sz (by omega)) ?_
  have rg3 := hW.len8 (c := 1) (by omega)
  have rg4 := hW.lenN (c := 1) (by omega)
  refine J_icmp_ne (tgt := 17) hx dX5_leader_12 (by decide) (fun c5 => ?_) (fun c5 => ?_)
  · refine J_aload_n hx dX5_leader_17 (i := 0) rfl rfl ?_
    refine J_getR (b := r + 10) hx fl_X5_35 cl_X5 dX5_leader_18 hT.o (by decide) rfl hT.r7 ?_
    refine J_iconst (v := 0) hx dX5_leader_21 (by decide) ?_
    refine J_iald2 (v := (((A.ch 0).length : Nat) : Int)) hx 0 dX5_leader_22 hT.k10 (by omega) (hT.l10 (by omega)) (hN.sz (by omega)) ?_
    have rg6 := hW.len8 (c := 0) (by omega)
    have rg7 := hW.lenN (c := 0) (by omega)
    refine J_aload_n hx dX5_leader_23 (i := 0) rfl rfl ?_
    refine J_getR (b := r + 10) hx fl_X5_35 cl_X5 dX5_leader_24 hT.o (by decide) rfl hT.r7 ?_
    refine J_iconst (v := 1) hx dX5_leader_27 (by decide) ?_
    refine J_iald2 (v := (((A.ch 1).length : Nat) : Int)) hx 1 dX5_leader_28 hT.k10 (by omega) (hT.l10 (by omega)) (hN.sz (by omega)) ?_
    have rg8 := hW.len8 (c := 1) (by omega)
    have rg9 := hW.lenN (c := 1) (by omega)
    refine J_icmp_le (tgt := 36) hx dX5_leader_29 (by decide) (fun c10 => ?_) (fun c10 => ?_)
    · refine J_iconst (v := 1) hx dX5_leader_36 (by decide) ?_
      refine J_iret hx hr dX5_leader_37 ?_
      exact Qv hQ (by unfold leadY; (repeat' split) <;> omega)
    · refine J_iconst (v := 0) hx dX5_leader_32 (by decide) ?_
      refine J_goto (tgt := 37) hx dX5_leader_33 (by decide) ?_
      refine J_iret hx hr dX5_leader_37 ?_
      exact Qv hQ (by unfold leadY; (repeat' split) <;> omega)
  · refine J_iconst (v := -1) hx dX5_leader_15 (by decide) ?_
    refine J_iret hx hr dX5_leader_16 ?_
    exact Qv hQ (by unfold leadY; (repeat' split) <;> omega)
