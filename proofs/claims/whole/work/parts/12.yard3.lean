theorem qn_some {k : Nat → Int} {j : Nat} (hj : 1 ≤ j) : pick tt_ k j = some (pkN tt_ k j) ∧ pkN tt_ k j < j := by
  obtain ⟨b, h, h1, -⟩ := pick_some (P := tt_) (k := k) (i := j) (j := 0) hj rfl
  rw [pkN_of h]
  exact ⟨h, h1⟩
theorem qn_lt {k : Nat → Int} {j : Nat} (hj : 1 ≤ j) (h : k j < k (pkN tt_ k j)) : pkN tt_ k (j + 1) = j := pkN_of (qk_lt (H := 0) rfl (by rw [pkV_of (qn_some hj).1]; exact h))
theorem qn_ge {k : Nat → Int} {j : Nat} (hj : 1 ≤ j) (h : ¬ k j < k (pkN tt_ k j)) : pkN tt_ k (j + 1) = pkN tt_ k j := pkN_eq (qk_ge (H := k j + 1) (by omega) (by rw [pkV_of (qn_some hj).1]; exact h))
def cntF (f : Nat → Bool) : Nat → Nat
  | 0 => 0
  | k + 1 => cntF f k + (if f k = true then 1 else 0)
theorem cntF_le (f : Nat → Bool) : ∀ k, cntF f k ≤ k
  | 0 => Nat.le_refl 0
  | k + 1 => by have := cntF_le f k; unfold cntF; split <;> omega
theorem cntF_t {f : Nat → Bool} {k : Nat} (h : f k = true) : cntF f (k + 1) = cntF f k + 1 := by
  show cntF f k + (if f k = true then 1 else 0) = _
  rw [if_pos h]
theorem cntF_f {f : Nat → Bool} {k : Nat} (h : f k = false) : cntF f (k + 1) = cntF f k := by
  show cntF f k + (if f k = true then 1 else 0) = _
  rw [if_neg (by rw [h]; decide)]; rfl
def sumF (f : Nat → Int) : Nat → Int
  | 0 => 0
  | k + 1 => sumF f k + f k
theorem sumF_rg {f : Nat → Int} {b : Int} : ∀ {k : Nat}, (∀ j, j < k → 0 ≤ f j ∧ f j ≤ b) → 0 ≤ sumF f k ∧ sumF f k ≤ b * k
  | 0, _ => by simp [sumF]
  | k + 1, h => by
    have h1 := sumF_rg (k := k) (fun j hj => h j (by omega))
    have h2 := h k (by omega)
    have e : b * ((k + 1 : Nat) : Int) = b * k + b := by rw [Int.natCast_add, Int.mul_add]; simp
    unfold sumF
    omega
def weakY (A : YA) (l : List Nat) : Nat := pkN tt_ (strl A l) (l.length - 1)
def stroY (A : YA) (l : List Nat) : Nat := pkN tt_ (fun j => - strl A l j) (l.length - 1)
def atY (A : YA) (p : Nat) : Nat := pkN tt_ (fun j => - oddsY A p j) ((A.ch A.tn).length - 1)
def keyY (A : YA) (rule : Int) (p : Nat) : Int := if rule = 0 then oddsB A (force A p) (leastS A (A.ch A.tn)) else A.att 2 p
def calY (A : YA) (p : Nat) : Bool := decide (A.co p ≠ A.tn)
def whoY (A : YA) (rule : Int) : Int := pkI (calY A) (keyY A rule) A.n
def hardY (A : YA) (l : List Nat) : Nat := pkN tt_ (fun k => - force A (l.getD k 0)) l.length
def sisY (A : YA) (l : List Nat) : Nat := cntF (fun k => decide (A.att 0 (l.getD k 0) = 3)) l.length
def plcY (A : YA) (p : Nat) : Nat := (A.ch (A.co p)).idxOf p
def tirY (A : YA) : Nat := pkN tt_ (fun p => - A.att 3 p) A.n
theorem getD_idxOf {l : List Nat} {p : Nat} (h : p ∈ l) : l.getD (l.idxOf p) 0 = p := by
  have h1 : l.idxOf p < l.length := List.idxOf_lt_length_iff.mpr h
  rw [List.getD_eq_getElem?_getD, List.getElem?_eq_getElem h1]
  exact List.getElem_idxOf h1
theorem idxOf_getD {l : List Nat} {k : Nat} (hn : l.Nodup) (hk : k < l.length) : l.idxOf (l.getD k 0) = k := by
  rw [List.getD_eq_getElem?_getD, List.getElem?_eq_getElem hk]
  exact hn.idxOf_getElem k hk
theorem plcY_lt {A : YA} (h : WFY A) {p : Nat} (hp : p < A.n) : plcY A p < (A.ch (A.co p)).length := List.idxOf_lt_length_iff.mpr (h.mco hp)

set_option maxHeartbeats 4000000 in
theorem lp_X5_weakestJoint {g : WG} {d : Nat} {T : TT} {M : MM} {r sz : Nat} {A : YA} {Q : MVal → TT → MM → Nat → Prop} (hT : YT T r) (hN : YN M r A) (hW : WFY A) {x : CX} (hx : OKx g x RX5 cX5_weakestJoint (d + 3)) (hr : RTx g x (some .int) Q) {c : Nat} (hc : c < 2) (hQ : Q (vI ((weakY A (A.ch c) : Nat) : Int)) T M sz) (j : Nat) (w l : Int) (u : MVal) (hj : j + 1 ≤ (A.ch c).length) (hw : w = ((pkN tt_ (strl A (A.ch c)) j : Nat) : Int)) (hl : l = pkV 1000000000 tt_ (strl A (A.ch c)) j) : Jd g x 8 [vR (r), vI (((c : Nat) : Int)), vI (w), vI (l), vI (((j : Nat) : Int)), u] [] T M sz 0 0 := by
  have hl8 := hW.len8 hc
  refine J_iload hx dX5_weakestJoint_8 rfl ?_
  refine J_aload_n hx dX5_weakestJoint_10 (i := 0) rfl rfl ?_
  refine J_getR (b := r + 10) hx fl_X5_35 cl_X5 dX5_weakestJoint_11 hT.o (by decide) rfl hT.r7 ?_
  refine J_iload_n hx dX5_weakestJoint_14 (i := 1) rfl rfl ?_
  refine J_iald2 (v := (((A.ch c).length : Nat) : Int)) hx c dX5_weakestJoint_15 hT.k10 (by omega) (hT.l10 (by omega)) (hN.sz (by omega)) ?_
  have rg1 := hW.len8 (c := c) (by omega)
  have rg2 := hW.lenN (c := c) (by omega)
  refine J_iconst (v := 1) hx dX5_weakestJoint_16 (by decide) ?_
  refine J_isub (v := (((A.ch c).length : Nat) : Int) - 1) hx dX5_weakestJoint_17 (w32_id (by omega) (by omega)) ?_
  refine J_icmp_ge (tgt := 48) hx dX5_weakestJoint_18 (by decide) (fun c3 => ?_) (fun c3 => ?_)
  · refine J_iload_n hx dX5_weakestJoint_48 (i := 2) rfl rfl ?_
    refine J_iret hx hr dX5_weakestJoint_49 ?_
    exact Qv hQ (by rw [hw]; unfold weakY; rw [show (A.ch c).length - 1 = j by omega])
  · refine J_aload_n hx dX5_weakestJoint_21 (i := 0) rfl rfl ?_
    refine J_iload_n hx dX5_weakestJoint_22 (i := 1) rfl rfl ?_
    refine J_iload hx dX5_weakestJoint_23 rfl ?_
    refine J_invV (As := [vI (((c : Nat) : Int)), vI (((j : Nat) : Int))]) (st := []) hx lk_X5_82 okX5_strengthAt dX5_weakestJoint_25 hT.o (by decide) rfl rfl rfl (Nat.le_of_ble_eq_true rfl) (Nat.zero_add _).symm (Nat.zero_add _).symm rfl (c_X5_strengthAt hT hN hW (c := c) (by omega) (j := j) (by omega) ?_)
    have rg4 := strl_rg hW (l := A.ch c) (fun p hp => hW.lt (by omega) hp) (j := j) (by omega)
    refine J_istore (lsn := [vR (r), vI (((c : Nat) : Int)), vI (w), vI (l), vI (((j : Nat) : Int)), vI (strl A (A.ch c) j)]) hx dX5_weakestJoint_28 (Nat.le_of_ble_eq_true rfl) rfl rfl ?_
    refine J_iload hx dX5_weakestJoint_30 rfl ?_
    refine J_iload_n hx dX5_weakestJoint_32 (i := 3) rfl rfl ?_
    refine J_icmp_ge (tgt := 42) hx dX5_weakestJoint_33 (by decide) (fun c5 => ?_) (fun c5 => ?_)
    · refine J_iinc (v := ((j : Nat) : Int) + 1) (lsn := [vR (r), vI (((c : Nat) : Int)), vI (w), vI (l), vI (((j : Nat) : Int) + 1), vI (strl A (A.ch c) j)]) hx dX5_weakestJoint_42 rfl (jinc1 (by omega) (by omega)) rfl rfl ?_
      refine J_goto (tgt := 8) hx dX5_weakestJoint_45 (by decide) ?_
      have hp9 := qk_ge (H := 1000000000) (P := tt_) (k := (strl A (A.ch c))) (i := j) (by omega) (by rw [← hl]; omega)
      exact lp_X5_weakestJoint hT hN hW hx hr hc hQ (j + 1) _ _ _ (by omega) (by rw [pkN_eq hp9]; exact hw) (by rw [pkV_eq hp9]; exact hl)
    · refine J_iload hx dX5_weakestJoint_36 rfl ?_
      refine J_istore_n (lsn := [vR (r), vI (((c : Nat) : Int)), vI (w), vI (strl A (A.ch c) j), vI (((j : Nat) : Int)), vI (strl A (A.ch c) j)]) hx dX5_weakestJoint_38 (i := 3) rfl (Nat.le_of_ble_eq_true rfl) rfl rfl ?_
      refine J_iload hx dX5_weakestJoint_39 rfl ?_
      refine J_istore_n (lsn := [vR (r), vI (((c : Nat) : Int)), vI (((j : Nat) : Int)), vI (strl A (A.ch c) j), vI (((j : Nat) : Int)), vI (strl A (A.ch c) j)]) hx dX5_weakestJoint_41 (i := 2) rfl (Nat.le_of_ble_eq_true rfl) rfl rfl ?_
      refine J_iinc (v := ((j : Nat) : Int) + 1) (lsn := [vR (r), vI (((c : Nat) : Int)), vI (((j : Nat) : Int)), vI (strl A (A.ch c) j), vI (((j : Nat) : Int) + 1), vI (strl A (A.ch c) j)]) hx dX5_weakestJoint_42 rfl (jinc1 (by omega) (by omega)) rfl rfl ?_
      refine J_goto (tgt := 8) hx dX5_weakestJoint_45 (by decide) ?_
      have hp9 := qk_lt (H := 1000000000) (P := tt_) (k := (strl A (A.ch c))) (i := j) rfl (by rw [← hl]; omega)
      exact lp_X5_weakestJoint hT hN hW hx hr hc hQ (j + 1) _ _ _ (by omega) (by rw [pkN_of hp9]) (by rw [pkV_of hp9])
termination_by (A.ch c).length - j
decreasing_by all_goals omega

set_option maxHeartbeats 4000000 in
theorem c_X5_weakestJoint {g : WG} {d : Nat} {T : TT} {M : MM} {r sz : Nat} {A : YA} {Q : MVal → TT → MM → Nat → Prop} (hT : YT T r) (hN : YN M r A) (hW : WFY A) {c : Nat} (hc : c < 2) (h1 : 1 ≤ (A.ch c).length) (hQ : Q (vI ((weakY A (A.ch c) : Nat) : Int)) T M sz) : Ct g (d + 3) mX5_weakestJoint [vR (r), vI (((c : Nat) : Int))] T M sz 0 0 Q := by
  refine Ct_of2 (ls := [vR (r), vI (((c : Nat) : Int)), vU, vU, vU, vU]) okX5_weakestJoint rfl (Nat.le_of_ble_eq_true rfl) rfl ?_
  intro x hx hr hnm
  refine J_iconst (v := 0) hx dX5_weakestJoint_0 (by decide) ?_
  refine J_istore_n (lsn := [vR (r), vI (((c : Nat) : Int)), vI (0), vU, vU, vU]) hx dX5_weakestJoint_1 (i := 2) rfl (Nat.le_of_ble_eq_true rfl) rfl rfl ?_
  refine J_ldc (v := 1000000000) hx ct_X5_81 dX5_weakestJoint_2 (by decide) ?_
  refine J_istore_n (lsn := [vR (r), vI (((c : Nat) : Int)), vI (0), vI (1000000000), vU, vU]) hx dX5_weakestJoint_4 (i := 3) rfl (Nat.le_of_ble_eq_true rfl) rfl rfl ?_
  refine J_iconst (v := 0) hx dX5_weakestJoint_5 (by decide) ?_
  refine J_istore (lsn := [vR (r), vI (((c : Nat) : Int)), vI (0), vI (1000000000), vI (0), vU]) hx dX5_weakestJoint_6 (Nat.le_of_ble_eq_true rfl) rfl rfl ?_
  exact lp_X5_weakestJoint hT hN hW hx hr hc hQ 0 _ _ _ (by omega) rfl rfl

set_option maxHeartbeats 4000000 in
theorem lp_X5_strongestJoint {g : WG} {d : Nat} {T : TT} {M : MM} {r sz : Nat} {A : YA} {Q : MVal → TT → MM → Nat → Prop} (hT : YT T r) (hN : YN M r A) (hW : WFY A) {x : CX} (hx : OKx g x RX5 cX5_strongestJoint (d + 3)) (hr : RTx g x (some .int) Q) {c : Nat} (hc : c < 2) (hQ : Q (vI ((stroY A (A.ch c) : Nat) : Int)) T M sz) (j : Nat) (w l : Int) (u : MVal) (hj : j + 1 ≤ (A.ch c).length) (hw : w = ((pkN tt_ (fun j => - strl A (A.ch c) j) j : Nat) : Int)) (hl : -l = pkV 1 tt_ (fun j => - strl A (A.ch c) j) j) : Jd g x 7 [vR (r), vI (((c : Nat) : Int)), vI (w), vI (l), vI (((j : Nat) : Int)), u] [] T M sz 0 0 := by
  have hl8 := hW.len8 hc
  refine J_iload hx dX5_strongestJoint_7 rfl ?_
  refine J_aload_n hx dX5_strongestJoint_9 (i := 0) rfl rfl ?_
  refine J_getR (b := r + 10) hx fl_X5_35 cl_X5 dX5_strongestJoint_10 hT.o (by decide) rfl hT.r7 ?_
  refine J_iload_n hx dX5_strongestJoint_13 (i := 1) rfl rfl ?_
  refine J_iald2 (v := (((A.ch c).length : Nat) : Int)) hx c dX5_strongestJoint_14 hT.k10 (by omega) (hT.l10 (by omega)) (hN.sz (by omega)) ?_
  have rg1 := hW.len8 (c := c) (by omega)
  have rg2 := hW.lenN (c := c) (by omega)
  refine J_iconst (v := 1) hx dX5_strongestJoint_15 (by decide) ?_
  refine J_isub (v := (((A.ch c).length : Nat) : Int) - 1) hx dX5_strongestJoint_16 (w32_id (by omega) (by omega)) ?_
  refine J_icmp_ge (tgt := 47) hx dX5_strongestJoint_17 (by decide) (fun c3 => ?_) (fun c3 => ?_)
  · refine J_iload_n hx dX5_strongestJoint_47 (i := 2) rfl rfl ?_
    refine J_iret hx hr dX5_strongestJoint_48 ?_
    exact Qv hQ (by rw [hw]; unfold stroY; rw [show (A.ch c).length - 1 = j by omega])
  · refine J_aload_n hx dX5_strongestJoint_20 (i := 0) rfl rfl ?_
    refine J_iload_n hx dX5_strongestJoint_21 (i := 1) rfl rfl ?_
    refine J_iload hx dX5_strongestJoint_22 rfl ?_
    refine J_invV (As := [vI (((c : Nat) : Int)), vI (((j : Nat) : Int))]) (st := []) hx lk_X5_82 okX5_strengthAt dX5_strongestJoint_24 hT.o (by decide) rfl rfl rfl (Nat.le_of_ble_eq_true rfl) (Nat.zero_add _).symm (Nat.zero_add _).symm rfl (c_X5_strengthAt hT hN hW (c := c) (by omega) (j := j) (by omega) ?_)
    have rg4 := strl_rg hW (l := A.ch c) (fun p hp => hW.lt (by omega) hp) (j := j) (by omega)
    refine J_istore (lsn := [vR (r), vI (((c : Nat) : Int)), vI (w), vI (l), vI (((j : Nat) : Int)), vI (strl A (A.ch c) j)]) hx dX5_strongestJoint_27 (Nat.le_of_ble_eq_true rfl) rfl rfl ?_
    refine J_iload hx dX5_strongestJoint_29 rfl ?_
    refine J_iload_n hx dX5_strongestJoint_31 (i := 3) rfl rfl ?_
    refine J_icmp_le (tgt := 41) hx dX5_strongestJoint_32 (by decide) (fun c5 => ?_) (fun c5 => ?_)
    · refine J_iinc (v := ((j : Nat) : Int) + 1) (lsn := [vR (r), vI (((c : Nat) : Int)), vI (w), vI (l), vI (((j : Nat) : Int) + 1), vI (strl A (A.ch c) j)]) hx dX5_strongestJoint_41 rfl (jinc1 (by omega) (by omega)) rfl rfl ?_
      refine J_goto (tgt := 7) hx dX5_strongestJoint_44 (by decide) ?_
      have hp9 := qk_ge (H := 1) (P := tt_) (k := (fun j => - strl A (A.ch c) j)) (i := j) (by omega) (by rw [← hl]; omega)
      exact lp_X5_strongestJoint hT hN hW hx hr hc hQ (j + 1) _ _ _ (by omega) (by rw [pkN_eq hp9]; exact hw) (by rw [pkV_eq hp9]; exact hl)
    · refine J_iload hx dX5_strongestJoint_35 rfl ?_
      refine J_istore_n (lsn := [vR (r), vI (((c : Nat) : Int)), vI (w), vI (strl A (A.ch c) j), vI (((j : Nat) : Int)), vI (strl A (A.ch c) j)]) hx dX5_strongestJoint_37 (i := 3) rfl (Nat.le_of_ble_eq_true rfl) rfl rfl ?_
      refine J_iload hx dX5_strongestJoint_38 rfl ?_
      refine J_istore_n (lsn := [vR (r), vI (((c : Nat) : Int)), vI (((j : Nat) : Int)), vI (strl A (A.ch c) j), vI (((j : Nat) : Int)), vI (strl A (A.ch c) j)]) hx dX5_strongestJoint_40 (i := 2) rfl (Nat.le_of_ble_eq_true rfl) rfl rfl ?_
      refine J_iinc (v := ((j : Nat) : Int) + 1) (lsn := [vR (r), vI (((c : Nat) : Int)), vI (((j : Nat) : Int)), vI (strl A (A.ch c) j), vI (((j : Nat) : Int) + 1), vI (strl A (A.ch c) j)]) hx dX5_strongestJoint_41 rfl (jinc1 (by omega) (by omega)) rfl rfl ?_
      refine J_goto (tgt := 7) hx dX5_strongestJoint_44 (by decide) ?_
      have hp9 := qk_lt (H := 1) (P := tt_) (k := (fun j => - strl A (A.ch c) j)) (i := j) rfl (by rw [← hl]; omega)
      exact lp_X5_strongestJoint hT hN hW hx hr hc hQ (j + 1) _ _ _ (by omega) (by rw [pkN_of hp9]) (by rw [pkV_of hp9])
termination_by (A.ch c).length - j
decreasing_by all_goals omega

set_option maxHeartbeats 4000000 in
theorem c_X5_strongestJoint {g : WG} {d : Nat} {T : TT} {M : MM} {r sz : Nat} {A : YA} {Q : MVal → TT → MM → Nat → Prop} (hT : YT T r) (hN : YN M r A) (hW : WFY A) {c : Nat} (hc : c < 2) (h1 : 1 ≤ (A.ch c).length) (hQ : Q (vI ((stroY A (A.ch c) : Nat) : Int)) T M sz) : Ct g (d + 3) mX5_strongestJoint [vR (r), vI (((c : Nat) : Int))] T M sz 0 0 Q := by
  refine Ct_of2 (ls := [vR (r), vI (((c : Nat) : Int)), vU, vU, vU, vU]) okX5_strongestJoint rfl (Nat.le_of_ble_eq_true rfl) rfl ?_
  intro x hx hr hnm
  refine J_iconst (v := 0) hx dX5_strongestJoint_0 (by decide) ?_
  refine J_istore_n (lsn := [vR (r), vI (((c : Nat) : Int)), vI (0), vU, vU, vU]) hx dX5_strongestJoint_1 (i := 2) rfl (Nat.le_of_ble_eq_true rfl) rfl rfl ?_
  refine J_iconst (v := -1) hx dX5_strongestJoint_2 (by decide) ?_
  refine J_istore_n (lsn := [vR (r), vI (((c : Nat) : Int)), vI (0), vI ((-1)), vU, vU]) hx dX5_strongestJoint_3 (i := 3) rfl (Nat.le_of_ble_eq_true rfl) rfl rfl ?_
  refine J_iconst (v := 0) hx dX5_strongestJoint_4 (by decide) ?_
  refine J_istore (lsn := [vR (r), vI (((c : Nat) : Int)), vI (0), vI ((-1)), vI (0), vU]) hx dX5_strongestJoint_5 (Nat.le_of_ble_eq_true rfl) rfl rfl ?_
  exact lp_X5_strongestJoint hT hN hW hx hr hc hQ 0 _ _ _ (by omega) rfl rfl

set_option maxHeartbeats 4000000 in
theorem lp_X5_jointFor {g : WG} {d : Nat} {T : TT} {M : MM} {r sz : Nat} {A : YA} {Q : MVal → TT → MM → Nat → Prop} (hT : YT T r) (hN : YN M r A) (hW : WFY A) {x : CX} (hx : OKx g x RX5 cX5_jointFor (d + 4)) (hr : RTx g x (some .int) Q) {p : Nat} (hp : p < A.n) (hQ : Q (vI ((atY A p : Nat) : Int)) T M sz) (j : Nat) (w l : Int) (u : MVal) (hj : j + 1 ≤ (A.ch A.tn).length) (hw : w = ((pkN tt_ (fun j => - oddsY A p j) j : Nat) : Int)) (hl : -l = pkV 1 tt_ (fun j => - oddsY A p j) j) : Jd g x 7 [vR (r), vI (((p : Nat) : Int)), vI (w), vI (l), vI (((j : Nat) : Int)), u] [] T M sz 0 0 := by
  have ht2 := hW.tn2
  have hl8 := hW.len8 ht2
  refine J_iload hx dX5_jointFor_7 rfl ?_
  refine J_aload_n hx dX5_jointFor_9 (i := 0) rfl rfl ?_
  refine J_getR (b := r + 10) hx fl_X5_35 cl_X5 dX5_jointFor_10 hT.o (by decide) rfl hT.r7 ?_
  refine J_aload_n hx dX5_jointFor_13 (i := 0) rfl rfl ?_
  refine J_getI2 (v := ((A.tn : Nat) : Int)) hx fl_X5_63 cl_X5 dX5_jointFor_14 hT.o (by decide) rfl (hN.tn hW) ?_
  have rg1 := hW.tn2
  refine J_iald2 (v := (((A.ch A.tn).length : Nat) : Int)) hx A.tn dX5_jointFor_17 hT.k10 (by omega) (hT.l10 (by omega)) (hN.sz (by omega)) ?_
  have rg2 := hW.len8 (c := A.tn) (by omega)
  have rg3 := hW.lenN (c := A.tn) (by omega)
  refine J_iconst (v := 1) hx dX5_jointFor_18 (by decide) ?_
  refine J_isub (v := (((A.ch A.tn).length : Nat) : Int) - 1) hx dX5_jointFor_19 (w32_id (by omega) (by omega)) ?_
  refine J_icmp_ge (tgt := 50) hx dX5_jointFor_20 (by decide) (fun c4 => ?_) (fun c4 => ?_)
  · refine J_iload_n hx dX5_jointFor_50 (i := 2) rfl rfl ?_
    refine J_iret hx hr dX5_jointFor_51 ?_
    exact Qv hQ (by rw [hw]; unfold atY; rw [show (A.ch A.tn).length - 1 = j by omega])
  · refine J_aload_n hx dX5_jointFor_23 (i := 0) rfl rfl ?_
    refine J_iload_n hx dX5_jointFor_24 (i := 1) rfl rfl ?_
    refine J_iload hx dX5_jointFor_25 rfl ?_
    refine J_invV (As := [vI (((p : Nat) : Int)), vI (((j : Nat) : Int))]) (st := []) hx lk_X5_98 okX5_oddsOf dX5_jointFor_27 hT.o (by decide) rfl rfl rfl (Nat.le_of_ble_eq_true rfl) (Nat.zero_add _).symm (Nat.zero_add _).symm rfl (c_X5_oddsOf hT hN hW (p := p) (by omega) (j := j) (by omega) ?_)
    have rg5 : 0 ≤ oddsY A p j ∧ oddsY A p j ≤ 1000000 := oddsB_rg hW _ _
    refine J_istore (lsn := [vR (r), vI (((p : Nat) : Int)), vI (w), vI (l), vI (((j : Nat) : Int)), vI (oddsY A p j)]) hx dX5_jointFor_30 (Nat.le_of_ble_eq_true rfl) rfl rfl ?_
    refine J_iload hx dX5_jointFor_32 rfl ?_
    refine J_iload_n hx dX5_jointFor_34 (i := 3) rfl rfl ?_
    refine J_icmp_le (tgt := 44) hx dX5_jointFor_35 (by decide) (fun c6 => ?_) (fun c6 => ?_)
    · refine J_iinc (v := ((j : Nat) : Int) + 1) (lsn := [vR (r), vI (((p : Nat) : Int)), vI (w), vI (l), vI (((j : Nat) : Int) + 1), vI (oddsY A p j)]) hx dX5_jointFor_44 rfl (jinc1 (by omega) (by omega)) rfl rfl ?_
      refine J_goto (tgt := 7) hx dX5_jointFor_47 (by decide) ?_
      have hp9 := qk_ge (H := 1) (P := tt_) (k := (fun j => - oddsY A p j)) (i := j) (by omega) (by rw [← hl]; omega)
      exact lp_X5_jointFor hT hN hW hx hr hp hQ (j + 1) _ _ _ (by omega) (by rw [pkN_eq hp9]; exact hw) (by rw [pkV_eq hp9]; exact hl)
    · refine J_iload hx dX5_jointFor_38 rfl ?_
      refine J_istore_n (lsn := [vR (r), vI (((p : Nat) : Int)), vI (w), vI (oddsY A p j), vI (((j : Nat) : Int)), vI (oddsY A p j)]) hx dX5_jointFor_40 (i := 3) rfl (Nat.le_of_ble_eq_true rfl) rfl rfl ?_
      refine J_iload hx dX5_jointFor_41 rfl ?_
      refine J_istore_n (lsn := [vR (r), vI (((p : Nat) : Int)), vI (((j : Nat) : Int)), vI (oddsY A p j), vI (((j : Nat) : Int)), vI (oddsY A p j)]) hx dX5_jointFor_43 (i := 2) rfl (Nat.le_of_ble_eq_true rfl) rfl rfl ?_
      refine J_iinc (v := ((j : Nat) : Int) + 1) (lsn := [vR (r), vI (((p : Nat) : Int)), vI (((j : Nat) : Int)), vI (oddsY A p j), vI (((j : Nat) : Int) + 1), vI (oddsY A p j)]) hx dX5_jointFor_44 rfl (jinc1 (by omega) (by omega)) rfl rfl ?_
      refine J_goto (tgt := 7) hx dX5_jointFor_47 (by decide) ?_
      have hp9 := qk_lt (H := 1) (P := tt_) (k := (fun j => - oddsY A p j)) (i := j) rfl (by rw [← hl]; omega)
      exact lp_X5_jointFor hT hN hW hx hr hp hQ (j + 1) _ _ _ (by omega) (by rw [pkN_of hp9]) (by rw [pkV_of hp9])
termination_by (A.ch A.tn).length - j
decreasing_by all_goals omega

set_option maxHeartbeats 4000000 in
theorem c_X5_jointFor {g : WG} {d : Nat} {T : TT} {M : MM} {r sz : Nat} {A : YA} {Q : MVal → TT → MM → Nat → Prop} (hT : YT T r) (hN : YN M r A) (hW : WFY A) {p : Nat} (hp : p < A.n) (h1 : 1 ≤ (A.ch A.tn).length) (hQ : Q (vI ((atY A p : Nat) : Int)) T M sz) : Ct g (d + 4) mX5_jointFor [vR (r), vI (((p : Nat) : Int))] T M sz 0 0 Q := by
  refine Ct_of2 (ls := [vR (r), vI (((p : Nat) : Int)), vU, vU, vU, vU]) okX5_jointFor rfl (Nat.le_of_ble_eq_true rfl) rfl ?_
  intro x hx hr hnm
  refine J_iconst (v := 0) hx dX5_jointFor_0 (by decide) ?_
  refine J_istore_n (lsn := [vR (r), vI (((p : Nat) : Int)), vI (0), vU, vU, vU]) hx dX5_jointFor_1 (i := 2) rfl (Nat.le_of_ble_eq_true rfl) rfl rfl ?_
  refine J_iconst (v := -1) hx dX5_jointFor_2 (by decide) ?_
  refine J_istore_n (lsn := [vR (r), vI (((p : Nat) : Int)), vI (0), vI ((-1)), vU, vU]) hx dX5_jointFor_3 (i := 3) rfl (Nat.le_of_ble_eq_true rfl) rfl rfl ?_
  refine J_iconst (v := 0) hx dX5_jointFor_4 (by decide) ?_
  refine J_istore (lsn := [vR (r), vI (((p : Nat) : Int)), vI (0), vI ((-1)), vI (0), vU]) hx dX5_jointFor_5 (Nat.le_of_ble_eq_true rfl) rfl rfl ?_
  exact lp_X5_jointFor hT hN hW hx hr hp hQ 0 _ _ _ (by omega) rfl rfl

set_option maxHeartbeats 4000000 in
theorem lp_X5_leastStrength {g : WG} {d : Nat} {T : TT} {M : MM} {r sz : Nat} {A : YA} {Q : MVal → TT → MM → Nat → Prop} (hT : YT T r) (hN : YN M r A) (hW : WFY A) {x : CX} (hx : OKx g x RX5 cX5_leastStrength (d + 3)) (hr : RTx g x (some .int) Q) {c : Nat} (hc : c < 2) (hQ : Q (vI (leastS A (A.ch c))) T M sz) (j : Nat) (l : Int) (h1 : 1 ≤ j) (hj : j + 1 ≤ (A.ch c).length ∨ j = 1) (hl : 2 ≤ (A.ch c).length → l = minS A (A.ch c) (j - 1)) (hl0 : (A.ch c).length < 2 → l = 0) : Jd g x 23 [vR (r), vI (((c : Nat) : Int)), vI (l), vI (((j : Nat) : Int))] [] T M sz 0 0 := by
  have hl8 := hW.len8 hc
  refine J_iload_n hx dX5_leastStrength_23 (i := 3) rfl rfl ?_
  refine J_aload_n hx dX5_leastStrength_24 (i := 0) rfl rfl ?_
  refine J_getR (b := r + 10) hx fl_X5_35 cl_X5 dX5_leastStrength_25 hT.o (by decide) rfl hT.r7 ?_
  refine J_iload_n hx dX5_leastStrength_28 (i := 1) rfl rfl ?_
  refine J_iald2 (v := (((A.ch c).length : Nat) : Int)) hx c dX5_leastStrength_29 hT.k10 (by omega) (hT.l10 (by omega)) (hN.sz (by omega)) ?_
  have rg1 := hW.len8 (c := c) (by omega)
  have rg2 := hW.lenN (c := c) (by omega)
  refine J_iconst (v := 1) hx dX5_leastStrength_30 (by decide) ?_
  refine J_isub (v := (((A.ch c).length : Nat) : Int) - 1) hx dX5_leastStrength_31 (w32_id (by omega) (by omega)) ?_
  refine J_icmp_ge (tgt := 52) hx dX5_leastStrength_32 (by decide) (fun c3 => ?_) (fun c3 => ?_)
  · refine J_iload_n hx dX5_leastStrength_52 (i := 2) rfl rfl ?_
    refine J_iret hx hr dX5_leastStrength_53 ?_
    refine Qv hQ ?_
    unfold leastS
    split
    · exact (hl0 (by assumption)).symm
    · rw [hl (by omega), show (A.ch c).length - 2 = j - 1 by omega]
  · refine J_iload_n hx dX5_leastStrength_35 (i := 2) rfl rfl ?_
    refine J_aload_n hx dX5_leastStrength_36 (i := 0) rfl rfl ?_
    refine J_iload_n hx dX5_leastStrength_37 (i := 1) rfl rfl ?_
    refine J_iload_n hx dX5_leastStrength_38 (i := 3) rfl rfl ?_
    refine J_invV (As := [vI (((c : Nat) : Int)), vI (((j : Nat) : Int))]) (st := [vI (l)]) hx lk_X5_82 okX5_strengthAt dX5_leastStrength_39 hT.o (by decide) rfl rfl rfl (Nat.le_of_ble_eq_true rfl) (Nat.zero_add _).symm (Nat.zero_add _).symm rfl (c_X5_strengthAt hT hN hW (c := c) (by omega) (j := j) (by omega) ?_)
    have rg4 := strl_rg hW (l := A.ch c) (fun p hp => hW.lt (by omega) hp) (j := j) (by omega)
    refine J_mmin (v := if strl A (A.ch c) j < l then strl A (A.ch c) j else l) hx lk_X5_85 dX5_leastStrength_42 (Nat.le_of_ble_eq_true rfl) rfl ?_
    refine J_istore_n (lsn := [vR (r), vI (((c : Nat) : Int)), vI (if strl A (A.ch c) j < l then strl A (A.ch c) j else l), vI (((j : Nat) : Int))]) hx dX5_leastStrength_45 (i := 2) rfl (Nat.le_of_ble_eq_true rfl) rfl rfl ?_
    refine J_iinc (v := ((j : Nat) : Int) + 1) (lsn := [vR (r), vI (((c : Nat) : Int)), vI (if strl A (A.ch c) j < l then strl A (A.ch c) j else l), vI (((j : Nat) : Int) + 1)]) hx dX5_leastStrength_46 rfl (jinc1 (by omega) (by omega)) rfl rfl ?_
    refine J_goto (tgt := 23) hx dX5_leastStrength_49 (by decide) ?_
    exact lp_X5_leastStrength hT hN hW hx hr hc hQ (j + 1) _ (by omega) (by omega) (fun h9 => by rw [show j + 1 - 1 = (j - 1) + 1 by omega]; unfold minS; rw [show j - 1 + 1 = j by omega, ← hl (by omega)]) (fun h9 => by omega)
termination_by (A.ch c).length - j
decreasing_by all_goals omega

set_option maxHeartbeats 4000000 in
theorem c_X5_leastStrength {g : WG} {d : Nat} {T : TT} {M : MM} {r sz : Nat} {A : YA} {Q : MVal → TT → MM → Nat → Prop} (hT : YT T r) (hN : YN M r A) (hW : WFY A) {c : Nat} (hc : c < 2) (hQ : Q (vI (leastS A (A.ch c))) T M sz) : Ct g (d + 3) mX5_leastStrength [vR (r), vI (((c : Nat) : Int))] T M sz 0 0 Q := by
  refine Ct_of2 (ls := [vR (r), vI (((c : Nat) : Int)), vU, vU]) okX5_leastStrength rfl (Nat.le_of_ble_eq_true rfl) rfl ?_
  intro x hx hr hnm
  have hl8 := hW.len8 hc
  refine J_aload_n hx dX5_leastStrength_0 (i := 0) rfl rfl ?_
  refine J_getR (b := r + 10) hx fl_X5_35 cl_X5 dX5_leastStrength_1 hT.o (by decide) rfl hT.r7 ?_
  refine J_iload_n hx dX5_leastStrength_4 (i := 1) rfl rfl ?_
  refine J_iald2 (v := (((A.ch c).length : Nat) : Int)) hx c dX5_leastStrength_5 hT.k10 (by omega) (hT.l10 (by omega)) (hN.sz (by omega)) ?_
  have rg1 := hW.len8 (c := c) (by omega)
  have rg2 := hW.lenN (c := c) (by omega)
  refine J_iconst (v := 2) hx dX5_leastStrength_6 (by decide) ?_
  refine J_icmp_ge (tgt := 14) hx dX5_leastStrength_7 (by decide) (fun c3 => ?_) (fun c3 => ?_)
  · refine J_aload_n hx dX5_leastStrength_14 (i := 0) rfl rfl ?_
    refine J_iload_n hx dX5_leastStrength_15 (i := 1) rfl rfl ?_
    refine J_iconst (v := 0) hx dX5_leastStrength_16 (by decide) ?_
    refine J_invV (As := [vI (((c : Nat) : Int)), vI (0)]) (st := []) hx lk_X5_82 okX5_strengthAt dX5_leastStrength_17 hT.o (by decide) rfl rfl rfl (Nat.le_of_ble_eq_true rfl) (Nat.zero_add _).symm (Nat.zero_add _).symm rfl (c_X5_strengthAt hT hN hW (c := c) (by omega) (j := 0) (by omega) ?_)
    have rg4 := strl_rg hW (l := A.ch c) (fun p hp => hW.lt (by omega) hp) (j := 0) (by omega)
    refine J_istore_n (lsn := [vR (r), vI (((c : Nat) : Int)), vI (strl A (A.ch c) 0), vU]) hx dX5_leastStrength_20 (i := 2) rfl (Nat.le_of_ble_eq_true rfl) rfl rfl ?_
    refine J_iconst (v := 1) hx dX5_leastStrength_21 (by decide) ?_
    refine J_istore_n (lsn := [vR (r), vI (((c : Nat) : Int)), vI (strl A (A.ch c) 0), vI (1)]) hx dX5_leastStrength_22 (i := 3) rfl (Nat.le_of_ble_eq_true rfl) rfl rfl ?_
    exact lp_X5_leastStrength hT hN hW hx hr hc hQ 1 _ (by omega) (by omega) (fun h9 => by first | rfl | omega) (fun h9 => by first | rfl | omega)
  · refine J_iconst (v := 0) hx dX5_leastStrength_10 (by decide) ?_
    refine J_goto (tgt := 20) hx dX5_leastStrength_11 (by decide) ?_
    refine J_istore_n (lsn := [vR (r), vI (((c : Nat) : Int)), vI (0), vU]) hx dX5_leastStrength_20 (i := 2) rfl (Nat.le_of_ble_eq_true rfl) rfl rfl ?_
    refine J_iconst (v := 1) hx dX5_leastStrength_21 (by decide) ?_
    refine J_istore_n (lsn := [vR (r), vI (((c : Nat) : Int)), vI (0), vI (1)]) hx dX5_leastStrength_22 (i := 3) rfl (Nat.le_of_ble_eq_true rfl) rfl rfl ?_
    exact lp_X5_leastStrength hT hN hW hx hr hc hQ 1 _ (by omega) (by omega) (fun h9 => by first | rfl | omega) (fun h9 => by first | rfl | omega)

set_option maxHeartbeats 4000000 in
theorem lp_X5_whoIsCalled {g : WG} {d : Nat} {T : TT} {M : MM} {r sz : Nat} {A : YA} {Q : MVal → TT → MM → Nat → Prop} (hT : YT T r) (hN : YN M r A) (hW : WFY A) {x : CX} (hx : OKx g x RX5 cX5_whoIsCalled (d + 4)) (hr : RTx g x (some .int) Q) {rule : Int} (hQ : Q (vI (whoY A rule)) T M sz) (j : Nat) (w l : Int) (u : MVal) (hj : j ≤ A.n) (hw : w = pkI (calY A) (keyY A rule) j) (hl : l = pkV 1000000000 (calY A) (keyY A rule) j) : Jd g x 18 [vR (r), vI (rule), vI (leastS A (A.ch A.tn)), vI (w), vI (l), vI (((j : Nat) : Int)), u] [] T M sz 0 0 := by
  have hn8 := hW.n8
  have ht2 := hW.tn2
  have rl9 := leastS_rg hW (l := A.ch A.tn) (fun p hp => hW.lt ht2 hp)
  refine J_iload hx dX5_whoIsCalled_18 rfl ?_
  refine J_aload_n hx dX5_whoIsCalled_20 (i := 0) rfl rfl ?_
  refine J_getI2 (v := ((A.n : Nat) : Int)) hx fl_X5_57 cl_X5 dX5_whoIsCalled_21 hT.o (by decide) rfl hN.pp ?_
  have rg1 := hW.n8
  refine J_icmp_ge (tgt := 82) hx dX5_whoIsCalled_24 (by decide) (fun c2 => ?_) (fun c2 => ?_)
  · refine J_iload_n hx dX5_whoIsCalled_82 (i := 3) rfl rfl ?_
    refine J_iret hx hr dX5_whoIsCalled_83 ?_
    exact Qv hQ (by rw [hw]; unfold whoY; rw [show A.n = j by omega])
  · refine J_aload_n hx dX5_whoIsCalled_27 (i := 0) rfl rfl ?_
    refine J_iload hx dX5_whoIsCalled_28 rfl ?_
    refine J_invV (As := [vI (((j : Nat) : Int))]) (st := []) hx lk_X5_104 okX5_isCalled dX5_whoIsCalled_30 hT.o (by decide) rfl rfl rfl (Nat.le_of_ble_eq_true rfl) (Nat.zero_add _).symm (Nat.zero_add _).symm rfl (c_X5_isCalled hT hN hW (p := j) (by omega) ?_)
    intro v3 hv3
    refine J_if_ne (tgt := 39) hx dX5_whoIsCalled_33 (by decide) (fun c4 => ?_) (fun c4 => ?_)
    · refine J_iload_n hx dX5_whoIsCalled_39 (i := 1) rfl rfl ?_
      refine J_if_ne (tgt := 53) hx dX5_whoIsCalled_40 (by decide) (fun c5 => ?_) (fun c5 => ?_)
      · refine J_aload_n hx dX5_whoIsCalled_53 (i := 0) rfl rfl ?_
        refine J_getR (b := r + 3) hx fl_X5_18 cl_X5 dX5_whoIsCalled_54 hT.o (by decide) rfl hT.r2 ?_
        refine J_iload hx dX5_whoIsCalled_57 rfl ?_
        refine J_iald2 (v := A.att 2 j) hx j dX5_whoIsCalled_59 hT.k3 (by omega) (hT.l3 (by omega)) (hN.we (by omega)) ?_
        have rg6 := hW.we (p := j) (by omega)
        refine J_istore (lsn := [vR (r), vI (rule), vI (leastS A (A.ch A.tn)), vI (w), vI (l), vI (((j : Nat) : Int)), vI (A.att 2 j)]) hx dX5_whoIsCalled_60 (Nat.le_of_ble_eq_true rfl) rfl rfl ?_
        refine J_iload hx dX5_whoIsCalled_62 rfl ?_
        refine J_iload hx dX5_whoIsCalled_64 rfl ?_
        refine J_icmp_ge (tgt := 76) hx dX5_whoIsCalled_66 (by decide) (fun c7 => ?_) (fun c7 => ?_)
        · refine J_iinc (v := ((j : Nat) : Int) + 1) (lsn := [vR (r), vI (rule), vI (leastS A (A.ch A.tn)), vI (w), vI (l), vI (((j : Nat) : Int) + 1), vI (A.att 2 j)]) hx dX5_whoIsCalled_76 rfl (jinc1 (by omega) (by omega)) rfl rfl ?_
          refine J_goto (tgt := 18) hx dX5_whoIsCalled_79 (by decide) ?_
          first
          | (have hp9 := qk_no (H := 0) (P := calY A) (k := keyY A rule) (i := j) (by simp [calY]; omega)
             exact lp_X5_whoIsCalled hT hN hW hx hr hQ (j + 1) _ _ _ (by omega) (by rw [pkI_eq hp9]; exact hw) (by rw [pkV_eq hp9]; exact hl))
          | (have hp9 := qk_ge (H := 1000000000) (P := calY A) (k := keyY A rule) (i := j) (by unfold keyY; split <;> omega) (by rw [← hl]; unfold keyY; split <;> omega)
             exact lp_X5_whoIsCalled hT hN hW hx hr hQ (j + 1) _ _ _ (by omega) (by rw [pkI_eq hp9]; exact hw) (by rw [pkV_eq hp9]; exact hl))
        · refine J_iload hx dX5_whoIsCalled_69 rfl ?_
          refine J_istore (lsn := [vR (r), vI (rule), vI (leastS A (A.ch A.tn)), vI (w), vI (A.att 2 j), vI (((j : Nat) : Int)), vI (A.att 2 j)]) hx dX5_whoIsCalled_71 (Nat.le_of_ble_eq_true rfl) rfl rfl ?_
          refine J_iload hx dX5_whoIsCalled_73 rfl ?_
          refine J_istore_n (lsn := [vR (r), vI (rule), vI (leastS A (A.ch A.tn)), vI (((j : Nat) : Int)), vI (A.att 2 j), vI (((j : Nat) : Int)), vI (A.att 2 j)]) hx dX5_whoIsCalled_75 (i := 3) rfl (Nat.le_of_ble_eq_true rfl) rfl rfl ?_
          refine J_iinc (v := ((j : Nat) : Int) + 1) (lsn := [vR (r), vI (rule), vI (leastS A (A.ch A.tn)), vI (((j : Nat) : Int)), vI (A.att 2 j), vI (((j : Nat) : Int) + 1), vI (A.att 2 j)]) hx dX5_whoIsCalled_76 rfl (jinc1 (by omega) (by omega)) rfl rfl ?_
          refine J_goto (tgt := 18) hx dX5_whoIsCalled_79 (by decide) ?_
          have hp9 := qk_lt (H := 1000000000) (P := calY A) (k := keyY A rule) (i := j) (by simp [calY]; omega) (by rw [← hl]; unfold keyY; split <;> omega)
          exact lp_X5_whoIsCalled hT hN hW hx hr hQ (j + 1) _ _ _ (by omega) (by rw [pkI_of hp9]) (by rw [pkV_of hp9]; unfold keyY; split <;> first | rfl | omega)
      · refine J_aload_n hx dX5_whoIsCalled_43 (i := 0) rfl rfl ?_
        refine J_iload hx dX5_whoIsCalled_44 rfl ?_
        refine J_iload_n hx dX5_whoIsCalled_46 (i := 2) rfl rfl ?_
        refine J_invV (As := [vI (((j : Nat) : Int)), vI (leastS A (A.ch A.tn))]) (st := []) hx lk_X5_95 okX5_oddsAgainst dX5_whoIsCalled_47 hT.o (by decide) rfl rfl rfl (Nat.le_of_ble_eq_true rfl) (Nat.zero_add _).symm (Nat.zero_add _).symm rfl (c_X5_oddsAgainst hT hN hW (p := j) (by omega) (by omega) ?_)
        have rg8 := oddsB_rg hW (force A j) (leastS A (A.ch A.tn))
        refine J_goto (tgt := 60) hx dX5_whoIsCalled_50 (by decide) ?_
        refine J_istore (lsn := [vR (r), vI (rule), vI (leastS A (A.ch A.tn)), vI (w), vI (l), vI (((j : Nat) : Int)), vI (oddsB A (force A j) (leastS A (A.ch A.tn)))]) hx dX5_whoIsCalled_60 (Nat.le_of_ble_eq_true rfl) rfl rfl ?_
        refine J_iload hx dX5_whoIsCalled_62 rfl ?_
        refine J_iload hx dX5_whoIsCalled_64 rfl ?_
        refine J_icmp_ge (tgt := 76) hx dX5_whoIsCalled_66 (by decide) (fun c9 => ?_) (fun c9 => ?_)
        · refine J_iinc (v := ((j : Nat) : Int) + 1) (lsn := [vR (r), vI (rule), vI (leastS A (A.ch A.tn)), vI (w), vI (l), vI (((j : Nat) : Int) + 1), vI (oddsB A (force A j) (leastS A (A.ch A.tn)))]) hx dX5_whoIsCalled_76 rfl (jinc1 (by omega) (by omega)) rfl rfl ?_
          refine J_goto (tgt := 18) hx dX5_whoIsCalled_79 (by decide) ?_
          first
          | (have hp9 := qk_no (H := 0) (P := calY A) (k := keyY A rule) (i := j) (by simp [calY]; omega)
             exact lp_X5_whoIsCalled hT hN hW hx hr hQ (j + 1) _ _ _ (by omega) (by rw [pkI_eq hp9]; exact hw) (by rw [pkV_eq hp9]; exact hl))
          | (have hp9 := qk_ge (H := 1000000000) (P := calY A) (k := keyY A rule) (i := j) (by unfold keyY; split <;> omega) (by rw [← hl]; unfold keyY; split <;> omega)
             exact lp_X5_whoIsCalled hT hN hW hx hr hQ (j + 1) _ _ _ (by omega) (by rw [pkI_eq hp9]; exact hw) (by rw [pkV_eq hp9]; exact hl))
        · refine J_iload hx dX5_whoIsCalled_69 rfl ?_
          refine J_istore (lsn := [vR (r), vI (rule), vI (leastS A (A.ch A.tn)), vI (w), vI (oddsB A (force A j) (leastS A (A.ch A.tn))), vI (((j : Nat) : Int)), vI (oddsB A (force A j) (leastS A (A.ch A.tn)))]) hx dX5_whoIsCalled_71 (Nat.le_of_ble_eq_true rfl) rfl rfl ?_
          refine J_iload hx dX5_whoIsCalled_73 rfl ?_
          refine J_istore_n (lsn := [vR (r), vI (rule), vI (leastS A (A.ch A.tn)), vI (((j : Nat) : Int)), vI (oddsB A (force A j) (leastS A (A.ch A.tn))), vI (((j : Nat) : Int)), vI (oddsB A (force A j) (leastS A (A.ch A.tn)))]) hx dX5_whoIsCalled_75 (i := 3) rfl (Nat.le_of_ble_eq_true rfl) rfl rfl ?_
          refine J_iinc (v := ((j : Nat) : Int) + 1) (lsn := [vR (r), vI (rule), vI (leastS A (A.ch A.tn)), vI (((j : Nat) : Int)), vI (oddsB A (force A j) (leastS A (A.ch A.tn))), vI (((j : Nat) : Int) + 1), vI (oddsB A (force A j) (leastS A (A.ch A.tn)))]) hx dX5_whoIsCalled_76 rfl (jinc1 (by omega) (by omega)) rfl rfl ?_
          refine J_goto (tgt := 18) hx dX5_whoIsCalled_79 (by decide) ?_
          have hp9 := qk_lt (H := 1000000000) (P := calY A) (k := keyY A rule) (i := j) (by simp [calY]; omega) (by rw [← hl]; unfold keyY; split <;> omega)
          exact lp_X5_whoIsCalled hT hN hW hx hr hQ (j + 1) _ _ _ (by omega) (by rw [pkI_of hp9]) (by rw [pkV_of hp9]; unfold keyY; split <;> first | rfl | omega)
    · refine J_goto (tgt := 76) hx dX5_whoIsCalled_36 (by decide) ?_
      refine J_iinc (v := ((j : Nat) : Int) + 1) (lsn := [vR (r), vI (rule), vI (leastS A (A.ch A.tn)), vI (w), vI (l), vI (((j : Nat) : Int) + 1), u]) hx dX5_whoIsCalled_76 rfl (jinc1 (by omega) (by omega)) rfl rfl ?_
      refine J_goto (tgt := 18) hx dX5_whoIsCalled_79 (by decide) ?_
      first
      | (have hp9 := qk_no (H := 0) (P := calY A) (k := keyY A rule) (i := j) (by simp [calY]; omega)
         exact lp_X5_whoIsCalled hT hN hW hx hr hQ (j + 1) _ _ _ (by omega) (by rw [pkI_eq hp9]; exact hw) (by rw [pkV_eq hp9]; exact hl))
      | (have hp9 := qk_ge (H := 1000000000) (P := calY A) (k := keyY A rule) (i := j) (by unfold keyY; split <;> omega) (by rw [← hl]; unfold keyY; split <;> omega)
         exact lp_X5_whoIsCalled hT hN hW hx hr hQ (j + 1) _ _ _ (by omega) (by rw [pkI_eq hp9]; exact hw) (by rw [pkV_eq hp9]; exact hl))
termination_by A.n - j
decreasing_by all_goals omega

set_option maxHeartbeats 4000000 in
theorem c_X5_whoIsCalled {g : WG} {d : Nat} {T : TT} {M : MM} {r sz : Nat} {A : YA} {Q : MVal → TT → MM → Nat → Prop} (hT : YT T r) (hN : YN M r A) (hW : WFY A) {rule : Int} (hQ : Q (vI (whoY A rule)) T M sz) : Ct g (d + 4) mX5_whoIsCalled [vR (r), vI (rule)] T M sz 0 0 Q := by
  refine Ct_of2 (ls := [vR (r), vI (rule), vU, vU, vU, vU, vU]) okX5_whoIsCalled rfl (Nat.le_of_ble_eq_true rfl) rfl ?_
  intro x hx hr hnm
  refine J_aload_n hx dX5_whoIsCalled_0 (i := 0) rfl rfl ?_
  refine J_aload_n hx dX5_whoIsCalled_1 (i := 0) rfl rfl ?_
  refine J_getI2 (v := ((A.tn : Nat) : Int)) hx fl_X5_63 cl_X5 dX5_whoIsCalled_2 hT.o (by decide) rfl (hN.tn hW) ?_
  have rg1 := hW.tn2
  refine J_invV (As := [vI (((A.tn : Nat) : Int))]) (st := []) hx lk_X5_101 okX5_leastStrength dX5_whoIsCalled_5 hT.o (by decide) rfl rfl rfl (Nat.le_of_ble_eq_true rfl) (Nat.zero_add _).symm (Nat.zero_add _).symm rfl (c_X5_leastStrength hT hN hW (c := A.tn) (by omega) ?_)
  have rg2 := leastS_rg hW (l := A.ch A.tn) (fun p hp => hW.lt (by omega) hp)
  refine J_istore_n (lsn := [vR (r), vI (rule), vI (leastS A (A.ch A.tn)), vU, vU, vU, vU]) hx dX5_whoIsCalled_8 (i := 2) rfl (Nat.le_of_ble_eq_true rfl) rfl rfl ?_
  refine J_iconst (v := -1) hx dX5_whoIsCalled_9 (by decide) ?_
  refine J_istore_n (lsn := [vR (r), vI (rule), vI (leastS A (A.ch A.tn)), vI ((-1)), vU, vU, vU]) hx dX5_whoIsCalled_10 (i := 3) rfl (Nat.le_of_ble_eq_true rfl) rfl rfl ?_
  refine J_ldc (v := 1000000000) hx ct_X5_81 dX5_whoIsCalled_11 (by decide) ?_
  refine J_istore (lsn := [vR (r), vI (rule), vI (leastS A (A.ch A.tn)), vI ((-1)), vI (1000000000), vU, vU]) hx dX5_whoIsCalled_13 (Nat.le_of_ble_eq_true rfl) rfl rfl ?_
  refine J_iconst (v := 0) hx dX5_whoIsCalled_15 (by decide) ?_
  refine J_istore (lsn := [vR (r), vI (rule), vI (leastS A (A.ch A.tn)), vI ((-1)), vI (1000000000), vI (0), vU]) hx dX5_whoIsCalled_16 (Nat.le_of_ble_eq_true rfl) rfl rfl ?_
  exact lp_X5_whoIsCalled hT hN hW hx hr hQ 0 _ _ _ (by omega) rfl rfl

set_option maxHeartbeats 4000000 in
theorem lp_X5_mostForceful {g : WG} {d : Nat} {T : TT} {M : MM} {r sz : Nat} {A : YA} {Q : MVal → TT → MM → Nat → Prop} (hT : YT T r) (hN : YN M r A) (hW : WFY A) {x : CX} (hx : OKx g x RX5 cX5_mostForceful (d + 2)) (hr : RTx g x (some .int) Q) {c : Nat} (hc : c < 2) (hQ : Q (vI (((A.ch c).getD (hardY A (A.ch c)) 0 : Nat) : Int)) T M sz) (j w : Nat) (h1 : 1 ≤ j) (hj : j ≤ (A.ch c).length) (hwj : w < j) (hw : w = pkN tt_ (fun k => - force A ((A.ch c).getD k 0)) j) : Jd g x 11 [vR (r), vI (((c : Nat) : Int)), vI ((((A.ch c).getD w 0 : Nat) : Int)), vI (((j : Nat) : Int))] [] T M sz 0 0 := by
  have hl8 := hW.len8 hc
  have hn8 := hW.n8
  have rw9 := hW.at (c := c) (k := w) hc (by omega)
  refine J_iload_n hx dX5_mostForceful_11 (i := 3) rfl rfl ?_
  refine J_aload_n hx dX5_mostForceful_12 (i := 0) rfl rfl ?_
  refine J_getR (b := r + 10) hx fl_X5_35 cl_X5 dX5_mostForceful_13 hT.o (by decide) rfl hT.r7 ?_
  refine J_iload_n hx dX5_mostForceful_16 (i := 1) rfl rfl ?_
  refine J_iald2 (v := (((A.ch c).length : Nat) : Int)) hx c dX5_mostForceful_17 hT.k10 (by omega) (hT.l10 (by omega)) (hN.sz (by omega)) ?_
  have rg1 := hW.len8 (c := c) (by omega)
  have rg2 := hW.lenN (c := c) (by omega)
  refine J_icmp_ge (tgt := 56) hx dX5_mostForceful_18 (by decide) (fun c3 => ?_) (fun c3 => ?_)
  · refine J_iload_n hx dX5_mostForceful_56 (i := 2) rfl rfl ?_
    refine J_iret hx hr dX5_mostForceful_57 ?_
    exact Qv hQ (by rw [hw]; unfold hardY; rw [show (A.ch c).length = j by omega])
  · refine J_aload_n hx dX5_mostForceful_21 (i := 0) rfl rfl ?_
    refine J_aload_n hx dX5_mostForceful_22 (i := 0) rfl rfl ?_
    refine J_getR (b := r + 7) hx fl_X5_32 cl_X5 dX5_mostForceful_23 hT.o (by decide) rfl hT.r6 ?_
    refine J_iload_n hx dX5_mostForceful_26 (i := 1) rfl rfl ?_
    refine J_aald (b := r + 8 + c) hx c dX5_mostForceful_27 hT.k7 (by decide) (by omega) (hT.l7 (by omega)) (hT.f7 (by omega)) ?_
    refine J_iload_n hx dX5_mostForceful_28 (i := 3) rfl rfl ?_
    refine J_iald2 (v := (((A.ch c).getD j 0 : Nat) : Int)) hx j dX5_mostForceful_29 (hT.kl (by omega)) (by omega) (hT.ll (by omega) (by omega)) (hN.ln (by omega) (by omega)) ?_
    have rg4 := hW.at (c := c) (k := j) (by omega) (by omega)
    refine J_invV (As := [vI ((((A.ch c).getD j 0 : Nat) : Int))]) (st := []) hx lk_X5_90 okX5_forceOf dX5_mostForceful_30 hT.o (by decide) rfl rfl rfl (Nat.le_of_ble_eq_true rfl) (Nat.zero_add _).symm (Nat.zero_add _).symm rfl (c_X5_forceOf hT hN hW (p := (A.ch c).getD j 0) (by omega) ?_)
    have rg5 := force_rg hW (p := (A.ch c).getD j 0) (by omega)
    refine J_aload_n hx dX5_mostForceful_33 (i := 0) rfl rfl ?_
    refine J_iload_n hx dX5_mostForceful_34 (i := 2) rfl rfl ?_
    refine J_invV (As := [vI ((((A.ch c).getD w 0 : Nat) : Int))]) (st := [vI (force A ((A.ch c).getD j 0))]) hx lk_X5_90 okX5_forceOf dX5_mostForceful_35 hT.o (by decide) rfl rfl rfl (Nat.le_of_ble_eq_true rfl) (Nat.zero_add _).symm (Nat.zero_add _).symm rfl (c_X5_forceOf hT hN hW (p := (A.ch c).getD w 0) (by omega) ?_)
    have rg6 := force_rg hW (p := (A.ch c).getD w 0) (by omega)
    refine J_icmp_le (tgt := 50) hx dX5_mostForceful_38 (by decide) (fun c7 => ?_) (fun c7 => ?_)
    · refine J_iinc (v := ((j : Nat) : Int) + 1) (lsn := [vR (r), vI (((c : Nat) : Int)), vI ((((A.ch c).getD w 0 : Nat) : Int)), vI (((j : Nat) : Int) + 1)]) hx dX5_mostForceful_50 rfl (jinc1 (by omega) (by omega)) rfl rfl ?_
      refine J_goto (tgt := 11) hx dX5_mostForceful_53 (by decide) ?_
      have hp9 := qn_ge (k := (fun k => - force A ((A.ch c).getD k 0))) (j := j) (by omega) (by rw [← hw]; omega)
      exact lp_X5_mostForceful hT hN hW hx hr hc hQ (j + 1) w (by omega) (by omega) (by omega) (by rw [hp9]; exact hw)
    · refine J_aload_n hx dX5_mostForceful_41 (i := 0) rfl rfl ?_
      refine J_getR (b := r + 7) hx fl_X5_32 cl_X5 dX5_mostForceful_42 hT.o (by decide) rfl hT.r6 ?_
      refine J_iload_n hx dX5_mostForceful_45 (i := 1) rfl rfl ?_
      refine J_aald (b := r + 8 + c) hx c dX5_mostForceful_46 hT.k7 (by decide) (by omega) (hT.l7 (by omega)) (hT.f7 (by omega)) ?_
      refine J_iload_n hx dX5_mostForceful_47 (i := 3) rfl rfl ?_
      refine J_iald2 (v := (((A.ch c).getD j 0 : Nat) : Int)) hx j dX5_mostForceful_48 (hT.kl (by omega)) (by omega) (hT.ll (by omega) (by omega)) (hN.ln (by omega) (by omega)) ?_
      have rg8 := hW.at (c := c) (k := j) (by omega) (by omega)
      refine J_istore_n (lsn := [vR (r), vI (((c : Nat) : Int)), vI ((((A.ch c).getD j 0 : Nat) : Int)), vI (((j : Nat) : Int))]) hx dX5_mostForceful_49 (i := 2) rfl (Nat.le_of_ble_eq_true rfl) rfl rfl ?_
      refine J_iinc (v := ((j : Nat) : Int) + 1) (lsn := [vR (r), vI (((c : Nat) : Int)), vI ((((A.ch c).getD j 0 : Nat) : Int)), vI (((j : Nat) : Int) + 1)]) hx dX5_mostForceful_50 rfl (jinc1 (by omega) (by omega)) rfl rfl ?_
      refine J_goto (tgt := 11) hx dX5_mostForceful_53 (by decide) ?_
      have hp9 := qn_lt (k := (fun k => - force A ((A.ch c).getD k 0))) (j := j) (by omega) (by rw [← hw]; omega)
      exact lp_X5_mostForceful hT hN hW hx hr hc hQ (j + 1) j (by omega) (by omega) (by omega) (by rw [hp9])
termination_by (A.ch c).length - j
decreasing_by all_goals omega

set_option maxHeartbeats 4000000 in
theorem c_X5_mostForceful {g : WG} {d : Nat} {T : TT} {M : MM} {r sz : Nat} {A : YA} {Q : MVal → TT → MM → Nat → Prop} (hT : YT T r) (hN : YN M r A) (hW : WFY A) {c : Nat} (hc : c < 2) (h1 : 1 ≤ (A.ch c).length) (hQ : Q (vI (((A.ch c).getD (hardY A (A.ch c)) 0 : Nat) : Int)) T M sz) : Ct g (d + 2) mX5_mostForceful [vR (r), vI (((c : Nat) : Int))] T M sz 0 0 Q := by
  refine Ct_of2 (ls := [vR (r), vI (((c : Nat) : Int)), vU, vU]) okX5_mostForceful rfl (Nat.le_of_ble_eq_true rfl) rfl ?_
  intro x hx hr hnm
  have hl8 := hW.len8 hc
  have hn8 := hW.n8
  refine J_aload_n hx dX5_mostForceful_0 (i := 0) rfl rfl ?_
  refine J_getR (b := r + 7) hx fl_X5_32 cl_X5 dX5_mostForceful_1 hT.o (by decide) rfl hT.r6 ?_
  refine J_iload_n hx dX5_mostForceful_4 (i := 1) rfl rfl ?_
  refine J_aald (b := r + 8 + c) hx c dX5_mostForceful_5 hT.k7 (by decide) (by omega) (hT.l7 (by omega)) (hT.f7 (by omega)) ?_
  refine J_iconst (v := 0) hx dX5_mostForceful_6 (by decide) ?_
  refine J_iald2 (v := (((A.ch c).getD 0 0 : Nat) : Int)) hx 0 dX5_mostForceful_7 (hT.kl (by omega)) (by omega) (hT.ll (by omega) (by omega)) (hN.ln (by omega) (by omega)) ?_
  have rg1 := hW.at (c := c) (k := 0) (by omega) (by omega)
  refine J_istore_n (lsn := [vR (r), vI (((c : Nat) : Int)), vI ((((A.ch c).getD 0 0 : Nat) : Int)), vU]) hx dX5_mostForceful_8 (i := 2) rfl (Nat.le_of_ble_eq_true rfl) rfl rfl ?_
  refine J_iconst (v := 1) hx dX5_mostForceful_9 (by decide) ?_
  refine J_istore_n (lsn := [vR (r), vI (((c : Nat) : Int)), vI ((((A.ch c).getD 0 0 : Nat) : Int)), vI (1)]) hx dX5_mostForceful_10 (i := 3) rfl (Nat.le_of_ble_eq_true rfl) rfl rfl ?_
  exact lp_X5_mostForceful hT hN hW hx hr hc hQ 1 0 (by omega) (by omega) (by omega) rfl

set_option maxHeartbeats 4000000 in
theorem lp_X5_sistersIn {g : WG} {d : Nat} {T : TT} {M : MM} {r sz : Nat} {A : YA} {Q : MVal → TT → MM → Nat → Prop} (hT : YT T r) (hN : YN M r A) (hW : WFY A) {x : CX} (hx : OKx g x RX5 cX5_sistersIn (d + 1)) (hr : RTx g x (some .int) Q) {c : Nat} (hc : c < 2) (hQ : Q (vI ((sisY A (A.ch c) : Nat) : Int)) T M sz) (j s : Nat) (hj : j ≤ (A.ch c).length) (hs : s = cntF (fun k => decide (A.att 0 ((A.ch c).getD k 0) = 3)) j) : Jd g x 4 [vR (r), vI (((c : Nat) : Int)), vI (((s : Nat) : Int)), vI (((j : Nat) : Int))] [] T M sz 0 0 := by
  have hl8 := hW.len8 hc
  have hn8 := hW.n8
  have hs9 := cntF_le (fun k => decide (A.att 0 ((A.ch c).getD k 0) = 3)) j
  refine J_iload_n hx dX5_sistersIn_4 (i := 3) rfl rfl ?_
  refine J_aload_n hx dX5_sistersIn_5 (i := 0) rfl rfl ?_
  refine J_getR (b := r + 10) hx fl_X5_35 cl_X5 dX5_sistersIn_6 hT.o (by decide) rfl hT.r7 ?_
  refine J_iload_n hx dX5_sistersIn_9 (i := 1) rfl rfl ?_
  refine J_iald2 (v := (((A.ch c).length : Nat) : Int)) hx c dX5_sistersIn_10 hT.k10 (by omega) (hT.l10 (by omega)) (hN.sz (by omega)) ?_
  have rg1 := hW.len8 (c := c) (by omega)
  have rg2 := hW.lenN (c := c) (by omega)
  refine J_icmp_ge (tgt := 40) hx dX5_sistersIn_11 (by decide) (fun c3 => ?_) (fun c3 => ?_)
  · refine J_iload_n hx dX5_sistersIn_40 (i := 2) rfl rfl ?_
    refine J_iret hx hr dX5_sistersIn_41 ?_
    exact Qv hQ (by rw [hs]; unfold sisY; rw [show (A.ch c).length = j by omega])
  · refine J_aload_n hx dX5_sistersIn_14 (i := 0) rfl rfl ?_
    refine J_getR (b := r + 1) hx fl_X5_9 cl_X5 dX5_sistersIn_15 hT.o (by decide) rfl hT.r0 ?_
    refine J_aload_n hx dX5_sistersIn_18 (i := 0) rfl rfl ?_
    refine J_getR (b := r + 7) hx fl_X5_32 cl_X5 dX5_sistersIn_19 hT.o (by decide) rfl hT.r6 ?_
    refine J_iload_n hx dX5_sistersIn_22 (i := 1) rfl rfl ?_
    refine J_aald (b := r + 8 + c) hx c dX5_sistersIn_23 hT.k7 (by decide) (by omega) (hT.l7 (by omega)) (hT.f7 (by omega)) ?_
    refine J_iload_n hx dX5_sistersIn_24 (i := 3) rfl rfl ?_
    refine J_iald2 (v := (((A.ch c).getD j 0 : Nat) : Int)) hx j dX5_sistersIn_25 (hT.kl (by omega)) (by omega) (hT.ll (by omega) (by omega)) (hN.ln (by omega) (by omega)) ?_
    have rg4 := hW.at (c := c) (k := j) (by omega) (by omega)
    refine J_iald2 (v := A.att 0 ((A.ch c).getD j 0)) hx ((A.ch c).getD j 0) dX5_sistersIn_26 hT.k1 (by omega) (hT.l1 (by omega)) (hN.kd (by omega)) ?_
    have rg5 := hW.kd (p := (A.ch c).getD j 0) (by omega)
    refine J_iconst (v := 3) hx dX5_sistersIn_27 (by decide) ?_
    refine J_icmp_ne (tgt := 34) hx dX5_sistersIn_28 (by decide) (fun c6 => ?_) (fun c6 => ?_)
    · refine J_iinc (v := ((j : Nat) : Int) + 1) (lsn := [vR (r), vI (((c : Nat) : Int)), vI (((s : Nat) : Int)), vI (((j : Nat) : Int) + 1)]) hx dX5_sistersIn_34 rfl (jinc1 (by omega) (by omega)) rfl rfl ?_
      refine J_goto (tgt := 4) hx dX5_sistersIn_37 (by decide) ?_
      exact lp_X5_sistersIn hT hN hW hx hr hc hQ (j + 1) s (by omega) (by rw [hs]; exact (cntF_f (decide_eq_false (by omega))).symm)
    · refine J_iinc (v := ((s : Nat) : Int) + 1) (lsn := [vR (r), vI (((c : Nat) : Int)), vI (((s : Nat) : Int) + 1), vI (((j : Nat) : Int))]) hx dX5_sistersIn_31 rfl (jinc1 (by omega) (by omega)) rfl rfl ?_
      refine J_iinc (v := ((j : Nat) : Int) + 1) (lsn := [vR (r), vI (((c : Nat) : Int)), vI (((s : Nat) : Int) + 1), vI (((j : Nat) : Int) + 1)]) hx dX5_sistersIn_34 rfl (jinc1 (by omega) (by omega)) rfl rfl ?_
      refine J_goto (tgt := 4) hx dX5_sistersIn_37 (by decide) ?_
      exact lp_X5_sistersIn hT hN hW hx hr hc hQ (j + 1) (s + 1) (by omega) (by rw [hs]; exact (cntF_t (decide_eq_true (by omega))).symm)
termination_by (A.ch c).length - j
decreasing_by all_goals omega

set_option maxHeartbeats 4000000 in
theorem c_X5_sistersIn {g : WG} {d : Nat} {T : TT} {M : MM} {r sz : Nat} {A : YA} {Q : MVal → TT → MM → Nat → Prop} (hT : YT T r) (hN : YN M r A) (hW : WFY A) {c : Nat} (hc : c < 2) (hQ : Q (vI ((sisY A (A.ch c) : Nat) : Int)) T M sz) : Ct g (d + 1) mX5_sistersIn [vR (r), vI (((c : Nat) : Int))] T M sz 0 0 Q := by
  refine Ct_of2 (ls := [vR (r), vI (((c : Nat) : Int)), vU, vU]) okX5_sistersIn rfl (Nat.le_of_ble_eq_true rfl) rfl ?_
  intro x hx hr hnm
  refine J_iconst (v := 0) hx dX5_sistersIn_0 (by decide) ?_
  refine J_istore_n (lsn := [vR (r), vI (((c : Nat) : Int)), vI (0), vU]) hx dX5_sistersIn_1 (i := 2) rfl (Nat.le_of_ble_eq_true rfl) rfl rfl ?_
  refine J_iconst (v := 0) hx dX5_sistersIn_2 (by decide) ?_
  refine J_istore_n (lsn := [vR (r), vI (((c : Nat) : Int)), vI (0), vI (0)]) hx dX5_sistersIn_3 (i := 3) rfl (Nat.le_of_ble_eq_true rfl) rfl rfl ?_
  exact lp_X5_sistersIn hT hN hW hx hr hc hQ 0 0 (by omega) rfl

set_option maxHeartbeats 4000000 in
theorem lp_X5_placeOf {g : WG} {d : Nat} {T : TT} {M : MM} {r sz : Nat} {A : YA} {Q : MVal → TT → MM → Nat → Prop} (hT : YT T r) (hN : YN M r A) (hW : WFY A) {x : CX} (hx : OKx g x RX5 cX5_placeOf (d + 1)) (hr : RTx g x (some .int) Q) {p : Nat} (hp : p < A.n) (hQ : Q (vI ((plcY A p : Nat) : Int)) T M sz) (j : Nat) (hj : j ≤ plcY A p) : Jd g x 14 [vR (r), vI (((p : Nat) : Int)), vR (r + 8 + A.co p), vI (((j : Nat) : Int))] [] T M sz 0 0 := by
  have hc2 := A.co2 p
  have hl8 := hW.len8 hc2
  have hn8 := hW.n8
  have hpl := plcY_lt hW hp
  refine J_iload_n hx dX5_placeOf_14 (i := 3) rfl rfl ?_
  refine J_bipush (v := 7) hx dX5_placeOf_15 (by decide) ?_
  refine J_icmp_ge (tgt := 33) hx dX5_placeOf_17 (by decide) (fun c1 => ?_) (fun c1 => ?_)
  · refine J_iload_n hx dX5_placeOf_33 (i := 3) rfl rfl ?_
    refine J_iret hx hr dX5_placeOf_34 ?_
    first
    | exact Qv hQ (by omega)
    | (refine Qv hQ ?_
       have h8 : (A.ch (A.co p)).getD j 0 = p := by omega
       have h9 := idxOf_getD (hW.nd hc2) (show j < (A.ch (A.co p)).length by omega)
       rw [h8] at h9
       show (((A.ch (A.co p)).idxOf p : Nat) : Int) = _
       rw [h9])
  · refine J_aload_n hx dX5_placeOf_20 (i := 2) rfl rfl ?_
    refine J_iload_n hx dX5_placeOf_21 (i := 3) rfl rfl ?_
    refine J_iald2 (v := (((A.ch (A.co p)).getD j 0 : Nat) : Int)) hx j dX5_placeOf_22 (hT.kl (by omega)) (by omega) (hT.ll (by omega) (by omega)) (hN.ln (by omega) (by omega)) ?_
    have rg2 := hW.at (c := A.co p) (k := j) (by omega) (by omega)
    refine J_iload_n hx dX5_placeOf_23 (i := 1) rfl rfl ?_
    refine J_icmp_eq (tgt := 33) hx dX5_placeOf_24 (by decide) (fun c3 => ?_) (fun c3 => ?_)
    · refine J_iload_n hx dX5_placeOf_33 (i := 3) rfl rfl ?_
      refine J_iret hx hr dX5_placeOf_34 ?_
      first
      | exact Qv hQ (by omega)
      | (refine Qv hQ ?_
         have h8 : (A.ch (A.co p)).getD j 0 = p := by omega
         have h9 := idxOf_getD (hW.nd hc2) (show j < (A.ch (A.co p)).length by omega)
         rw [h8] at h9
         show (((A.ch (A.co p)).idxOf p : Nat) : Int) = _
         rw [h9])
    · refine J_iinc (v := ((j : Nat) : Int) + 1) (lsn := [vR (r), vI (((p : Nat) : Int)), vR (r + 8 + A.co p), vI (((j : Nat) : Int) + 1)]) hx dX5_placeOf_27 rfl (jinc1 (by omega) (by omega)) rfl rfl ?_
      refine J_goto (tgt := 14) hx dX5_placeOf_30 (by decide) ?_
      have hne : j ≠ plcY A p := fun e => by
        have h9 := getD_idxOf (hW.mco hp)
        have h8 : (A.ch (A.co p)).getD j 0 = p := by rw [e]; exact h9
        omega
      exact lp_X5_placeOf hT hN hW hx hr hp hQ (j + 1) (by omega)
termination_by plcY A p - j
decreasing_by all_goals omega

set_option maxHeartbeats 4000000 in
theorem c_X5_placeOf {g : WG} {d : Nat} {T : TT} {M : MM} {r sz : Nat} {A : YA} {Q : MVal → TT → MM → Nat → Prop} (hT : YT T r) (hN : YN M r A) (hW : WFY A) {p : Nat} (hp : p < A.n) (hQ : Q (vI ((plcY A p : Nat) : Int)) T M sz) : Ct g (d + 1) mX5_placeOf [vR (r), vI (((p : Nat) : Int))] T M sz 0 0 Q := by
  refine Ct_of2 (ls := [vR (r), vI (((p : Nat) : Int)), vU, vU]) okX5_placeOf rfl (Nat.le_of_ble_eq_true rfl) rfl ?_
  intro x hx hr hnm
  have hn8 := hW.n8
  refine J_aload_n hx dX5_placeOf_0 (i := 0) rfl rfl ?_
  refine J_getR (b := r + 7) hx fl_X5_32 cl_X5 dX5_placeOf_1 hT.o (by decide) rfl hT.r6 ?_
  refine J_aload_n hx dX5_placeOf_4 (i := 0) rfl rfl ?_
  refine J_getR (b := r + 6) hx fl_X5_27 cl_X5 dX5_placeOf_5 hT.o (by decide) rfl hT.r5 ?_
  refine J_iload_n hx dX5_placeOf_8 (i := 1) rfl rfl ?_
  refine J_iald2 (v := ((A.co p : Nat) : Int)) hx p dX5_placeOf_9 hT.k6 (by omega) (hT.l6 (by omega)) (hN.hm (by omega)) ?_
  have rg1 := A.co2 p
  refine J_aald (b := r + 8 + (A.co p)) hx (A.co p) dX5_placeOf_10 hT.k7 (by decide) (by omega) (hT.l7 (by omega)) (hT.f7 (by omega)) ?_
  refine J_astore_n (lsn := [vR (r), vI (((p : Nat) : Int)), vR (r + 8 + (A.co p)), vU]) hx dX5_placeOf_11 (i := 2) rfl (Nat.le_of_ble_eq_true rfl) rfl rfl ?_
  refine J_iconst (v := 0) hx dX5_placeOf_12 (by decide) ?_
  refine J_istore_n (lsn := [vR (r), vI (((p : Nat) : Int)), vR (r + 8 + (A.co p)), vI (0)]) hx dX5_placeOf_13 (i := 3) rfl (Nat.le_of_ble_eq_true rfl) rfl rfl ?_
  exact lp_X5_placeOf hT hN hW hx hr hp hQ 0 (by omega)

set_option maxHeartbeats 4000000 in
theorem lp_X5_allTired {g : WG} {d : Nat} {T : TT} {M : MM} {r sz : Nat} {A : YA} {Q : MVal → TT → MM → Nat → Prop} (hT : YT T r) (hN : YN M r A) (hW : WFY A) {x : CX} (hx : OKx g x RX5 cX5_allTired (d + 1)) (hr : RTx g x (some .int) Q) (hQ : Q (vI (sumF (A.att 3) A.n)) T M sz) (j : Nat) (s : Int) (hj : j ≤ A.n) (hs : s = sumF (A.att 3) j) : Jd g x 4 [vR (r), vI (s), vI (((j : Nat) : Int))] [] T M sz 0 0 := by
  have hn8 := hW.n8
  have hs9 := sumF_rg (f := A.att 3) (b := 20) (k := j) (fun q hq => hW.ti (by omega))
  refine J_iload_n hx dX5_allTired_4 (i := 2) rfl rfl ?_
  refine J_aload_n hx dX5_allTired_5 (i := 0) rfl rfl ?_
  refine J_getI2 (v := ((A.n : Nat) : Int)) hx fl_X5_57 cl_X5 dX5_allTired_6 hT.o (by decide) rfl hN.pp ?_
  have rg1 := hW.n8
  refine J_icmp_ge (tgt := 27) hx dX5_allTired_9 (by decide) (fun c2 => ?_) (fun c2 => ?_)
  · refine J_iload_n hx dX5_allTired_27 (i := 1) rfl rfl ?_
    refine J_iret hx hr dX5_allTired_28 ?_
    exact Qv hQ (by rw [hs, show A.n = j by omega])
  · refine J_iload_n hx dX5_allTired_12 (i := 1) rfl rfl ?_
    refine J_aload_n hx dX5_allTired_13 (i := 0) rfl rfl ?_
    refine J_getR (b := r + 4) hx fl_X5_21 cl_X5 dX5_allTired_14 hT.o (by decide) rfl hT.r3 ?_
    refine J_iload_n hx dX5_allTired_17 (i := 2) rfl rfl ?_
    refine J_iald2 (v := A.att 3 j) hx j dX5_allTired_18 hT.k4 (by omega) (hT.l4 (by omega)) (hN.ti (by omega)) ?_
    have rg3 := hW.ti (p := j) (by omega)
    refine J_iadd (v := s + (A.att 3 j)) hx dX5_allTired_19 (w32_id (by omega) (by omega)) ?_
    refine J_istore_n (lsn := [vR (r), vI (s + (A.att 3 j)), vI (((j : Nat) : Int))]) hx dX5_allTired_20 (i := 1) rfl (Nat.le_of_ble_eq_true rfl) rfl rfl ?_
    refine J_iinc (v := ((j : Nat) : Int) + 1) (lsn := [vR (r), vI (s + (A.att 3 j)), vI (((j : Nat) : Int) + 1)]) hx dX5_allTired_21 rfl (jinc1 (by omega) (by omega)) rfl rfl ?_
    refine J_goto (tgt := 4) hx dX5_allTired_24 (by decide) ?_
    exact lp_X5_allTired hT hN hW hx hr hQ (j + 1) _ (by omega) (by rw [hs]; rfl)
termination_by A.n - j
decreasing_by all_goals omega

set_option maxHeartbeats 4000000 in
theorem c_X5_allTired {g : WG} {d : Nat} {T : TT} {M : MM} {r sz : Nat} {A : YA} {Q : MVal → TT → MM → Nat → Prop} (hT : YT T r) (hN : YN M r A) (hW : WFY A) (hQ : Q (vI (sumF (A.att 3) A.n)) T M sz) : Ct g (d + 1) mX5_allTired [vR (r)] T M sz 0 0 Q := by
  refine Ct_of2 (ls := [vR (r), vU, vU]) okX5_allTired rfl (Nat.le_of_ble_eq_true rfl) rfl ?_
  intro x hx hr hnm
  refine J_iconst (v := 0) hx dX5_allTired_0 (by decide) ?_
  refine J_istore_n (lsn := [vR (r), vI (0), vU]) hx dX5_allTired_1 (i := 1) rfl (Nat.le_of_ble_eq_true rfl) rfl rfl ?_
  refine J_iconst (v := 0) hx dX5_allTired_2 (by decide) ?_
  refine J_istore_n (lsn := [vR (r), vI (0), vI (0)]) hx dX5_allTired_3 (i := 2) rfl (Nat.le_of_ble_eq_true rfl) rfl rfl ?_
  exact lp_X5_allTired hT hN hW hx hr hQ 0 _ (by omega) rfl

set_option maxHeartbeats 4000000 in
theorem lp_X5_mostTired {g : WG} {d : Nat} {T : TT} {M : MM} {r sz : Nat} {A : YA} {Q : MVal → TT → MM → Nat → Prop} (hT : YT T r) (hN : YN M r A) (hW : WFY A) {x : CX} (hx : OKx g x RX5 cX5_mostTired (d + 1)) (hr : RTx g x (some .int) Q) (hQ : Q (vI ((tirY A : Nat) : Int)) T M sz) (j w : Nat) (h1 : 1 ≤ j) (hj : j ≤ A.n) (hwj : w < j) (hw : w = pkN tt_ (fun p => - A.att 3 p) j) : Jd g x 4 [vR (r), vI (((w : Nat) : Int)), vI (((j : Nat) : Int))] [] T M sz 0 0 := by
  have hn8 := hW.n8
  refine J_iload_n hx dX5_mostTired_4 (i := 2) rfl rfl ?_
  refine J_aload_n hx dX5_mostTired_5 (i := 0) rfl rfl ?_
  refine J_getI2 (v := ((A.n : Nat) : Int)) hx fl_X5_57 cl_X5 dX5_mostTired_6 hT.o (by decide) rfl hN.pp ?_
  have rg1 := hW.n8
  refine J_icmp_ge (tgt := 35) hx dX5_mostTired_9 (by decide) (fun c2 => ?_) (fun c2 => ?_)
  · refine J_iload_n hx dX5_mostTired_35 (i := 1) rfl rfl ?_
    refine J_iret hx hr dX5_mostTired_36 ?_
    exact Qv hQ (by rw [hw]; unfold tirY; rw [show A.n = j by omega])
  · refine J_aload_n hx dX5_mostTired_12 (i := 0) rfl rfl ?_
    refine J_getR (b := r + 4) hx fl_X5_21 cl_X5 dX5_mostTired_13 hT.o (by decide) rfl hT.r3 ?_
    refine J_iload_n hx dX5_mostTired_16 (i := 2) rfl rfl ?_
    refine J_iald2 (v := A.att 3 j) hx j dX5_mostTired_17 hT.k4 (by omega) (hT.l4 (by omega)) (hN.ti (by omega)) ?_
    have rg3 := hW.ti (p := j) (by omega)
    refine J_aload_n hx dX5_mostTired_18 (i := 0) rfl rfl ?_
    refine J_getR (b := r + 4) hx fl_X5_21 cl_X5 dX5_mostTired_19 hT.o (by decide) rfl hT.r3 ?_
    refine J_iload_n hx dX5_mostTired_22 (i := 1) rfl rfl ?_
    refine J_iald2 (v := A.att 3 w) hx w dX5_mostTired_23 hT.k4 (by omega) (hT.l4 (by omega)) (hN.ti (by omega)) ?_
    have rg4 := hW.ti (p := w) (by omega)
    refine J_icmp_le (tgt := 29) hx dX5_mostTired_24 (by decide) (fun c5 => ?_) (fun c5 => ?_)
    · refine J_iinc (v := ((j : Nat) : Int) + 1) (lsn := [vR (r), vI (((w : Nat) : Int)), vI (((j : Nat) : Int) + 1)]) hx dX5_mostTired_29 rfl (jinc1 (by omega) (by omega)) rfl rfl ?_
      refine J_goto (tgt := 4) hx dX5_mostTired_32 (by decide) ?_
      have hp9 := qn_ge (k := (fun p => - A.att 3 p)) (j := j) (by omega) (by rw [← hw]; omega)
      exact lp_X5_mostTired hT hN hW hx hr hQ (j + 1) w (by omega) (by omega) (by omega) (by rw [hp9]; exact hw)
    · refine J_iload_n hx dX5_mostTired_27 (i := 2) rfl rfl ?_
      refine J_istore_n (lsn := [vR (r), vI (((j : Nat) : Int)), vI (((j : Nat) : Int))]) hx dX5_mostTired_28 (i := 1) rfl (Nat.le_of_ble_eq_true rfl) rfl rfl ?_
      refine J_iinc (v := ((j : Nat) : Int) + 1) (lsn := [vR (r), vI (((j : Nat) : Int)), vI (((j : Nat) : Int) + 1)]) hx dX5_mostTired_29 rfl (jinc1 (by omega) (by omega)) rfl rfl ?_
      refine J_goto (tgt := 4) hx dX5_mostTired_32 (by decide) ?_
      have hp9 := qn_lt (k := (fun p => - A.att 3 p)) (j := j) (by omega) (by rw [← hw]; omega)
      exact lp_X5_mostTired hT hN hW hx hr hQ (j + 1) j (by omega) (by omega) (by omega) (by rw [hp9])
termination_by A.n - j
decreasing_by all_goals omega

set_option maxHeartbeats 4000000 in
theorem c_X5_mostTired {g : WG} {d : Nat} {T : TT} {M : MM} {r sz : Nat} {A : YA} {Q : MVal → TT → MM → Nat → Prop} (hT : YT T r) (hN : YN M r A) (hW : WFY A) (h1 : 1 ≤ A.n) (hQ : Q (vI ((tirY A : Nat) : Int)) T M sz) : Ct g (d + 1) mX5_mostTired [vR (r)] T M sz 0 0 Q := by
  refine Ct_of2 (ls := [vR (r), vU, vU]) okX5_mostTired rfl (Nat.le_of_ble_eq_true rfl) rfl ?_
  intro x hx hr hnm
  refine J_iconst (v := 0) hx dX5_mostTired_0 (by decide) ?_
  refine J_istore_n (lsn := [vR (r), vI (0), vU]) hx dX5_mostTired_1 (i := 1) rfl (Nat.le_of_ble_eq_true rfl) rfl rfl ?_
  refine J_iconst (v := 1) hx dX5_mostTired_2 (by decide) ?_
  refine J_istore_n (lsn := [vR (r), vI (0), vI (1)]) hx dX5_mostTired_3 (i := 2) rfl (Nat.le_of_ble_eq_true rfl) rfl rfl ?_
  exact lp_X5_mostTired hT hN hW hx hr hQ 1 0 (by omega) (by omega) (by omega) rfl
