/-! the first of the least: a search over 0 .. i - 1 of those with P by the key k -/
def pick (P : Nat → Bool) (k : Nat → Int) : Nat → Option Nat
  | 0 => none
  | i + 1 => match pick P k i with
    | none => if P i = true then some i else none
    | some b => if P i = true ∧ k i < k b then some i else some b
def pkN (P : Nat → Bool) (k : Nat → Int) (i : Nat) : Nat := (pick P k i).getD 0
def pkI (P : Nat → Bool) (k : Nat → Int) (i : Nat) : Int := match pick P k i with
  | none => -1
  | some b => ((b : Nat) : Int)
def pkV (H : Int) (P : Nat → Bool) (k : Nat → Int) (i : Nat) : Int := match pick P k i with
  | none => H
  | some b => k b
theorem qk_no {H : Int} {P : Nat → Bool} {k : Nat → Int} {i : Nat} (hp : P i = false) : pick P k (i + 1) = pick P k i := by
  show (match pick P k i with | none => if P i = true then some i else none | some b => if P i = true ∧ k i < k b then some i else some b) = _
  cases h : pick P k i <;> simp [hp]
theorem qk_lt {H : Int} {P : Nat → Bool} {k : Nat → Int} {i : Nat} (hp : P i = true) (hk : k i < pkV H P k i) : pick P k (i + 1) = some i := by
  unfold pkV at hk
  show (match pick P k i with | none => if P i = true then some i else none | some b => if P i = true ∧ k i < k b then some i else some b) = _
  cases h : pick P k i with
  | none => simp [hp]
  | some b => rw [h] at hk; dsimp only at hk ⊢; simp [hp, hk]
theorem qk_ge {H : Int} {P : Nat → Bool} {k : Nat → Int} {i : Nat} (hH : k i < H) (hk : ¬ k i < pkV H P k i) : pick P k (i + 1) = pick P k i := by
  unfold pkV at hk
  show (match pick P k i with | none => if P i = true then some i else none | some b => if P i = true ∧ k i < k b then some i else some b) = _
  cases h : pick P k i with
  | none => rw [h] at hk; exact absurd hH hk
  | some b => rw [h] at hk; dsimp only at hk ⊢; simp [hk]
theorem pkN_of {P : Nat → Bool} {k : Nat → Int} {i b : Nat} (h : pick P k i = some b) : pkN P k i = b := by simp [pkN, h]
theorem pkI_of {P : Nat → Bool} {k : Nat → Int} {i b : Nat} (h : pick P k i = some b) : pkI P k i = (b : Int) := by simp [pkI, h]
theorem pkV_of {H : Int} {P : Nat → Bool} {k : Nat → Int} {i b : Nat} (h : pick P k i = some b) : pkV H P k i = k b := by simp [pkV, h]
theorem pkN_eq {P : Nat → Bool} {k : Nat → Int} {i j : Nat} (h : pick P k i = pick P k j) : pkN P k i = pkN P k j := by simp [pkN, h]
theorem pkI_eq {P : Nat → Bool} {k : Nat → Int} {i j : Nat} (h : pick P k i = pick P k j) : pkI P k i = pkI P k j := by simp [pkI, h]
theorem pkV_eq {H : Int} {P : Nat → Bool} {k : Nat → Int} {i j : Nat} (h : pick P k i = pick P k j) : pkV H P k i = pkV H P k j := by simp [pkV, h]
theorem pick_spec (P : Nat → Bool) (k : Nat → Int) : ∀ i : Nat, match pick P k i with
    | none => ∀ j, j < i → P j = false
    | some b => b < i ∧ P b = true ∧ (∀ j, j < i → P j = true → k b ≤ k j) ∧ (∀ j, j < b → P j = true → k b < k j)
  | 0 => fun j hj => absurd hj (Nat.not_lt_zero j)
  | i + 1 => by
    have ih := pick_spec P k i
    have e0 : pick P k (i + 1) = (match pick P k i with | none => if P i = true then some i else none | some b => if P i = true ∧ k i < k b then some i else some b) := rfl
    rw [e0]
    cases h : pick P k i with
    | none =>
      rw [h] at ih
      dsimp only at ih ⊢
      by_cases hp : P i = true
      · simp only [hp, if_true]
        refine ⟨Nat.lt_succ_self i, trivial, fun j hj hj2 => ?_, fun j hj hj2 => ?_⟩
        · by_cases e : j = i
          · subst e; exact Int.le_refl _
          · rw [ih j (by omega)] at hj2; cases hj2
        · rw [ih j hj] at hj2; cases hj2
      · have hp2 : P i = false := by cases h2 : P i <;> simp_all
        simp only [hp2, Bool.false_eq_true, if_false]
        intro j hj
        by_cases e : j = i
        · subst e; exact hp2
        · exact ih j (by omega)
    | some b =>
      rw [h] at ih
      dsimp only at ih ⊢
      obtain ⟨h1, h2, h3, h4⟩ := ih
      by_cases hc : P i = true ∧ k i < k b
      · simp only [hc, and_self, if_true]
        refine ⟨Nat.lt_succ_self i, trivial, fun j hj hj2 => ?_, fun j hj hj2 => ?_⟩
        · by_cases e : j = i
          · subst e; exact Int.le_refl _
          · have := h3 j (by omega) hj2; have := hc.2; omega
        · have := h3 j hj hj2; have := hc.2; omega
      · simp only [hc, if_false]
        refine ⟨by omega, h2, fun j hj hj2 => ?_, h4⟩
        by_cases e : j = i
        · subst e
          have : ¬ k j < k b := fun q => hc ⟨hj2, q⟩
          omega
        · exact h3 j (by omega) hj2
theorem pick_some {P : Nat → Bool} {k : Nat → Int} {i j : Nat} (hj : j < i) (hp : P j = true) : ∃ b, pick P k i = some b ∧ b < i ∧ P b = true ∧ (∀ j, j < i → P j = true → k b ≤ k j) ∧ (∀ j, j < b → P j = true → k b < k j) := by
  have h := pick_spec P k i
  cases e : pick P k i with
  | none => rw [e] at h; rw [h j hj] at hp; cases hp
  | some b => rw [e] at h; exact ⟨b, rfl, h⟩
theorem pick_uniq {P : Nat → Bool} {k : Nat → Int} {i b : Nat} (h1 : b < i) (h2 : P b = true) (h3 : ∀ j, j < i → P j = true → k b ≤ k j) (h4 : ∀ j, j < b → P j = true → k b < k j) : pick P k i = some b := by
  obtain ⟨c, e, c1, c2, c3, c4⟩ := pick_some (k := k) h1 h2
  rw [e]
  congr 1
  rcases Nat.lt_trichotomy b c with q | q | q
  · have := c4 b q h2; have := h3 c c1 c2; omega
  · exact q.symm
  · have := h4 c q c2; have := c3 b h1 h2; omega
theorem pick_congr {P P' : Nat → Bool} {k k' : Nat → Int} : ∀ {i : Nat}, (∀ j, j < i → P j = P' j) → (∀ j, j < i → P j = true → k j = k' j) → pick P k i = pick P' k' i
  | 0, _, _ => rfl
  | i + 1, h1, h2 => by
    have ih := pick_congr (i := i) (fun j hj => h1 j (by omega)) (fun j hj => h2 j (by omega))
    have hs := pick_spec P k i
    show (match pick P k i with | none => if P i = true then some i else none | some b => if P i = true ∧ k i < k b then some i else some b) = (match pick P' k' i with | none => if P' i = true then some i else none | some b => if P' i = true ∧ k' i < k' b then some i else some b)
    rw [← ih, ← h1 i (by omega)]
    cases e : pick P k i with
    | none => rfl
    | some b =>
      rw [e] at hs
      dsimp only
      rw [← h2 b (by have := hs.1; omega) hs.2.1]
      by_cases hp : P i = true
      · rw [← h2 i (by omega) hp]
      · have hp2 : P i = false := by cases h3 : P i <;> simp_all
        simp [hp2]
abbrev tt_ : Nat → Bool := fun _ => true
/-- the least strength of a row: 0 where there is no joint -/
def minS (A : YA) (l : List Nat) : Nat → Int
  | 0 => strl A l 0
  | j + 1 => if strl A l (j + 1) < minS A l j then strl A l (j + 1) else minS A l j
def leastS (A : YA) (l : List Nat) : Int := if l.length < 2 then 0 else minS A l (l.length - 2)
theorem minS_rg {A : YA} (h : WFY A) {l : List Nat} (hl : ∀ p ∈ l, p < A.n) : ∀ {j : Nat}, j + 1 < l.length → 0 ≤ minS A l j ∧ minS A l j ≤ 71
  | 0, hj => strl_rg h hl hj
  | j + 1, hj => by
    have h1 := minS_rg h hl (j := j) (by omega)
    have h2 := strl_rg h hl hj
    unfold minS
    split <;> omega
theorem leastS_rg {A : YA} (h : WFY A) {l : List Nat} (hl : ∀ p ∈ l, p < A.n) : 0 ≤ leastS A l ∧ leastS A l ≤ 71 := by
  unfold leastS
  split
  · omega
  · exact minS_rg h hl (by omega)

set_option maxHeartbeats 4000000 in
theorem c_X5_strengthAt {g : WG} {d : Nat} {T : TT} {M : MM} {r sz : Nat} {A : YA} {Q : MVal → TT → MM → Nat → Prop} (hT : YT T r) (hN : YN M r A) (hW : WFY A) {c : Nat} (hc : c < 2) {j : Nat} (hj : j + 1 < (A.ch c).length) (hQ : Q (vI (strl A (A.ch c) j)) T M sz) : Ct g (d + 2) mX5_strengthAt [vR (r), vI (((c : Nat) : Int)), vI (((j : Nat) : Int))] T M sz 0 0 Q := by
  refine Ct_of2 (ls := [vR (r), vI (((c : Nat) : Int)), vI (((j : Nat) : Int)), vU, vU]) okX5_strengthAt rfl (Nat.le_of_ble_eq_true rfl) rfl ?_
  intro x hx hr hnm
  have hn8 := hW.n8
  have hl8 := hW.len8 hc
  refine J_aload_n hx dX5_strengthAt_0 (i := 0) rfl rfl ?_
  refine J_getR (b := r + 7) hx fl_X5_32 cl_X5 dX5_strengthAt_1 hT.o (by decide) rfl hT.r6 ?_
  refine J_iload_n hx dX5_strengthAt_4 (i := 1) rfl rfl ?_
  refine J_aald (b := r + 8 + c) hx c dX5_strengthAt_5 hT.k7 (by decide) (by omega) (hT.l7 (by omega)) (hT.f7 (by omega)) ?_
  refine J_iload_n hx dX5_strengthAt_6 (i := 2) rfl rfl ?_
  refine J_iald2 (v := (((A.ch c).getD j 0 : Nat) : Int)) hx j dX5_strengthAt_7 (hT.kl (by omega)) (by omega) (hT.ll (by omega) (by omega)) (hN.ln (by omega) (by omega)) ?_
  have rg1 := hW.at (c := c) (k := j) (by omega) (by omega)
  refine J_istore_n (lsn := [vR (r), vI (((c : Nat) : Int)), vI (((j : Nat) : Int)), vI ((((A.ch c).getD j 0 : Nat) : Int)), vU]) hx dX5_strengthAt_8 (i := 3) rfl (Nat.le_of_ble_eq_true rfl) rfl rfl ?_
  refine J_aload_n hx dX5_strengthAt_9 (i := 0) rfl rfl ?_
  refine J_getR (b := r + 7) hx fl_X5_32 cl_X5 dX5_strengthAt_10 hT.o (by decide) rfl hT.r6 ?_
  refine J_iload_n hx dX5_strengthAt_13 (i := 1) rfl rfl ?_
  refine J_aald (b := r + 8 + c) hx c dX5_strengthAt_14 hT.k7 (by decide) (by omega) (hT.l7 (by omega)) (hT.f7 (by omega)) ?_
  refine J_iload_n hx dX5_strengthAt_15 (i := 2) rfl rfl ?_
  refine J_iconst (v := 1) hx dX5_strengthAt_16 (by decide) ?_
  refine J_iadd (v := ((j : Nat) : Int) + 1) hx dX5_strengthAt_17 (w32_id (by omega) (by omega)) ?_
  refine J_iald2 (v := (((A.ch c).getD (j + 1) 0 : Nat) : Int)) hx (j + 1) dX5_strengthAt_18 (hT.kl (by omega)) (by omega) (hT.ll (by omega) (by omega)) (hN.ln (by omega) (by omega)) ?_
  have rg2 := hW.at (c := c) (k := j + 1) (by omega) (by omega)
  refine J_istore (lsn := [vR (r), vI (((c : Nat) : Int)), vI (((j : Nat) : Int)), vI ((((A.ch c).getD j 0 : Nat) : Int)), vI ((((A.ch c).getD (j + 1) 0 : Nat) : Int))]) hx dX5_strengthAt_19 (Nat.le_of_ble_eq_true rfl) rfl rfl ?_
  refine J_aload_n hx dX5_strengthAt_21 (i := 0) rfl rfl ?_
  refine J_aload_n hx dX5_strengthAt_22 (i := 0) rfl rfl ?_
  refine J_iload_n hx dX5_strengthAt_23 (i := 3) rfl rfl ?_
  refine J_iload hx dX5_strengthAt_24 rfl ?_
  refine J_invV (As := [vI ((((A.ch c).getD j 0 : Nat) : Int)), vI ((((A.ch c).getD (j + 1) 0 : Nat) : Int))]) (st := [vR (r)]) hx lk_X5_73 okX5_holdOf dX5_strengthAt_26 hT.o (by decide) rfl rfl rfl (Nat.le_of_ble_eq_true rfl) (Nat.zero_add _).symm (Nat.zero_add _).symm rfl (c_X5_holdOf hT hN hW (p := (A.ch c).getD j 0) (by omega) (b := (((A.ch c).getD (j + 1) 0 : Nat) : Int)) (by omega) ?_)
  have rg3 := hold_rg hW (p := (A.ch c).getD j 0) (by omega) (((A.ch c).getD (j + 1) 0 : Nat) : Int)
  refine J_aload_n hx dX5_strengthAt_29 (i := 0) rfl rfl ?_
  refine J_iload hx dX5_strengthAt_30 rfl ?_
  refine J_iload_n hx dX5_strengthAt_32 (i := 3) rfl rfl ?_
  refine J_invV (As := [vI ((((A.ch c).getD (j + 1) 0 : Nat) : Int)), vI ((((A.ch c).getD j 0 : Nat) : Int))]) (st := [vI (hold A ((A.ch c).getD j 0) (((A.ch c).getD (j + 1) 0 : Nat) : Int)), vR (r)]) hx lk_X5_73 okX5_holdOf dX5_strengthAt_33 hT.o (by decide) rfl rfl rfl (Nat.le_of_ble_eq_true rfl) (Nat.zero_add _).symm (Nat.zero_add _).symm rfl (c_X5_holdOf hT hN hW (p := (A.ch c).getD (j + 1) 0) (by omega) (b := (((A.ch c).getD j 0 : Nat) : Int)) (by omega) ?_)
  have rg4 := hold_rg hW (p := (A.ch c).getD (j + 1) 0) (by omega) (((A.ch c).getD j 0 : Nat) : Int)
  refine J_iadd (v := hold A ((A.ch c).getD j 0) (((A.ch c).getD (j + 1) 0 : Nat) : Int) + (hold A ((A.ch c).getD (j + 1) 0) (((A.ch c).getD j 0 : Nat) : Int))) hx dX5_strengthAt_36 (w32_id (by omega) (by omega)) ?_
  refine J_iload_n hx dX5_strengthAt_37 (i := 2) rfl rfl ?_
  refine J_if_eq (tgt := 53) hx dX5_strengthAt_38 (by decide) (fun c5 => ?_) (fun c5 => ?_)
  · refine J_iconst (v := 1) hx dX5_strengthAt_53 (by decide) ?_
    refine J_goto (tgt := 58) hx dX5_strengthAt_54 (by decide) ?_
    refine J_invV (As := [vI (hold A ((A.ch c).getD j 0) (((A.ch c).getD (j + 1) 0 : Nat) : Int) + (hold A ((A.ch c).getD (j + 1) 0) (((A.ch c).getD j 0 : Nat) : Int))), vI (1)]) (st := []) hx lk_X5_77 okX5_strengthBy dX5_strengthAt_58 hT.o (by decide) rfl rfl rfl (Nat.le_of_ble_eq_true rfl) (Nat.zero_add _).symm (Nat.zero_add _).symm rfl (c_X5_strengthBy hT hN hW (by omega) (by omega) ?_)
    have rg6 := strb_rg hW (hs := hold A ((A.ch c).getD j 0) (((A.ch c).getD (j + 1) 0 : Nat) : Int) + (hold A ((A.ch c).getD (j + 1) 0) (((A.ch c).getD j 0 : Nat) : Int))) 1 (by omega) (by omega)
    refine J_iret hx hr dX5_strengthAt_61 ?_
    exact Qv hQ (by unfold strl; split <;> first | rfl | omega)
  · refine J_iload_n hx dX5_strengthAt_41 (i := 2) rfl rfl ?_
    refine J_aload_n hx dX5_strengthAt_42 (i := 0) rfl rfl ?_
    refine J_getR (b := r + 10) hx fl_X5_35 cl_X5 dX5_strengthAt_43 hT.o (by decide) rfl hT.r7 ?_
    refine J_iload_n hx dX5_strengthAt_46 (i := 1) rfl rfl ?_
    refine J_iald2 (v := (((A.ch c).length : Nat) : Int)) hx c dX5_strengthAt_47 hT.k10 (by omega) (hT.l10 (by omega)) (hN.sz (by omega)) ?_
    have rg7 := hW.len8 (c := c) (by omega)
    have rg8 := hW.lenN (c := c) (by omega)
    refine J_iconst (v := 2) hx dX5_strengthAt_48 (by decide) ?_
    refine J_isub (v := (((A.ch c).length : Nat) : Int) - 2) hx dX5_strengthAt_49 (w32_id (by omega) (by omega)) ?_
    refine J_icmp_ne (tgt := 57) hx dX5_strengthAt_50 (by decide) (fun c9 => ?_) (fun c9 => ?_)
    · refine J_iconst (v := 0) hx dX5_strengthAt_57 (by decide) ?_
      refine J_invV (As := [vI (hold A ((A.ch c).getD j 0) (((A.ch c).getD (j + 1) 0 : Nat) : Int) + (hold A ((A.ch c).getD (j + 1) 0) (((A.ch c).getD j 0 : Nat) : Int))), vI (0)]) (st := []) hx lk_X5_77 okX5_strengthBy dX5_strengthAt_58 hT.o (by decide) rfl rfl rfl (Nat.le_of_ble_eq_true rfl) (Nat.zero_add _).symm (Nat.zero_add _).symm rfl (c_X5_strengthBy hT hN hW (by omega) (by omega) ?_)
      have rg10 := strb_rg hW (hs := hold A ((A.ch c).getD j 0) (((A.ch c).getD (j + 1) 0 : Nat) : Int) + (hold A ((A.ch c).getD (j + 1) 0) (((A.ch c).getD j 0 : Nat) : Int))) 0 (by omega) (by omega)
      refine J_iret hx hr dX5_strengthAt_61 ?_
      exact Qv hQ (by unfold strl; split <;> first | rfl | omega)
    · refine J_iconst (v := 1) hx dX5_strengthAt_53 (by decide) ?_
      refine J_goto (tgt := 58) hx dX5_strengthAt_54 (by decide) ?_
      refine J_invV (As := [vI (hold A ((A.ch c).getD j 0) (((A.ch c).getD (j + 1) 0 : Nat) : Int) + (hold A ((A.ch c).getD (j + 1) 0) (((A.ch c).getD j 0 : Nat) : Int))), vI (1)]) (st := []) hx lk_X5_77 okX5_strengthBy dX5_strengthAt_58 hT.o (by decide) rfl rfl rfl (Nat.le_of_ble_eq_true rfl) (Nat.zero_add _).symm (Nat.zero_add _).symm rfl (c_X5_strengthBy hT hN hW (by omega) (by omega) ?_)
      have rg11 := strb_rg hW (hs := hold A ((A.ch c).getD j 0) (((A.ch c).getD (j + 1) 0 : Nat) : Int) + (hold A ((A.ch c).getD (j + 1) 0) (((A.ch c).getD j 0 : Nat) : Int))) 1 (by omega) (by omega)
      refine J_iret hx hr dX5_strengthAt_61 ?_
      exact Qv hQ (by unfold strl; split <;> first | rfl | omega)

def oddsY (A : YA) (p j : Nat) : Int := oddsB A (force A p) (strl A (A.ch A.tn) j)
set_option maxHeartbeats 4000000 in
theorem c_X5_oddsAgainst {g : WG} {d : Nat} {T : TT} {M : MM} {r sz : Nat} {A : YA} {Q : MVal → TT → MM → Nat → Prop} (hT : YT T r) (hN : YN M r A) (hW : WFY A) {p : Nat} (hp : p < A.n) {s : Int} (hs : 0 ≤ s ∧ s ≤ 1000) (hQ : Q (vI (oddsB A (force A p) s)) T M sz) : Ct g (d + 2) mX5_oddsAgainst [vR (r), vI (((p : Nat) : Int)), vI (s)] T M sz 0 0 Q := by
  refine Ct_of2 (ls := [vR (r), vI (((p : Nat) : Int)), vI (s), vU]) okX5_oddsAgainst rfl (Nat.le_of_ble_eq_true rfl) rfl ?_
  intro x hx hr hnm
  have hn8 := hW.n8
  refine J_aload_n hx dX5_oddsAgainst_0 (i := 0) rfl rfl ?_
  refine J_iload_n hx dX5_oddsAgainst_1 (i := 1) rfl rfl ?_
  refine J_invV (As := [vI (((p : Nat) : Int))]) (st := []) hx lk_X5_90 okX5_forceOf dX5_oddsAgainst_2 hT.o (by decide) rfl rfl rfl (Nat.le_of_ble_eq_true rfl) (Nat.zero_add _).symm (Nat.zero_add _).symm rfl (c_X5_forceOf hT hN hW (p := p) (by omega) ?_)
  have rg1 := force_rg hW (p := p) (by omega)
  refine J_aload_n hx dX5_oddsAgainst_5 (i := 0) rfl rfl ?_
  refine J_getI2 (v := A.sc 2) hx fl_X5_42 cl_X5 dX5_oddsAgainst_6 hT.o (by decide) rfl hN.s2 ?_
  have rg2 := hW.s2
  refine J_iadd (v := force A p + (A.sc 2)) hx dX5_oddsAgainst_9 (w32_id (by omega) (by omega)) ?_
  refine J_iconst (v := 1) hx dX5_oddsAgainst_10 (by decide) ?_
  refine J_isub (v := force A p + (A.sc 2) - 1) hx dX5_oddsAgainst_11 (w32_id (by omega) (by omega)) ?_
  refine J_iload_n hx dX5_oddsAgainst_12 (i := 2) rfl rfl ?_
  refine J_isub (v := force A p + (A.sc 2) - 1 - s) hx dX5_oddsAgainst_13 (w32_id (by omega) (by omega)) ?_
  refine J_istore_n (lsn := [vR (r), vI (((p : Nat) : Int)), vI (s), vI (force A p + (A.sc 2) - 1 - s)]) hx dX5_oddsAgainst_14 (i := 3) rfl (Nat.le_of_ble_eq_true rfl) rfl rfl ?_
  refine J_iload_n hx dX5_oddsAgainst_15 (i := 3) rfl rfl ?_
  refine J_if_le (tgt := 27) hx dX5_oddsAgainst_16 (by decide) (fun c3 => ?_) (fun c3 => ?_)
  · refine J_iconst (v := 0) hx dX5_oddsAgainst_27 (by decide) ?_
    refine J_iret hx hr dX5_oddsAgainst_28 ?_
    exact Qv hQ (by unfold oddsB; (repeat' split) <;> first | rfl | omega)
  · refine J_aload_n hx dX5_oddsAgainst_19 (i := 0) rfl rfl ?_
    refine J_getI2 (v := A.sc 2) hx fl_X5_42 cl_X5 dX5_oddsAgainst_20 hT.o (by decide) rfl hN.s2 ?_
    have rg4 := hW.s2
    refine J_iconst (v := 1) hx dX5_oddsAgainst_23 (by decide) ?_
    refine J_icmp_ge (tgt := 29) hx dX5_oddsAgainst_24 (by decide) (fun c5 => ?_) (fun c5 => ?_)
    · refine J_iload_n hx dX5_oddsAgainst_29 (i := 3) rfl rfl ?_
      refine J_aload_n hx dX5_oddsAgainst_30 (i := 0) rfl rfl ?_
      refine J_getI2 (v := A.sc 2) hx fl_X5_42 cl_X5 dX5_oddsAgainst_31 hT.o (by decide) rfl hN.s2 ?_
      have rg6 := hW.s2
      refine J_icmp_lt (tgt := 42) hx dX5_oddsAgainst_34 (by decide) (fun c7 => ?_) (fun c7 => ?_)
      · refine J_ldc (v := 1000000) hx ct_X5_94 dX5_oddsAgainst_42 (by decide) ?_
        refine J_iload_n hx dX5_oddsAgainst_44 (i := 3) rfl rfl ?_
        refine J_imul (v := 1000000 * (force A p + (A.sc 2) - 1 - s)) hx dX5_oddsAgainst_45 (w32_id (by omega) (by omega)) ?_
        refine J_aload_n hx dX5_oddsAgainst_46 (i := 0) rfl rfl ?_
        refine J_getI2 (v := A.sc 2) hx fl_X5_42 cl_X5 dX5_oddsAgainst_47 hT.o (by decide) rfl hN.s2 ?_
        have rg8 := hW.s2
        refine J_idiv (v := (1000000 * (force A p + (A.sc 2) - 1 - s)) / (A.sc 2)) hx dX5_oddsAgainst_50 (by omega) (jdiv (by omega) (by omega) (by omega)) ?_
        refine J_iret hx hr dX5_oddsAgainst_51 ?_
        exact Qv hQ (by unfold oddsB; (repeat' split) <;> first | rfl | omega)
      · refine J_ldc (v := 1000000) hx ct_X5_94 dX5_oddsAgainst_37 (by decide) ?_
        refine J_goto (tgt := 51) hx dX5_oddsAgainst_39 (by decide) ?_
        refine J_iret hx hr dX5_oddsAgainst_51 ?_
        exact Qv hQ (by unfold oddsB; (repeat' split) <;> first | rfl | omega)
    · refine J_iconst (v := 0) hx dX5_oddsAgainst_27 (by decide) ?_
      refine J_iret hx hr dX5_oddsAgainst_28 ?_
      exact Qv hQ (by unfold oddsB; (repeat' split) <;> first | rfl | omega)

set_option maxHeartbeats 4000000 in
theorem c_X5_oddsOf {g : WG} {d : Nat} {T : TT} {M : MM} {r sz : Nat} {A : YA} {Q : MVal → TT → MM → Nat → Prop} (hT : YT T r) (hN : YN M r A) (hW : WFY A) {p : Nat} (hp : p < A.n) {j : Nat} (hj : j + 1 < (A.ch A.tn).length) (hQ : Q (vI (oddsY A p j)) T M sz) : Ct g (d + 3) mX5_oddsOf [vR (r), vI (((p : Nat) : Int)), vI (((j : Nat) : Int))] T M sz 0 0 Q := by
  refine Ct_of2 (ls := [vR (r), vI (((p : Nat) : Int)), vI (((j : Nat) : Int))]) okX5_oddsOf rfl (Nat.le_of_ble_eq_true rfl) rfl ?_
  intro x hx hr hnm
  have hn8 := hW.n8
  refine J_aload_n hx dX5_oddsOf_0 (i := 0) rfl rfl ?_
  refine J_iload_n hx dX5_oddsOf_1 (i := 1) rfl rfl ?_
  refine J_aload_n hx dX5_oddsOf_2 (i := 0) rfl rfl ?_
  refine J_aload_n hx dX5_oddsOf_3 (i := 0) rfl rfl ?_
  refine J_getI2 (v := ((A.tn : Nat) : Int)) hx fl_X5_63 cl_X5 dX5_oddsOf_4 hT.o (by decide) rfl (hN.tn hW) ?_
  have rg1 := hW.tn2
  refine J_iload_n hx dX5_oddsOf_7 (i := 2) rfl rfl ?_
  refine J_invV (As := [vI (((A.tn : Nat) : Int)), vI (((j : Nat) : Int))]) (st := [vI (((p : Nat) : Int)), vR (r)]) hx lk_X5_82 okX5_strengthAt dX5_oddsOf_8 hT.o (by decide) rfl rfl rfl (Nat.le_of_ble_eq_true rfl) (Nat.zero_add _).symm (Nat.zero_add _).symm rfl (c_X5_strengthAt hT hN hW (c := A.tn) (by omega) (j := j) (by omega) ?_)
  have rg2 := strl_rg hW (l := A.ch A.tn) (fun p hp => hW.lt (by omega) hp) (j := j) (by omega)
  refine J_invV (As := [vI (((p : Nat) : Int)), vI (strl A (A.ch A.tn) j)]) (st := []) hx lk_X5_95 okX5_oddsAgainst dX5_oddsOf_11 hT.o (by decide) rfl rfl rfl (Nat.le_of_ble_eq_true rfl) (Nat.zero_add _).symm (Nat.zero_add _).symm rfl (c_X5_oddsAgainst hT hN hW (p := p) (by omega) (by omega) ?_)
  have rg3 := oddsB_rg hW (force A p) (strl A (A.ch A.tn) j)
  refine J_iret hx hr dX5_oddsOf_14 ?_
  exact hQ

set_option maxHeartbeats 4000000 in
theorem c_X5_winner {g : WG} {d : Nat} {T : TT} {M : MM} {r sz : Nat} {A : YA} {Q : MVal → TT → MM → Nat → Prop} (hT : YT T r) (hN : YN M r A) (hW : WFY A)  (hQ : ∀ v : Int, ((overY A ∧ v = leadY A) ∨ (¬ overY A ∧ v = -1)) → Q (vI v) T M sz) : Ct g (d + 2) mX5_winner [vR (r)] T M sz 0 0 Q := by
  refine Ct_of2 (ls := [vR (r)]) okX5_winner rfl (Nat.le_of_ble_eq_true rfl) rfl ?_
  intro x hx hr hnm
  refine J_aload_n hx dX5_winner_0 (i := 0) rfl rfl ?_
  refine J_invV (As := []) (st := []) hx lk_X5_108 okX5_isOver dX5_winner_1 hT.o (by decide) rfl rfl rfl (Nat.le_of_ble_eq_true rfl) (Nat.zero_add _).symm (Nat.zero_add _).symm rfl (c_X5_isOver hT hN hW  ?_)
  intro v1 hv1
  refine J_if_eq (tgt := 14) hx dX5_winner_4 (by decide) (fun c2 => ?_) (fun c2 => ?_)
  · refine J_iconst (v := -1) hx dX5_winner_14 (by decide) ?_
    refine J_iret hx hr dX5_winner_15 ?_
    exact hQ _ (by grind)
  · refine J_aload_n hx dX5_winner_7 (i := 0) rfl rfl ?_
    refine J_invV (As := []) (st := []) hx lk_X5_112 okX5_leader dX5_winner_8 hT.o (by decide) rfl rfl rfl (Nat.le_of_ble_eq_true rfl) (Nat.zero_add _).symm (Nat.zero_add _).symm rfl (c_X5_leader hT hN hW ?_)
    refine J_goto (tgt := 15) hx dX5_winner_11 (by decide) ?_
    refine J_iret hx hr dX5_winner_15 ?_
    exact hQ _ (by grind)

set_option maxHeartbeats 4000000 in
theorem c_X5_sideTaken {g : WG} {d : Nat} {T : TT} {M : MM} {r sz : Nat} {A : YA} {Q : MVal → TT → MM → Nat → Prop} (hT : YT T r) (hN : YN M r A) (hW : WFY A) {j : Nat} (hj : j + 1 < (A.ch A.tn).length) (hQ : ∀ v : Int, ((v = 1 ∧ hold A ((A.ch A.tn).getD j 0) (((A.ch A.tn).getD (j + 1) 0 : Nat) : Int) < hold A ((A.ch A.tn).getD (j + 1) 0) (((A.ch A.tn).getD j 0 : Nat) : Int)) ∨ (v = 0 ∧ ¬ hold A ((A.ch A.tn).getD j 0) (((A.ch A.tn).getD (j + 1) 0 : Nat) : Int) < hold A ((A.ch A.tn).getD (j + 1) 0) (((A.ch A.tn).getD j 0 : Nat) : Int))) → Q (vI v) T M sz) : Ct g (d + 2) mX5_sideTaken [vR (r), vI (((j : Nat) : Int))] T M sz 0 0 Q := by
  refine Ct_of2 (ls := [vR (r), vI (((j : Nat) : Int)), vU, vU]) okX5_sideTaken rfl (Nat.le_of_ble_eq_true rfl) rfl ?_
  intro x hx hr hnm
  have hn8 := hW.n8
  have hs5 := hW.tn2
  have hl8 := hW.len8 (c := A.tn) (by omega)
  refine J_aload_n hx dX5_sideTaken_0 (i := 0) rfl rfl ?_
  refine J_getR (b := r + 7) hx fl_X5_32 cl_X5 dX5_sideTaken_1 hT.o (by decide) rfl hT.r6 ?_
  refine J_aload_n hx dX5_sideTaken_4 (i := 0) rfl rfl ?_
  refine J_getI2 (v := ((A.tn : Nat) : Int)) hx fl_X5_63 cl_X5 dX5_sideTaken_5 hT.o (by decide) rfl (hN.tn hW) ?_
  have rg1 := hW.tn2
  refine J_aald (b := r + 8 + A.tn) hx A.tn dX5_sideTaken_8 hT.k7 (by decide) (by omega) (hT.l7 (by omega)) (hT.f7 (by omega)) ?_
  refine J_iload_n hx dX5_sideTaken_9 (i := 1) rfl rfl ?_
  refine J_iald2 (v := (((A.ch A.tn).getD j 0 : Nat) : Int)) hx j dX5_sideTaken_10 (hT.kl (by omega)) (by omega) (hT.ll (by omega) (by omega)) (hN.ln (by omega) (by omega)) ?_
  have rg2 := hW.at (c := A.tn) (k := j) (by omega) (by omega)
  refine J_istore_n (lsn := [vR (r), vI (((j : Nat) : Int)), vI ((((A.ch A.tn).getD j 0 : Nat) : Int)), vU]) hx dX5_sideTaken_11 (i := 2) rfl (Nat.le_of_ble_eq_true rfl) rfl rfl ?_
  refine J_aload_n hx dX5_sideTaken_12 (i := 0) rfl rfl ?_
  refine J_getR (b := r + 7) hx fl_X5_32 cl_X5 dX5_sideTaken_13 hT.o (by decide) rfl hT.r6 ?_
  refine J_aload_n hx dX5_sideTaken_16 (i := 0) rfl rfl ?_
  refine J_getI2 (v := ((A.tn : Nat) : Int)) hx fl_X5_63 cl_X5 dX5_sideTaken_17 hT.o (by decide) rfl (hN.tn hW) ?_
  have rg3 := hW.tn2
  refine J_aald (b := r + 8 + A.tn) hx A.tn dX5_sideTaken_20 hT.k7 (by decide) (by omega) (hT.l7 (by omega)) (hT.f7 (by omega)) ?_
  refine J_iload_n hx dX5_sideTaken_21 (i := 1) rfl rfl ?_
  refine J_iconst (v := 1) hx dX5_sideTaken_22 (by decide) ?_
  refine J_iadd (v := ((j : Nat) : Int) + 1) hx dX5_sideTaken_23 (w32_id (by omega) (by omega)) ?_
  refine J_iald2 (v := (((A.ch A.tn).getD (j + 1) 0 : Nat) : Int)) hx (j + 1) dX5_sideTaken_24 (hT.kl (by omega)) (by omega) (hT.ll (by omega) (by omega)) (hN.ln (by omega) (by omega)) ?_
  have rg4 := hW.at (c := A.tn) (k := j + 1) (by omega) (by omega)
  refine J_istore_n (lsn := [vR (r), vI (((j : Nat) : Int)), vI ((((A.ch A.tn).getD j 0 : Nat) : Int)), vI ((((A.ch A.tn).getD (j + 1) 0 : Nat) : Int))]) hx dX5_sideTaken_25 (i := 3) rfl (Nat.le_of_ble_eq_true rfl) rfl rfl ?_
  refine J_aload_n hx dX5_sideTaken_26 (i := 0) rfl rfl ?_
  refine J_iload_n hx dX5_sideTaken_27 (i := 3) rfl rfl ?_
  refine J_iload_n hx dX5_sideTaken_28 (i := 2) rfl rfl ?_
  refine J_invV (As := [vI ((((A.ch A.tn).getD (j + 1) 0 : Nat) : Int)), vI ((((A.ch A.tn).getD j 0 : Nat) : Int))]) (st := []) hx lk_X5_73 okX5_holdOf dX5_sideTaken_29 hT.o (by decide) rfl rfl rfl (Nat.le_of_ble_eq_true rfl) (Nat.zero_add _).symm (Nat.zero_add _).symm rfl (c_X5_holdOf hT hN hW (p := (A.ch A.tn).getD (j + 1) 0) (by omega) (b := (((A.ch A.tn).getD j 0 : Nat) : Int)) (by omega) ?_)
  have rg5 := hold_rg hW (p := (A.ch A.tn).getD (j + 1) 0) (by omega) (((A.ch A.tn).getD j 0 : Nat) : Int)
  refine J_aload_n hx dX5_sideTaken_32 (i := 0) rfl rfl ?_
  refine J_iload_n hx dX5_sideTaken_33 (i := 2) rfl rfl ?_
  refine J_iload_n hx dX5_sideTaken_34 (i := 3) rfl rfl ?_
  refine J_invV (As := [vI ((((A.ch A.tn).getD j 0 : Nat) : Int)), vI ((((A.ch A.tn).getD (j + 1) 0 : Nat) : Int))]) (st := [vI (hold A ((A.ch A.tn).getD (j + 1) 0) (((A.ch A.tn).getD j 0 : Nat) : Int))]) hx lk_X5_73 okX5_holdOf dX5_sideTaken_35 hT.o (by decide) rfl rfl rfl (Nat.le_of_ble_eq_true rfl) (Nat.zero_add _).symm (Nat.zero_add _).symm rfl (c_X5_holdOf hT hN hW (p := (A.ch A.tn).getD j 0) (by omega) (b := (((A.ch A.tn).getD (j + 1) 0 : Nat) : Int)) (by omega) ?_)
  have rg6 := hold_rg hW (p := (A.ch A.tn).getD j 0) (by omega) (((A.ch A.tn).getD (j + 1) 0 : Nat) : Int)
  refine J_icmp_le (tgt := 45) hx dX5_sideTaken_38 (by decide) (fun c7 => ?_) (fun c7 => ?_)
  · refine J_iconst (v := 0) hx dX5_sideTaken_45 (by decide) ?_
    refine J_iret hx hr dX5_sideTaken_46 ?_
    exact hQ _ (by omega)
  · refine J_iconst (v := 1) hx dX5_sideTaken_41 (by decide) ?_
    refine J_goto (tgt := 46) hx dX5_sideTaken_42 (by decide) ?_
    refine J_iret hx hr dX5_sideTaken_46 ?_
    exact hQ _ (by omega)

set_option maxHeartbeats 4000000 in
theorem c_X5_mayRun {g : WG} {d : Nat} {T : TT} {M : MM} {r sz : Nat} {A : YA} {Q : MVal → TT → MM → Nat → Prop} (hT : YT T r) (hN : YN M r A) (hW : WFY A) {one k : Int} (hQ : ∀ v : Int, ((v = 1 ∧ ¬ overY A ∧ ∃ p j : Nat, one = (p : Int) ∧ p < A.n ∧ A.co p ≠ A.tn ∧ k = (j : Int) ∧ j + 1 < (A.ch A.tn).length) ∨ (v = 0 ∧ ¬ (¬ overY A ∧ ∃ p j : Nat, one = (p : Int) ∧ p < A.n ∧ A.co p ≠ A.tn ∧ k = (j : Int) ∧ j + 1 < (A.ch A.tn).length))) → Q (vI v) T M sz) : Ct g (d + 2) mX5_mayRun [vR (r), vI (one), vI (k)] T M sz 0 0 Q := by
  refine Ct_of2 (ls := [vR (r), vI (one), vI (k)]) okX5_mayRun rfl (Nat.le_of_ble_eq_true rfl) rfl ?_
  intro x hx hr hnm
  have hn8 := hW.n8
  have hs5 := hW.tn2
  refine J_aload_n hx dX5_mayRun_0 (i := 0) rfl rfl ?_
  refine J_invV (As := []) (st := []) hx lk_X5_108 okX5_isOver dX5_mayRun_1 hT.o (by decide) rfl rfl rfl (Nat.le_of_ble_eq_true rfl) (Nat.zero_add _).symm (Nat.zero_add _).symm rfl (c_X5_isOver hT hN hW  ?_)
  intro v1 hv1
  refine J_if_ne (tgt := 39) hx dX5_mayRun_4 (by decide) (fun c2 => ?_) (fun c2 => ?_)
  · refine J_iconst (v := 0) hx dX5_mayRun_39 (by decide) ?_
    refine J_zret hx hr dX5_mayRun_40 (by omega) ?_
    exact hQ _ (by grind)
  · refine J_aload_n hx dX5_mayRun_7 (i := 0) rfl rfl ?_
    refine J_iload_n hx dX5_mayRun_8 (i := 1) rfl rfl ?_
    refine J_invV (As := [vI (one)]) (st := []) hx lk_X5_116 okX5_has dX5_mayRun_9 hT.o (by decide) rfl rfl rfl (Nat.le_of_ble_eq_true rfl) (Nat.zero_add _).symm (Nat.zero_add _).symm rfl (c_X5_has hT hN hW (one := one) ?_)
    intro v3 hv3
    refine J_if_eq (tgt := 39) hx dX5_mayRun_12 (by decide) (fun c4 => ?_) (fun c4 => ?_)
    · refine J_iconst (v := 0) hx dX5_mayRun_39 (by decide) ?_
      refine J_zret hx hr dX5_mayRun_40 (by omega) ?_
      exact hQ _ (by grind)
    · refine J_aload_n hx dX5_mayRun_15 (i := 0) rfl rfl ?_
      refine J_iload_n hx dX5_mayRun_16 (i := 1) rfl rfl ?_
      obtain ⟨o, rfl⟩ : ∃ z : Nat, one = ((z : Nat) : Int) := ⟨one.toNat, by omega⟩
      refine J_invV (As := [vI (((o : Nat) : Int))]) (st := []) hx lk_X5_104 okX5_isCalled dX5_mayRun_17 hT.o (by decide) rfl rfl rfl (Nat.le_of_ble_eq_true rfl) (Nat.zero_add _).symm (Nat.zero_add _).symm rfl (c_X5_isCalled hT hN hW (p := o) (by omega) ?_)
      intro v5 hv5
      refine J_if_eq (tgt := 39) hx dX5_mayRun_20 (by decide) (fun c6 => ?_) (fun c6 => ?_)
      · refine J_iconst (v := 0) hx dX5_mayRun_39 (by decide) ?_
        refine J_zret hx hr dX5_mayRun_40 (by omega) ?_
        exact hQ _ (by grind)
      · refine J_aload_n hx dX5_mayRun_23 (i := 0) rfl rfl ?_
        refine J_aload_n hx dX5_mayRun_24 (i := 0) rfl rfl ?_
        refine J_getI2 (v := ((A.tn : Nat) : Int)) hx fl_X5_63 cl_X5 dX5_mayRun_25 hT.o (by decide) rfl (hN.tn hW) ?_
        have rg7 := hW.tn2
        refine J_iload_n hx dX5_mayRun_28 (i := 2) rfl rfl ?_
        refine J_invV (As := [vI (((A.tn : Nat) : Int)), vI (k)]) (st := []) hx lk_X5_119 okX5_hasJoint dX5_mayRun_29 hT.o (by decide) rfl rfl rfl (Nat.le_of_ble_eq_true rfl) (Nat.zero_add _).symm (Nat.zero_add _).symm rfl (c_X5_hasJoint hT hN hW (c := A.tn) (by omega) (k := k) ?_)
        intro v8 hv8
        refine J_if_eq (tgt := 39) hx dX5_mayRun_32 (by decide) (fun c9 => ?_) (fun c9 => ?_)
        · refine J_iconst (v := 0) hx dX5_mayRun_39 (by decide) ?_
          refine J_zret hx hr dX5_mayRun_40 (by omega) ?_
          exact hQ _ (by grind)
        · refine J_iconst (v := 1) hx dX5_mayRun_35 (by decide) ?_
          refine J_goto (tgt := 40) hx dX5_mayRun_36 (by decide) ?_
          refine J_zret hx hr dX5_mayRun_40 (by omega) ?_
          exact hQ 1 (Or.inl ⟨rfl, by grind, o, k.toNat, rfl, by omega, by omega, by omega, by omega⟩)

set_option maxHeartbeats 4000000 in
theorem c_X5_canEnd {g : WG} {d : Nat} {T : TT} {M : MM} {r sz : Nat} {A : YA} {Q : MVal → TT → MM → Nat → Prop} (hT : YT T r) (hN : YN M r A) (hW : WFY A) {p : Nat} (hp : p < A.n) {j : Nat} (hj : j + 1 < (A.ch A.tn).length) {e : Int} (hQ : ∀ v : Int, ((v = 1 ∧ ((e = 0 ∧ oddsY A p j < 1000000) ∨ (e ≠ 0 ∧ 0 < oddsY A p j))) ∨ (v = 0 ∧ ¬ ((e = 0 ∧ oddsY A p j < 1000000) ∨ (e ≠ 0 ∧ 0 < oddsY A p j)))) → Q (vI v) T M sz) : Ct g (d + 3) mX5_canEnd [vR (r), vI (((p : Nat) : Int)), vI (((j : Nat) : Int)), vI (e)] T M sz 0 0 Q := by
  refine Ct_of2 (ls := [vR (r), vI (((p : Nat) : Int)), vI (((j : Nat) : Int)), vI (e), vU]) okX5_canEnd rfl (Nat.le_of_ble_eq_true rfl) rfl ?_
  intro x hx hr hnm
  have hn8 := hW.n8
  have hs5 := hW.tn2
  refine J_aload_n hx dX5_canEnd_0 (i := 0) rfl rfl ?_
  refine J_iload_n hx dX5_canEnd_1 (i := 1) rfl rfl ?_
  refine J_aload_n hx dX5_canEnd_2 (i := 0) rfl rfl ?_
  refine J_aload_n hx dX5_canEnd_3 (i := 0) rfl rfl ?_
  refine J_getI2 (v := ((A.tn : Nat) : Int)) hx fl_X5_63 cl_X5 dX5_canEnd_4 hT.o (by decide) rfl (hN.tn hW) ?_
  have rg1 := hW.tn2
  refine J_iload_n hx dX5_canEnd_7 (i := 2) rfl rfl ?_
  refine J_invV (As := [vI (((A.tn : Nat) : Int)), vI (((j : Nat) : Int))]) (st := [vI (((p : Nat) : Int)), vR (r)]) hx lk_X5_82 okX5_strengthAt dX5_canEnd_8 hT.o (by decide) rfl rfl rfl (Nat.le_of_ble_eq_true rfl) (Nat.zero_add _).symm (Nat.zero_add _).symm rfl (c_X5_strengthAt hT hN hW (c := A.tn) (by omega) (j := j) (by omega) ?_)
  have rg2 := strl_rg hW (l := A.ch A.tn) (fun p hp => hW.lt (by omega) hp) (j := j) (by omega)
  refine J_invV (As := [vI (((p : Nat) : Int)), vI (strl A (A.ch A.tn) j)]) (st := []) hx lk_X5_95 okX5_oddsAgainst dX5_canEnd_11 hT.o (by decide) rfl rfl rfl (Nat.le_of_ble_eq_true rfl) (Nat.zero_add _).symm (Nat.zero_add _).symm rfl (c_X5_oddsAgainst hT hN hW (p := p) (by omega) (by omega) ?_)
  have rg3 := oddsB_rg hW (force A p) (strl A (A.ch A.tn) j)
  refine J_istore (lsn := [vR (r), vI (((p : Nat) : Int)), vI (((j : Nat) : Int)), vI (e), vI (oddsB A (force A p) (strl A (A.ch A.tn) j))]) hx dX5_canEnd_14 (Nat.le_of_ble_eq_true rfl) rfl rfl ?_
  refine J_iload_n hx dX5_canEnd_16 (i := 3) rfl rfl ?_
  refine J_if_ne (tgt := 35) hx dX5_canEnd_17 (by decide) (fun c4 => ?_) (fun c4 => ?_)
  · refine J_iload hx dX5_canEnd_35 rfl ?_
    refine J_if_le (tgt := 44) hx dX5_canEnd_37 (by decide) (fun c5 => ?_) (fun c5 => ?_)
    · refine J_iconst (v := 0) hx dX5_canEnd_44 (by decide) ?_
      refine J_zret hx hr dX5_canEnd_45 (by omega) ?_
      exact hQ _ (by unfold oddsY; omega)
    · refine J_iconst (v := 1) hx dX5_canEnd_40 (by decide) ?_
      refine J_goto (tgt := 45) hx dX5_canEnd_41 (by decide) ?_
      refine J_zret hx hr dX5_canEnd_45 (by omega) ?_
      exact hQ _ (by unfold oddsY; omega)
  · refine J_iload hx dX5_canEnd_20 rfl ?_
    refine J_ldc (v := 1000000) hx ct_X5_94 dX5_canEnd_22 (by decide) ?_
    refine J_icmp_ge (tgt := 31) hx dX5_canEnd_24 (by decide) (fun c6 => ?_) (fun c6 => ?_)
    · refine J_iconst (v := 0) hx dX5_canEnd_31 (by decide) ?_
      refine J_goto (tgt := 45) hx dX5_canEnd_32 (by decide) ?_
      refine J_zret hx hr dX5_canEnd_45 (by omega) ?_
      exact hQ _ (by unfold oddsY; omega)
    · refine J_iconst (v := 1) hx dX5_canEnd_27 (by decide) ?_
      refine J_goto (tgt := 45) hx dX5_canEnd_28 (by decide) ?_
      refine J_zret hx hr dX5_canEnd_45 (by omega) ?_
      exact hQ _ (by unfold oddsY; omega)
