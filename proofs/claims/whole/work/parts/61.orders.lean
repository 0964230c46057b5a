abbrev SG : Type := Int × List Nat
def srL (f : Nat → SG → SG) : Nat → SG → SG
  | 0, σ => σ
  | i + 1, σ => f i (srL f i σ)
def updS (A : YA) (l : List Nat) (σ : SG) : SG := if σ.1 < leastS A l then (leastS A l, l) else σ
/-- all orders that begin so, by rows of numbers; the first of the best stays -/
def srch (A : YA) (c : Nat) : Nat → List Nat → SG → SG
  | 0, pre, σ => updS A pre σ
  | k + 1, pre, σ => srL (fun p τ => if p ∉ pre ∧ A.co p = c then srch A c k (pre ++ [p]) τ else τ) A.n σ
def srF (A : YA) (c k : Nat) (pre : List Nat) (p : Nat) (τ : SG) : SG := if p ∉ pre ∧ A.co p = c then srch A c k (pre ++ [p]) τ else τ
theorem srF_y {A : YA} {c k p : Nat} {pre : List Nat} {τ : SG} (h : p ∉ pre ∧ A.co p = c) : srF A c k pre p τ = srch A c k (pre ++ [p]) τ := if_pos h
theorem srF_n {A : YA} {c k p : Nat} {pre : List Nat} {τ : SG} (h : ¬ (p ∉ pre ∧ A.co p = c)) : srF A c k pre p τ = τ := if_neg h
theorem srch_s (A : YA) (c k : Nat) (pre : List Nat) (σ : SG) : srch A c (k + 1) pre σ = srL (srF A c k pre) A.n σ := rfl
def stdY (A : YA) (c : Nat) : SG := if (A.ch c).length < 2 then (0, A.ch c) else srch A c (A.ch c).length [] (-1, A.ch c)
def inC (A : YA) (c : Nat) (pre : List Nat) : Prop := pre.Nodup ∧ ∀ q, q ∈ pre → q < A.n ∧ A.co q = c
theorem inC_app {A : YA} {c p : Nat} {pre : List Nat} (h : inC A c pre) (hp : p < A.n) (h1 : p ∉ pre) (h2 : A.co p = c) : inC A c (pre ++ [p]) := by
  refine ⟨List.nodup_append.mpr ⟨h.1, List.nodup_cons.mpr ⟨List.not_mem_nil, List.nodup_nil⟩, fun a ha b hb e => ?_⟩, fun q hq => ?_⟩
  · rw [List.mem_singleton.mp hb] at e; exact h1 (e ▸ ha)
  · rcases List.mem_append.mp hq with hq | hq
    · exact h.2 q hq
    · rw [List.mem_singleton.mp hq]; exact ⟨hp, h2⟩
theorem inC_perm {A : YA} (hW : WFY A) {c : Nat} {pre : List Nat} (h : inC A c pre) (hl : pre.length = (A.ch c).length) : pre.Perm (A.ch c) :=
  nodup_perm h.1 (fun q hq => by have h1 := h.2 q hq; have h2 := hW.mco h1.1; rw [h1.2] at h2; exact h2) hl
def okG (A : YA) (c : Nat) (σ : SG) : Prop := σ.2.Perm (A.ch c) ∧ -1 ≤ σ.1 ∧ σ.1 ≤ 71
theorem srL_ok {A : YA} {c : Nat} {f : Nat → SG → SG} (hf : ∀ p τ, p < A.n → okG A c τ → okG A c (f p τ) ∧ τ.1 ≤ (f p τ).1) : ∀ (i : Nat) (σ : SG), i ≤ A.n → okG A c σ → okG A c (srL f i σ) ∧ σ.1 ≤ (srL f i σ).1
  | 0, σ, _, h => ⟨h, Int.le_refl _⟩
  | i + 1, σ, hi, h => by
    have ih := srL_ok hf i σ (by omega) h
    have h2 := hf i (srL f i σ) (by omega) ih.1
    exact ⟨h2.1, Int.le_trans ih.2 h2.2⟩
theorem srch_ok {A : YA} (hW : WFY A) {c : Nat} (hc : c < 2) : ∀ (k : Nat) (pre : List Nat) (σ : SG), inC A c pre → pre.length + k = (A.ch c).length → okG A c σ → okG A c (srch A c k pre σ) ∧ σ.1 ≤ (srch A c k pre σ).1
  | 0, pre, σ, hp, hk, h => by
    show okG A c (updS A pre σ) ∧ σ.1 ≤ (updS A pre σ).1
    unfold updS
    have hr := leastS_rg hW (l := pre) (fun q hq => (hp.2 q hq).1)
    split
    · exact ⟨⟨inC_perm hW hp hk, by show -1 ≤ leastS A pre; omega, hr.2⟩, by show σ.1 ≤ leastS A pre; omega⟩
    · exact ⟨h, Int.le_refl _⟩
  | k + 1, pre, σ, hp, hk, h => by
    rw [srch_s]
    refine srL_ok (fun p τ hpn hτ => ?_) A.n σ (Nat.le_refl _) h
    unfold srF
    split
    · rename_i e
      exact srch_ok hW hc k (pre ++ [p]) τ (inC_app hp hpn e.1 e.2) (by rw [List.length_append, List.length_singleton]; omega) hτ
    · exact ⟨hτ, Int.le_refl _⟩
theorem srF_ok {A : YA} (hW : WFY A) {c : Nat} (hc : c < 2) {k : Nat} {pre : List Nat} (hp : inC A c pre) (hk : pre.length + (k + 1) = (A.ch c).length) (p : Nat) (τ : SG) (hpn : p < A.n) (hτ : okG A c τ) : okG A c (srF A c k pre p τ) ∧ τ.1 ≤ (srF A c k pre p τ).1 := by
  unfold srF
  split
  · rename_i e
    exact srch_ok hW hc k (pre ++ [p]) τ (inC_app hp hpn e.1 e.2) (by rw [List.length_append, List.length_singleton]; omega) hτ
  · exact ⟨hτ, Int.le_refl _⟩
theorem sub_len : ∀ {l1 l2 : List Nat}, l1.Nodup → (∀ q, q ∈ l1 → q ∈ l2) → l1.length ≤ l2.length
  | [], _, _, _ => Nat.zero_le _
  | a :: l1, l2, hn, hs => by
    obtain ⟨h1, h2⟩ := List.nodup_cons.mp hn
    have hp : l2.Perm (a :: l2.erase a) := List.perm_cons_erase (hs a List.mem_cons_self)
    have hl2 : (l2.erase a).length + 1 = l2.length := by rw [hp.length_eq]; rfl
    have := sub_len h2 (l2 := l2.erase a) (fun q hq => by
      have hm : q ∈ a :: l2.erase a := hp.mem_iff.mp (hs q (List.mem_cons_of_mem _ hq))
      exact (List.mem_cons.mp hm).resolve_left (fun e => h1 (e ▸ hq)))
    show l1.length + 1 ≤ l2.length
    omega
theorem one_left {A : YA} (hW : WFY A) {c : Nat} (hc : c < 2) {pre : List Nat} (hl : pre.length < (A.ch c).length) : ∃ p, p < A.n ∧ p ∉ pre ∧ A.co p = c := by
  apply Classical.byContradiction
  intro h
  have := sub_len (l1 := A.ch c) (l2 := pre) (hW.2.2.2.1 c hc) (fun q hq => Classical.byContradiction fun z => h ⟨q, hW.lt hc hq, z, hW.co hc hq⟩)
  omega
theorem srL_ge {A : YA} {c : Nat} {f : Nat → SG → SG} (hf : ∀ p τ, p < A.n → okG A c τ → okG A c (f p τ) ∧ τ.1 ≤ (f p τ).1) {p : Nat} (h0 : ∀ τ, okG A c τ → 0 ≤ (f p τ).1) : ∀ (i : Nat) (σ : SG), p < i → i ≤ A.n → okG A c σ → 0 ≤ (srL f i σ).1
  | 0, σ, h, _, _ => absurd h (Nat.not_lt_zero p)
  | i + 1, σ, h, hi, hσ => by
    have h1 := (srL_ok hf i σ (by omega) hσ).1
    by_cases e : p = i
    · subst e; exact h0 _ h1
    · have ih := srL_ge hf h0 i σ (by omega) (by omega) hσ
      exact Int.le_trans ih (hf i _ (by omega) h1).2
theorem srch_ge {A : YA} (hW : WFY A) {c : Nat} (hc : c < 2) : ∀ (k : Nat) (pre : List Nat) (σ : SG), inC A c pre → pre.length + k = (A.ch c).length → okG A c σ → 0 ≤ (srch A c k pre σ).1
  | 0, pre, σ, hp, hk, h => by
    show 0 ≤ (updS A pre σ).1
    unfold updS
    have hr := leastS_rg hW (l := pre) (fun q hq => (hp.2 q hq).1)
    split
    · exact hr.1
    · omega
  | k + 1, pre, σ, hp, hk, h => by
    rw [srch_s]
    obtain ⟨p, p1, p2, p3⟩ := one_left hW hc (pre := pre) (by omega)
    refine srL_ge (fun p τ hpn hτ => srF_ok hW hc hp hk p τ hpn hτ) (p := p) (fun τ hτ => ?_) A.n σ p1 (Nat.le_refl _) h
    unfold srF
    rw [if_pos ⟨p2, p3⟩]
    exact srch_ge hW hc k (pre ++ [p]) τ (inC_app hp p1 p2 p3) (by rw [List.length_append, List.length_singleton]; omega) hτ
theorem stdY_ok {A : YA} (hW : WFY A) {c : Nat} (hc : c < 2) : (stdY A c).2.Perm (A.ch c) ∧ 0 ≤ (stdY A c).1 ∧ (stdY A c).1 ≤ 71 := by
  unfold stdY
  split
  · exact ⟨List.Perm.refl _, Int.le_refl _, by show (0 : Int) ≤ 71; decide⟩
  · have h0 : okG A c (-1, A.ch c) := ⟨List.Perm.refl _, Int.le_refl _, by show (-1 : Int) ≤ 71; decide⟩
    have h1 : inC A c [] := ⟨List.nodup_nil, fun q hq => by cases hq⟩
    have h2 := srch_ok hW hc (A.ch c).length [] _ h1 (by simp) h0
    have h3 := srch_ge hW hc (A.ch c).length [] _ h1 (by simp) h0
    exact ⟨h2.1.1, h3, h2.1.2.2⟩
/-! the class prunes -/
def strn (A : YA) (n : Nat) (l : List Nat) (j : Nat) : Int := strb A (hold A (l.getD j 0) (((l.getD (j + 1) 0 : Nat)) : Int) + hold A (l.getD (j + 1) 0) (((l.getD j 0 : Nat)) : Int)) (if j = 0 ∨ j + 2 = n then 1 else 0)
def pmn (A : YA) (n : Nat) (l : List Nat) : Nat → Int
  | 0 => 1000000000
  | j + 1 => if strn A n l j < pmn A n l j then strn A n l j else pmn A n l j
theorem pmn_s (A : YA) (n : Nat) (l : List Nat) (j : Nat) : pmn A n l (j + 1) = if strn A n l j < pmn A n l j then strn A n l j else pmn A n l j := rfl
theorem pmn_min {A : YA} (hW : WFY A) {l : List Nat} (hl : ∀ q, q ∈ l → q < A.n) : ∀ j, j + 1 < l.length → pmn A l.length l (j + 1) = minS A l j
  | 0, h => by
    have hr := strl_rg hW hl (j := 0) h
    have e : strn A l.length l 0 = strl A l 0 := rfl
    rw [pmn_s, e]
    show (if strl A l 0 < 1000000000 then strl A l 0 else 1000000000) = strl A l 0
    rw [if_pos (by omega)]
  | j + 1, h => by
    have ih := pmn_min hW hl j (by omega)
    have e : strn A l.length l (j + 1) = strl A l (j + 1) := rfl
    rw [pmn_s, ih, e]
    rfl
theorem pmn_least {A : YA} (hW : WFY A) {l : List Nat} (hl : ∀ q, q ∈ l → q < A.n) (h2 : 2 ≤ l.length) : pmn A l.length l (l.length - 1) = leastS A l := by
  have := pmn_min hW hl (l.length - 2) (by omega)
  rw [show l.length - 2 + 1 = l.length - 1 by omega] at this
  unfold leastS
  rw [this, if_neg (by omega)]
theorem pmn_pre {A : YA} {n p : Nat} {pre : List Nat} : ∀ j, j + 1 ≤ pre.length → pmn A n (pre ++ [p]) j = pmn A n pre j
  | 0, _ => rfl
  | j + 1, h => by
    have ih := pmn_pre (A := A) (n := n) (p := p) (pre := pre) j (by omega)
    have e : strn A n (pre ++ [p]) j = strn A n pre j := by
      unfold strn
      rw [getD_app (by omega), getD_app (by omega), if_neg (by omega), if_neg (by omega)]
    rw [pmn_s, pmn_s, ih, e]
theorem pmn_app {A : YA} {n p : Nat} {pre : List Nat} (h : 1 ≤ pre.length) : pmn A n (pre ++ [p]) ((pre ++ [p]).length - 1) = if strn A n (pre ++ [p]) (pre.length - 1) < pmn A n pre (pre.length - 1) then strn A n (pre ++ [p]) (pre.length - 1) else pmn A n pre (pre.length - 1) := by
  rw [List.length_append, List.length_singleton, Nat.add_sub_cancel]
  have : pmn A n (pre ++ [p]) pre.length = pmn A n (pre ++ [p]) (pre.length - 1 + 1) := by rw [Nat.sub_add_cancel h]
  rw [this, pmn_s, pmn_pre _ (by omega)]
theorem srL_id {f : Nat → SG → SG} {σ : SG} (h : ∀ p, f p σ = σ) : ∀ i, srL f i σ = σ
  | 0 => rfl
  | i + 1 => by show f i (srL f i σ) = σ; rw [srL_id h i]; exact h i
theorem srch_pr {A : YA} (hW : WFY A) {c : Nat} : ∀ (k : Nat) (pre : List Nat) (σ : SG), inC A c pre → pre.length + k = (A.ch c).length → 2 ≤ (A.ch c).length → 1 ≤ pre.length → pmn A (A.ch c).length pre (pre.length - 1) ≤ σ.1 → (∀ q, q < A.n ∨ A.n ≤ q) → srch A c k pre σ = σ
  | 0, pre, σ, hp, hk, h2, h1, hm, _ => by
    show updS A pre σ = σ
    unfold updS
    have e : pre.length = (A.ch c).length := by omega
    have h9 := pmn_least hW (l := pre) (fun q hq => (hp.2 q hq).1) (by omega)
    rw [← e, h9] at hm
    rw [if_neg (by omega)]
  | k + 1, pre, σ, hp, hk, h2, h1, hm, _ => by
    rw [srch_s]
    have hg : ∀ i, i ≤ A.n → srL (srF A c k pre) i σ = σ := by
      intro i
      induction i with
      | zero => intro _; rfl
      | succ i ih =>
        intro hi
        show srF A c k pre i (srL (srF A c k pre) i σ) = σ
        rw [ih (by omega)]
        unfold srF
        split
        · rename_i e
          refine srch_pr hW k (pre ++ [i]) σ (inC_app hp (by omega) e.1 e.2) (by rw [List.length_append, List.length_singleton]; omega) h2 (by rw [List.length_append, List.length_singleton]; omega) ?_ (fun q => by omega)
          rw [pmn_app h1]
          split <;> omega
        · rfl
    exact hg A.n (Nat.le_refl _)
theorem CT.up59 {T : TT} {o : Nat} {v : Option Nat} (h : CT T o) : CT (upT T (o + 59) 3 v) o := ⟨by rw [upT_ne (by omega)]; exact h.o, by rw [upT_ne (by omega)]; exact h.r0, by rw [upT_ne (by omega)]; exact h.r1, by rw [upT_ne (by omega)]; exact h.r2, by rw [upT_ne (by omega)]; exact h.r3, by rw [upT_ne (by omega)]; exact h.r4, by rw [upT_ne (by omega)]; exact h.r5, by rw [upT_ne (by omega)]; exact h.r6, by rw [upT_ne (by omega)]; exact h.r7, by rw [upT_ne (by omega)]; exact h.r8, h.y0.mono (fun a h1 h2 => upT_ne (by omega)), h.y1.mono (fun a h1 h2 => upT_ne (by omega)), h.y2.mono (fun a h1 h2 => upT_ne (by omega)), h.y3.mono (fun a h1 h2 => upT_ne (by omega)), h.y4.mono (fun a h1 h2 => upT_ne (by omega)), by rw [upT_ne (by omega)]; exact h.k34, by rw [upT_ne (by omega)]; exact h.p0, by rw [upT_ne (by omega)]; exact h.k35, by rw [upT_ne (by omega)]; exact h.g0, by rw [upT_ne (by omega)]; exact h.k36, by rw [upT_ne (by omega)]; exact h.n36, by rw [upT_ne (by omega)]; exact h.q0, by rw [upT_ne (by omega)]; exact h.q1, by rw [upT_ne (by omega)]; exact h.q2, by rw [upT_k]; exact h.k59, by rw [upT_r_ne (Or.inr (by decide))]; exact h.f0, by rw [upT_r_ne (Or.inr (by decide))]; exact h.f1, by rw [upT_r_ne (Or.inr (by decide))]; exact h.f2, by rw [upT_ne (by omega)]; exact h.k60, by rw [upT_ne (by omega)]; exact h.n60, by rw [upT_ne (by omega)]; exact h.k61, by rw [upT_ne (by omega)]; exact h.n61, by rw [upT_ne (by omega)]; exact h.k62, by rw [upT_ne (by omega)]; exact h.n62, by rw [upT_ne (by omega)]; exact h.k63, by rw [upT_ne (by omega)]; exact h.t0, by rw [upT_ne (by omega)]; exact h.k64, by rw [upT_ne (by omega)]; exact h.n64, by rw [upT_ne (by omega)]; exact h.k65, by rw [upT_ne (by omega)]; exact h.n65, fun s hs => by rw [upT_ne (by omega), upT_ne (by omega), upT_ne (by omega)]; exact h.sh s hs, by rw [upT_ne (by omega)]; exact h.k66, by rw [upT_ne (by omega)]; exact h.n66⟩
def plI (pre : List Nat) (i : Nat) : Int := if i ∈ pre then 1 else 0
theorem plI_rg (pre : List Nat) (i : Nat) : (plI pre i = 1 ∧ i ∈ pre) ∨ (plI pre i = 0 ∧ i ∉ pre) := by
  unfold plI
  by_cases h : i ∈ pre
  · rw [if_pos h]; exact Or.inl ⟨rfl, h⟩
  · rw [if_neg h]; exact Or.inr ⟨rfl, h⟩
theorem plI_app (pre : List Nat) {p q : Nat} : plI (pre ++ [p]) q = if q = p then 1 else plI pre q := by
  unfold plI
  by_cases e : q = p
  · rw [if_pos e, if_pos (by rw [List.mem_append, List.mem_singleton]; exact Or.inr e)]
  · rw [if_neg e]
    by_cases h : q ∈ pre
    · rw [if_pos h, if_pos (List.mem_append.mpr (Or.inl h))]
    · rw [if_neg h, if_neg (fun z => (List.mem_append.mp z).elim h (fun w => e (List.mem_singleton.mp w)))]
/-- the class's search: what its rows hold -/
def ORn (M : MM) (o c n : Nat) (pre : List Nat) (σ : SG) : Prop := M (o + 59) 4 = ((c : Nat) : Int) ∧ M (o + 59) 5 = σ.1 ∧ (∀ j, j < pre.length → M (o + 61) j = ((pre.getD j 0 : Nat) : Int)) ∧ (∀ q, q < 8 → M (o + 62) q = plI pre q) ∧ ∀ j, j < n → M (o + 60) j = ((σ.2.getD j 0 : Nat) : Int)
def FrO (o : Nat) (M M' : MM) : Prop := ∀ a, ¬ (o + 59 ≤ a ∧ a ≤ o + 62) → M' a = M a
theorem FrO.tr {o : Nat} {M M1 M2 : MM} (h : FrO o M M1) (h2 : FrO o M1 M2) : FrO o M M2 := fun a ha => (h2 a ha).trans (h a ha)
def FFc (g : WG) (d k o c sz : Nat) (T : TT) (A : YA) : Prop := ∀ (M : MM) (pre : List Nat) (σ : SG) (Q : MVal → TT → MM → Nat → Prop), YN M (o + 1) A → ORn M o c (A.ch c).length pre σ → inC A c pre → okG A c σ → pre.length + k = (A.ch c).length → σ.1 < pmn A (A.ch c).length pre (pre.length - 1) → (∀ M', ORn M' o c (A.ch c).length pre (srch A c k pre σ) → FrO o M M' → Q vU T M' sz) → Ct g d mX1_fillFrom [vR (o + 59), vI ((pre.length : Nat) : Int), vI (pmn A (A.ch c).length pre (pre.length - 1))] T M sz 0 0 Q
def a_stand (S : ST) (c i : Int) : Int × ST := if ¬ ((c = 0 ∨ c = 1) ∧ (i = -1 ∨ (0 ≤ i ∧ i < (S.1.ch c.toNat).length))) then rA S 0 else if 7 < (S.1.ch c.toNat).length then rA S 4 else if i = -1 then ((stdY S.1 c.toNat).1, S) else ((((stdY S.1 c.toNat).2.getD i.toNat 0 : Nat) : Int), S)
def a_worth (S : ST) (c : Int) : Int × ST := if ¬ (c = 0 ∨ c = 1) then rA S 0 else if 7 < (S.1.ch c.toNat).length then rA S 4 else ((stdY S.1 c.toNat).1 - leastS S.1 (S.1.ch c.toNat), S)
def a_best (S : ST) (c : Int) : Int × ST := if ¬ (c = 0 ∨ c = 1) then rA S 0 else if 7 < (S.1.ch c.toNat).length then rA S 4 else ((stdY S.1 c.toNat).1, yS S (S.1.setC c.toNat (stdY S.1 c.toNat).2))
set_option maxHeartbeats 4000000 in
theorem c_X1_strengthBehind {g : WG} {d : Nat} {T : TT} {o sz c : Nat} {A : YA} (hC : CT T o) (hy3 : (T (o + 59)).2.2 3 = some (o + 1)) (hWA : WFY A) (hc : c < 2) {M : MM} {pre : List Nat} {i : Nat} {Q : MVal → TT → MM → Nat → Prop} (hY : YN M (o + 1) A) (hO : M (o + 59) 4 = ((c : Nat) : Int) ∧ True) (hst : ∀ j, j < pre.length → M (o + 61) j = ((pre.getD j 0 : Nat) : Int)) (hp1 : 1 ≤ pre.length) (hpl : pre.length < (A.ch c).length) (hlt : ∀ q, q ∈ pre → q < A.n) (hi : i < A.n) (hQ : Q (vI (strn A (A.ch c).length (pre ++ [i]) (pre.length - 1))) T M sz) : Ct g (d + 2) mX1_strengthBehind [vR (o + 59), vI (((pre.length : Nat) : Int)), vI (((i : Nat) : Int))] T M sz 0 0 Q := by
  refine Ct_of2 (ls := [vR (o + 59), vI (((pre.length : Nat) : Int)), vI (((i : Nat) : Int)), vU, vU]) okX1_strengthBehind rfl (Nat.le_of_ble_eq_true rfl) rfl ?_
  intro x hx hr hnm
  have hn8 := hWA.n8
  have hl8 := hWA.len8 hc
  have hlN := hWA.lenN hc
  have hlq := hlt _ (getD_mem (l := pre) (k := pre.length - 1) (by omega))
  refine J_aload_n hx dX1_strengthBehind_0 (i := 0) rfl rfl ?_
  refine J_getR (b := o + 61) hx fl_X1_15 cl_X1 dX1_strengthBehind_1 hC.k59 (by decide) rfl hC.f1 ?_
  refine J_iload_n hx dX1_strengthBehind_4 (i := 1) rfl rfl ?_
  refine J_iconst (v := 1) hx dX1_strengthBehind_5 (by decide) ?_
  refine J_isub (v := ((pre.length - 1 : Nat) : Int)) hx dX1_strengthBehind_6 (by rw [w32_id (by omega) (by omega)]; omega) ?_
  refine J_iald2 (v := ((pre.getD (pre.length - 1) 0 : Nat) : Int)) hx (pre.length - 1) dX1_strengthBehind_7 hC.k61 (by omega) (by rw [hC.n61]; omega) (hst _ (by omega)) ?_
  refine J_istore_n (lsn := [vR (o + 59), vI (((pre.length : Nat) : Int)), vI (((i : Nat) : Int)), vI (((pre.getD (pre.length - 1) 0 : Nat) : Int)), vU]) hx dX1_strengthBehind_8 (i := 3) rfl (Nat.le_of_ble_eq_true rfl) rfl rfl ?_
  refine J_iload_n hx dX1_strengthBehind_9 (i := 1) rfl rfl ?_
  refine J_iconst (v := 1) hx dX1_strengthBehind_10 (by decide) ?_
  refine J_icmp_eq (tgt := 32) hx dX1_strengthBehind_11 (by decide) (fun c1 => ?_) (fun c1 => ?_)
  · refine J_iconst (v := 1) hx dX1_strengthBehind_32 (by decide) ?_
    refine J_goto (tgt := 37) hx dX1_strengthBehind_33 (by decide) ?_
    refine J_istore (lsn := [vR (o + 59), vI (((pre.length : Nat) : Int)), vI (((i : Nat) : Int)), vI (((pre.getD (pre.length - 1) 0 : Nat) : Int)), vI (1)]) hx dX1_strengthBehind_37 (Nat.le_of_ble_eq_true rfl) rfl rfl ?_
    refine J_aload_n hx dX1_strengthBehind_39 (i := 0) rfl rfl ?_
    refine J_getR (b := o + 1) hx fl_X1_37 cl_X1 dX1_strengthBehind_40 hC.k59 (by decide) rfl hy3 ?_
    refine J_aload_n hx dX1_strengthBehind_43 (i := 0) rfl rfl ?_
    refine J_getR (b := o + 1) hx fl_X1_37 cl_X1 dX1_strengthBehind_44 hC.k59 (by decide) rfl hy3 ?_
    refine J_iload_n hx dX1_strengthBehind_47 (i := 3) rfl rfl ?_
    refine J_iload_n hx dX1_strengthBehind_48 (i := 2) rfl rfl ?_
    refine J_invV (As := [vI (((pre.getD (pre.length - 1) 0 : Nat) : Int)), vI (((i : Nat) : Int))]) (st := [vR (o + 1)]) hx lk_X1_68 okX5_holdOf dX1_strengthBehind_49 hC.y0.o (by decide) rfl rfl rfl (Nat.le_of_ble_eq_true rfl) (Nat.zero_add _).symm (Nat.zero_add _).symm rfl (c_X5_holdOf hC.y0 hY hWA (p := pre.getD (pre.length - 1) 0) (by omega) (b := ((i : Nat) : Int)) (by omega) ?_)
    have rg2 := hold_rg hWA (p := pre.getD (pre.length - 1) 0) (by omega) ((i : Nat) : Int)
    refine J_aload_n hx dX1_strengthBehind_52 (i := 0) rfl rfl ?_
    refine J_getR (b := o + 1) hx fl_X1_37 cl_X1 dX1_strengthBehind_53 hC.k59 (by decide) rfl hy3 ?_
    refine J_iload_n hx dX1_strengthBehind_56 (i := 2) rfl rfl ?_
    refine J_iload_n hx dX1_strengthBehind_57 (i := 3) rfl rfl ?_
    refine J_invV (As := [vI (((i : Nat) : Int)), vI (((pre.getD (pre.length - 1) 0 : Nat) : Int))]) (st := [vI (hold A (pre.getD (pre.length - 1) 0) ((i : Nat) : Int)), vR (o + 1)]) hx lk_X1_68 okX5_holdOf dX1_strengthBehind_58 hC.y0.o (by decide) rfl rfl rfl (Nat.le_of_ble_eq_true rfl) (Nat.zero_add _).symm (Nat.zero_add _).symm rfl (c_X5_holdOf hC.y0 hY hWA (p := i) (by omega) (b := ((pre.getD (pre.length - 1) 0 : Nat) : Int)) (by omega) ?_)
    have rg3 := hold_rg hWA (p := i) (by omega) ((pre.getD (pre.length - 1) 0 : Nat) : Int)
    refine J_iadd (v := hold A (pre.getD (pre.length - 1) 0) ((i : Nat) : Int) + (hold A i ((pre.getD (pre.length - 1) 0 : Nat) : Int))) hx dX1_strengthBehind_61 (w32_id (by omega) (by omega)) ?_
    refine J_iload hx dX1_strengthBehind_62 rfl ?_
    refine J_invV (As := [vI (hold A (pre.getD (pre.length - 1) 0) ((i : Nat) : Int) + (hold A i ((pre.getD (pre.length - 1) 0 : Nat) : Int))), vI (1)]) (st := []) hx lk_X1_71 okX5_strengthBy dX1_strengthBehind_64 hC.y0.o (by decide) rfl rfl rfl (Nat.le_of_ble_eq_true rfl) (Nat.zero_add _).symm (Nat.zero_add _).symm rfl (c_X5_strengthBy hC.y0 hY hWA (by omega) (by omega) ?_)
    have rg4 := strb_rg hWA (hs := hold A (pre.getD (pre.length - 1) 0) ((i : Nat) : Int) + (hold A i ((pre.getD (pre.length - 1) 0 : Nat) : Int))) 1 (by omega) (by omega)
    refine J_iret hx hr dX1_strengthBehind_67 ?_
    exact Qv hQ (by
      unfold strn
      rw [getD_app (by omega), getD_app (by omega), if_neg (by omega), if_pos (by omega)]
      congr 1
      split <;> omega)
  · refine J_iload_n hx dX1_strengthBehind_14 (i := 1) rfl rfl ?_
    refine J_aload_n hx dX1_strengthBehind_15 (i := 0) rfl rfl ?_
    refine J_getR (b := o + 1) hx fl_X1_37 cl_X1 dX1_strengthBehind_16 hC.k59 (by decide) rfl hy3 ?_
    refine J_getR (b := o + 1 + 10) hx fl_X1_34 cl_X5 dX1_strengthBehind_19 hC.y0.o (by decide) rfl hC.y0.r7 ?_
    refine J_aload_n hx dX1_strengthBehind_22 (i := 0) rfl rfl ?_
    refine J_getI2 (v := ((c : Nat) : Int)) hx fl_X1_41 cl_X1 dX1_strengthBehind_23 hC.k59 (by decide) rfl hO.1 ?_
    refine J_iald2 (v := (((A.ch c).length : Nat) : Int)) hx c dX1_strengthBehind_26 hC.y0.k10 (by omega) (hC.y0.l10 (by omega)) (hY.sz (by omega)) ?_
    have rg5 := hWA.len8 (c := c) (by omega)
    have rg6 := hWA.lenN (c := c) (by omega)
    refine J_iconst (v := 1) hx dX1_strengthBehind_27 (by decide) ?_
    refine J_isub (v := (((A.ch c).length : Nat) : Int) - 1) hx dX1_strengthBehind_28 (w32_id (by omega) (by omega)) ?_
    refine J_icmp_ne (tgt := 36) hx dX1_strengthBehind_29 (by decide) (fun c7 => ?_) (fun c7 => ?_)
    · refine J_iconst (v := 0) hx dX1_strengthBehind_36 (by decide) ?_
      refine J_istore (lsn := [vR (o + 59), vI (((pre.length : Nat) : Int)), vI (((i : Nat) : Int)), vI (((pre.getD (pre.length - 1) 0 : Nat) : Int)), vI (0)]) hx dX1_strengthBehind_37 (Nat.le_of_ble_eq_true rfl) rfl rfl ?_
      refine J_aload_n hx dX1_strengthBehind_39 (i := 0) rfl rfl ?_
      refine J_getR (b := o + 1) hx fl_X1_37 cl_X1 dX1_strengthBehind_40 hC.k59 (by decide) rfl hy3 ?_
      refine J_aload_n hx dX1_strengthBehind_43 (i := 0) rfl rfl ?_
      refine J_getR (b := o + 1) hx fl_X1_37 cl_X1 dX1_strengthBehind_44 hC.k59 (by decide) rfl hy3 ?_
      refine J_iload_n hx dX1_strengthBehind_47 (i := 3) rfl rfl ?_
      refine J_iload_n hx dX1_strengthBehind_48 (i := 2) rfl rfl ?_
      refine J_invV (As := [vI (((pre.getD (pre.length - 1) 0 : Nat) : Int)), vI (((i : Nat) : Int))]) (st := [vR (o + 1)]) hx lk_X1_68 okX5_holdOf dX1_strengthBehind_49 hC.y0.o (by decide) rfl rfl rfl (Nat.le_of_ble_eq_true rfl) (Nat.zero_add _).symm (Nat.zero_add _).symm rfl (c_X5_holdOf hC.y0 hY hWA (p := pre.getD (pre.length - 1) 0) (by omega) (b := ((i : Nat) : Int)) (by omega) ?_)
      have rg8 := hold_rg hWA (p := pre.getD (pre.length - 1) 0) (by omega) ((i : Nat) : Int)
      refine J_aload_n hx dX1_strengthBehind_52 (i := 0) rfl rfl ?_
      refine J_getR (b := o + 1) hx fl_X1_37 cl_X1 dX1_strengthBehind_53 hC.k59 (by decide) rfl hy3 ?_
      refine J_iload_n hx dX1_strengthBehind_56 (i := 2) rfl rfl ?_
      refine J_iload_n hx dX1_strengthBehind_57 (i := 3) rfl rfl ?_
      refine J_invV (As := [vI (((i : Nat) : Int)), vI (((pre.getD (pre.length - 1) 0 : Nat) : Int))]) (st := [vI (hold A (pre.getD (pre.length - 1) 0) ((i : Nat) : Int)), vR (o + 1)]) hx lk_X1_68 okX5_holdOf dX1_strengthBehind_58 hC.y0.o (by decide) rfl rfl rfl (Nat.le_of_ble_eq_true rfl) (Nat.zero_add _).symm (Nat.zero_add _).symm rfl (c_X5_holdOf hC.y0 hY hWA (p := i) (by omega) (b := ((pre.getD (pre.length - 1) 0 : Nat) : Int)) (by omega) ?_)
      have rg9 := hold_rg hWA (p := i) (by omega) ((pre.getD (pre.length - 1) 0 : Nat) : Int)
      refine J_iadd (v := hold A (pre.getD (pre.length - 1) 0) ((i : Nat) : Int) + (hold A i ((pre.getD (pre.length - 1) 0 : Nat) : Int))) hx dX1_strengthBehind_61 (w32_id (by omega) (by omega)) ?_
      refine J_iload hx dX1_strengthBehind_62 rfl ?_
      refine J_invV (As := [vI (hold A (pre.getD (pre.length - 1) 0) ((i : Nat) : Int) + (hold A i ((pre.getD (pre.length - 1) 0 : Nat) : Int))), vI (0)]) (st := []) hx lk_X1_71 okX5_strengthBy dX1_strengthBehind_64 hC.y0.o (by decide) rfl rfl rfl (Nat.le_of_ble_eq_true rfl) (Nat.zero_add _).symm (Nat.zero_add _).symm rfl (c_X5_strengthBy hC.y0 hY hWA (by omega) (by omega) ?_)
      have rg10 := strb_rg hWA (hs := hold A (pre.getD (pre.length - 1) 0) ((i : Nat) : Int) + (hold A i ((pre.getD (pre.length - 1) 0 : Nat) : Int))) 0 (by omega) (by omega)
      refine J_iret hx hr dX1_strengthBehind_67 ?_
      exact Qv hQ (by
        unfold strn
        rw [getD_app (by omega), getD_app (by omega), if_neg (by omega), if_pos (by omega)]
        congr 1
        split <;> omega)
    · refine J_iconst (v := 1) hx dX1_strengthBehind_32 (by decide) ?_
      refine J_goto (tgt := 37) hx dX1_strengthBehind_33 (by decide) ?_
      refine J_istore (lsn := [vR (o + 59), vI (((pre.length : Nat) : Int)), vI (((i : Nat) : Int)), vI (((pre.getD (pre.length - 1) 0 : Nat) : Int)), vI (1)]) hx dX1_strengthBehind_37 (Nat.le_of_ble_eq_true rfl) rfl rfl ?_
      refine J_aload_n hx dX1_strengthBehind_39 (i := 0) rfl rfl ?_
      refine J_getR (b := o + 1) hx fl_X1_37 cl_X1 dX1_strengthBehind_40 hC.k59 (by decide) rfl hy3 ?_
      refine J_aload_n hx dX1_strengthBehind_43 (i := 0) rfl rfl ?_
      refine J_getR (b := o + 1) hx fl_X1_37 cl_X1 dX1_strengthBehind_44 hC.k59 (by decide) rfl hy3 ?_
      refine J_iload_n hx dX1_strengthBehind_47 (i := 3) rfl rfl ?_
      refine J_iload_n hx dX1_strengthBehind_48 (i := 2) rfl rfl ?_
      refine J_invV (As := [vI (((pre.getD (pre.length - 1) 0 : Nat) : Int)), vI (((i : Nat) : Int))]) (st := [vR (o + 1)]) hx lk_X1_68 okX5_holdOf dX1_strengthBehind_49 hC.y0.o (by decide) rfl rfl rfl (Nat.le_of_ble_eq_true rfl) (Nat.zero_add _).symm (Nat.zero_add _).symm rfl (c_X5_holdOf hC.y0 hY hWA (p := pre.getD (pre.length - 1) 0) (by omega) (b := ((i : Nat) : Int)) (by omega) ?_)
      have rg11 := hold_rg hWA (p := pre.getD (pre.length - 1) 0) (by omega) ((i : Nat) : Int)
      refine J_aload_n hx dX1_strengthBehind_52 (i := 0) rfl rfl ?_
      refine J_getR (b := o + 1) hx fl_X1_37 cl_X1 dX1_strengthBehind_53 hC.k59 (by decide) rfl hy3 ?_
      refine J_iload_n hx dX1_strengthBehind_56 (i := 2) rfl rfl ?_
      refine J_iload_n hx dX1_strengthBehind_57 (i := 3) rfl rfl ?_
      refine J_invV (As := [vI (((i : Nat) : Int)), vI (((pre.getD (pre.length - 1) 0 : Nat) : Int))]) (st := [vI (hold A (pre.getD (pre.length - 1) 0) ((i : Nat) : Int)), vR (o + 1)]) hx lk_X1_68 okX5_holdOf dX1_strengthBehind_58 hC.y0.o (by decide) rfl rfl rfl (Nat.le_of_ble_eq_true rfl) (Nat.zero_add _).symm (Nat.zero_add _).symm rfl (c_X5_holdOf hC.y0 hY hWA (p := i) (by omega) (b := ((pre.getD (pre.length - 1) 0 : Nat) : Int)) (by omega) ?_)
      have rg12 := hold_rg hWA (p := i) (by omega) ((pre.getD (pre.length - 1) 0 : Nat) : Int)
      refine J_iadd (v := hold A (pre.getD (pre.length - 1) 0) ((i : Nat) : Int) + (hold A i ((pre.getD (pre.length - 1) 0 : Nat) : Int))) hx dX1_strengthBehind_61 (w32_id (by omega) (by omega)) ?_
      refine J_iload hx dX1_strengthBehind_62 rfl ?_
      refine J_invV (As := [vI (hold A (pre.getD (pre.length - 1) 0) ((i : Nat) : Int) + (hold A i ((pre.getD (pre.length - 1) 0 : Nat) : Int))), vI (1)]) (st := []) hx lk_X1_71 okX5_strengthBy dX1_strengthBehind_64 hC.y0.o (by decide) rfl rfl rfl (Nat.le_of_ble_eq_true rfl) (Nat.zero_add _).symm (Nat.zero_add _).symm rfl (c_X5_strengthBy hC.y0 hY hWA (by omega) (by omega) ?_)
      have rg13 := strb_rg hWA (hs := hold A (pre.getD (pre.length - 1) 0) ((i : Nat) : Int) + (hold A i ((pre.getD (pre.length - 1) 0 : Nat) : Int))) 1 (by omega) (by omega)
      refine J_iret hx hr dX1_strengthBehind_67 ?_
      exact Qv hQ (by
        unfold strn
        rw [getD_app (by omega), getD_app (by omega), if_neg (by omega), if_pos (by omega)]
        congr 1
        split <;> omega)

set_option maxHeartbeats 4000000 in
theorem ff_0 {g : WG} {d : Nat} {T : TT} {o sz c : Nat} {A : YA} (hC : CT T o) (hy3 : (T (o + 59)).2.2 3 = some (o + 1)) (hWA : WFY A) (hc : c < 2) (h2 : 2 ≤ (A.ch c).length) : FFc g (d + 3) 0 o c sz T A := by
  intro M pre σ Q hY1 hO1 hin hok hk hlt hQ
  refine Ct_of2 (ls := [vR (o + 59), vI (((pre.length : Nat) : Int)), vI (pmn A (A.ch c).length pre (pre.length - 1)), vU, vU, vU]) okX1_fillFrom rfl (Nat.le_of_ble_eq_true rfl) rfl ?_
  intro x hx hr hnm
  have hn8 := hWA.n8
  have hl8 := hWA.len8 hc
  refine J_aload_n hx dX1_fillFrom_0 (i := 0) rfl rfl ?_
  refine J_getR (b := o + 1) hx fl_X1_37 cl_X1 dX1_fillFrom_1 hC.k59 (by decide) rfl hy3 ?_
  refine J_getR (b := o + 1 + 10) hx fl_X1_34 cl_X5 dX1_fillFrom_4 hC.y0.o (by decide) rfl hC.y0.r7 ?_
  refine J_aload_n hx dX1_fillFrom_7 (i := 0) rfl rfl ?_
  refine J_getI2 (v := ((c : Nat) : Int)) hx fl_X1_41 cl_X1 dX1_fillFrom_8 hC.k59 (by decide) rfl hO1.1 ?_
  refine J_iald2 (v := (((A.ch c).length : Nat) : Int)) hx c dX1_fillFrom_11 hC.y0.k10 (by omega) (hC.y0.l10 (by omega)) (hY1.sz (by omega)) ?_
  have rg1 := hWA.len8 (c := c) (by omega)
  have rg2 := hWA.lenN (c := c) (by omega)
  refine J_istore_n (lsn := [vR (o + 59), vI (((pre.length : Nat) : Int)), vI (pmn A (A.ch c).length pre (pre.length - 1)), vI ((((A.ch c).length : Nat) : Int)), vU, vU]) hx dX1_fillFrom_12 (i := 3) rfl (Nat.le_of_ble_eq_true rfl) rfl rfl ?_
  refine J_iload_n hx dX1_fillFrom_13 (i := 1) rfl rfl ?_
  refine J_iload_n hx dX1_fillFrom_14 (i := 3) rfl rfl ?_
  refine J_icmp_lt (tgt := 38) hx dX1_fillFrom_15 (by decide) (fun c3 => ?_) (fun c3 => ?_)
  · exfalso; omega
  · refine J_aload_n hx dX1_fillFrom_18 (i := 0) rfl rfl ?_
    refine J_iload_n hx dX1_fillFrom_19 (i := 2) rfl rfl ?_
    refine J_putI hx fl_X1_45 cl_X1 dX1_fillFrom_20 hC.k59 (by decide) rfl (Or.inl rfl) (by decide) ?_
    generalize eM1 : up2 M (o + 59) 5 (pmn A (A.ch c).length pre (pre.length - 1)) = M1
    have hM1a : M1 (o + 59) 5 = pmn A (A.ch c).length pre (pre.length - 1) := by rw [← eM1]; exact up2_at
    have hM1o : ∀ b9 j9, (b9 ≠ o + 59 ∨ j9 ≠ 5) → M1 b9 j9 = M b9 j9 := fun b9 j9 h9 => by rw [← eM1]; exact up2_ne h9
    have hM1r : ∀ b9, b9 ≠ o + 59 → M1 b9 = M b9 := fun b9 h9 => by rw [← eM1]; exact up2_row h9
    refine J_aload_n hx dX1_fillFrom_23 (i := 0) rfl rfl ?_
    refine J_getR (b := o + 61) hx fl_X1_15 cl_X1 dX1_fillFrom_24 hC.k59 (by decide) rfl hC.f1 ?_
    refine J_iconst (v := 0) hx dX1_fillFrom_27 (by decide) ?_
    refine J_aload_n hx dX1_fillFrom_28 (i := 0) rfl rfl ?_
    refine J_getR (b := o + 60) hx fl_X1_9 cl_X1 dX1_fillFrom_29 hC.k59 (by decide) rfl hC.f0 ?_
    refine J_iconst (v := 0) hx dX1_fillFrom_32 (by decide) ?_
    refine J_iload_n hx dX1_fillFrom_33 (i := 3) rfl rfl ?_
    refine J_copyI hx 0 0 (A.ch c).length lk_X1_28 dX1_fillFrom_34 hC.k61 hC.k60 rfl rfl rfl (by rw [hC.n61]; omega) (by rw [hC.n60]; omega) (Nat.le_of_ble_eq_true rfl) ?_
    refine J_vret hx hr dX1_fillFrom_37 ?_
    have hpl : pre.length = (A.ch c).length := by omega
    have hle : pmn A (A.ch c).length pre (pre.length - 1) = leastS A pre := by rw [← hpl]; exact pmn_least hWA (fun q9 h9 => (hin.2 q9 h9).1) (by omega)
    have eu : srch A c 0 pre σ = (leastS A pre, pre) := by show updS A pre σ = _; unfold updS; rw [if_pos (by omega)]
    rw [eu] at hQ
    refine hQ _ ⟨?_, ?_, fun j9 h9 => ?_, fun q9 h9 => ?_, fun j9 h9 => ?_⟩ (fun a9 h9 => ?_)
    · rw [cpM_row (by omega), hM1o _ _ (Or.inr (by decide))]; exact hO1.1
    · rw [cpM_row (by omega), hM1a]; exact hle
    · rw [cpM_row (by omega), hM1r _ (by omega)]; exact hO1.2.2.1 j9 h9
    · rw [cpM_row (by omega), hM1r _ (by omega)]; exact hO1.2.2.2.1 q9 h9
    · rw [cpM_at (by omega), hM1r _ (by omega)]; rw [show 0 + (j9 - 0) = j9 by omega]; exact hO1.2.2.1 j9 (by omega)
    · rw [cpM_row (by omega), hM1r _ (by omega)]

set_option maxHeartbeats 4000000 in
theorem lp_X1_fillFrom {g : WG} {d : Nat} {T : TT} {o sz c k : Nat} {A : YA} (hC : CT T o) (hy3 : (T (o + 59)).2.2 3 = some (o + 1)) (hWA : WFY A) (hc : c < 2)  {x : CX} {M : MM} {Q : MVal → TT → MM → Nat → Prop} (hx : OKx g x RX1 cX1_fillFrom (d + 4)) (hr : RTx g x none Q) (hI : FFc g (d + 3) k o c sz T A) {pre : List Nat} {σ : SG} (hin : inC A c pre) (hok : okG A c σ) (hk : pre.length + (k + 1) = (A.ch c).length) (h2 : 2 ≤ (A.ch c).length) (hQ : ∀ M', ORn M' o c (A.ch c).length pre (srch A c (k + 1) pre σ) → FrO o M M' → Q vU T M' sz) (i : Nat) (u5 : MVal) (M1 : MM) (hY1 : YN M1 (o + 1) A) (hO1 : ORn M1 o c (A.ch c).length pre (srL (srF A c k pre) i σ)) (hF1 : FrO o M M1) (hi : i ≤ A.n) : Jd g x 41 [vR (o + 59), vI (((pre.length : Nat) : Int)), vI (pmn A (A.ch c).length pre (pre.length - 1)), vI ((((A.ch c).length : Nat) : Int)), vI (((i : Nat) : Int)), u5] [] T M1 sz 0 0 := by
  have hn8 := hWA.n8
  have hl8 := hWA.len8 hc
  refine J_iload hx dX1_fillFrom_41 rfl ?_
  refine J_aload_n hx dX1_fillFrom_43 (i := 0) rfl rfl ?_
  refine J_getR (b := o + 1) hx fl_X1_37 cl_X1 dX1_fillFrom_44 hC.k59 (by decide) rfl hy3 ?_
  refine J_getI2 (v := ((A.n : Nat) : Int)) hx fl_X1_53 cl_X5 dX1_fillFrom_47 hC.y0.o (by decide) rfl hY1.pp ?_
  have rg1 := hWA.n8
  refine J_icmp_ge (tgt := 152) hx dX1_fillFrom_50 (by decide) (fun c2 => ?_) (fun c2 => ?_)
  · refine J_vret hx hr dX1_fillFrom_152 ?_
    have ei : i = A.n := by omega
    subst ei
    exact hQ M1 hO1 hF1
  · have hokt := srL_ok (fun p9 τ9 h8 h9 => srF_ok hWA hc hin hk p9 τ9 h8 h9) i σ (by omega) hok
    have hokr := hokt.1.2
    refine J_aload_n hx dX1_fillFrom_53 (i := 0) rfl rfl ?_
    refine J_getR (b := o + 62) hx fl_X1_18 cl_X1 dX1_fillFrom_54 hC.k59 (by decide) rfl hC.f2 ?_
    refine J_iload hx dX1_fillFrom_57 rfl ?_
    refine J_zald2 (v := plI pre i) hx i dX1_fillFrom_59 hC.k62 (by omega) (by rw [hC.n62]; omega) (hO1.2.2.2.1 i (by omega)) ?_
    have rpl := plI_rg pre i
    refine J_if_ne (tgt := 146) hx dX1_fillFrom_60 (by decide) (fun c3 => ?_) (fun c3 => ?_)
    · have hmem : i ∈ pre := by
        rcases rpl with h9 | h9
        · exact h9.2
        · exfalso; omega
      refine J_iinc (v := ((i : Nat) : Int) + 1) (lsn := [vR (o + 59), vI (((pre.length : Nat) : Int)), vI (pmn A (A.ch c).length pre (pre.length - 1)), vI ((((A.ch c).length : Nat) : Int)), vI (((i : Nat) : Int) + 1), u5]) hx dX1_fillFrom_146 rfl (jinc1 (by omega) (by omega)) rfl rfl ?_
      refine J_goto (tgt := 41) hx dX1_fillFrom_149 (by decide) ?_
      have et : srL (srF A c k pre) (i + 1) σ = (srL (srF A c k pre) i σ) := by
        show srF A c k pre i (srL (srF A c k pre) i σ) = (srL (srF A c k pre) i σ)
        rw [srF_n (fun z => z.1 hmem)]
      exact lp_X1_fillFrom hC hy3 hWA hc hx hr hI hin hok hk h2 hQ (i + 1) _ M1 hY1 (by rw [et]; exact hO1) hF1 (by omega)
    · have hnp : i ∉ pre := by
        rcases rpl with h9 | h9
        · exfalso; omega
        · exact h9.2
      refine J_aload_n hx dX1_fillFrom_63 (i := 0) rfl rfl ?_
      refine J_getR (b := o + 1) hx fl_X1_37 cl_X1 dX1_fillFrom_64 hC.k59 (by decide) rfl hy3 ?_
      refine J_getR (b := o + 1 + 6) hx fl_X1_56 cl_X5 dX1_fillFrom_67 hC.y0.o (by decide) rfl hC.y0.r5 ?_
      refine J_iload hx dX1_fillFrom_70 rfl ?_
      refine J_iald2 (v := ((A.co i : Nat) : Int)) hx i dX1_fillFrom_72 hC.y0.k6 (by omega) (hC.y0.l6 (by omega)) (hY1.hm (by omega)) ?_
      have rg4 := A.co2 i
      refine J_aload_n hx dX1_fillFrom_73 (i := 0) rfl rfl ?_
      refine J_getI2 (v := ((c : Nat) : Int)) hx fl_X1_41 cl_X1 dX1_fillFrom_74 hC.k59 (by decide) rfl hO1.1 ?_
      refine J_icmp_eq (tgt := 83) hx dX1_fillFrom_77 (by decide) (fun c5 => ?_) (fun c5 => ?_)
      · refine J_iload_n hx dX1_fillFrom_83 (i := 1) rfl rfl ?_
        refine J_if_ne (tgt := 91) hx dX1_fillFrom_84 (by decide) (fun c6 => ?_) (fun c6 => ?_)
        · refine J_iload_n hx dX1_fillFrom_91 (i := 2) rfl rfl ?_
          refine J_aload_n hx dX1_fillFrom_92 (i := 0) rfl rfl ?_
          refine J_iload_n hx dX1_fillFrom_93 (i := 1) rfl rfl ?_
          refine J_iload hx dX1_fillFrom_94 rfl ?_
          refine J_invV (As := [vI (((pre.length : Nat) : Int)), vI (((i : Nat) : Int))]) (st := [vI (pmn A (A.ch c).length pre (pre.length - 1))]) hx lk_X1_59 okX1_strengthBehind dX1_fillFrom_96 hC.k59 (by decide) rfl rfl rfl (Nat.le_of_ble_eq_true rfl) (Nat.zero_add _).symm (Nat.zero_add _).symm rfl (c_X1_strengthBehind hC hy3 hWA hc hY1 ⟨hO1.1, trivial⟩ hO1.2.2.1 (by omega) (by omega) (fun q9 h9 => (hin.2 q9 h9).1) (i := i) (by omega) ?_)
          refine J_mmin (v := pmn A (A.ch c).length (pre ++ [i]) ((pre ++ [i]).length - 1)) hx lk_X1_63 dX1_fillFrom_99 (Nat.le_of_ble_eq_true rfl) (pmn_app (by omega)).symm ?_
          refine J_istore (lsn := [vR (o + 59), vI (((pre.length : Nat) : Int)), vI (pmn A (A.ch c).length pre (pre.length - 1)), vI ((((A.ch c).length : Nat) : Int)), vI (((i : Nat) : Int)), vI (pmn A (A.ch c).length (pre ++ [i]) ((pre ++ [i]).length - 1))]) hx dX1_fillFrom_102 (Nat.le_of_ble_eq_true rfl) rfl rfl ?_
          refine J_iload hx dX1_fillFrom_104 rfl ?_
          refine J_aload_n hx dX1_fillFrom_106 (i := 0) rfl rfl ?_
          refine J_getI2 (v := (srL (srF A c k pre) i σ).1) hx fl_X1_45 cl_X1 dX1_fillFrom_107 hC.k59 (by decide) rfl hO1.2.1 ?_
          refine J_icmp_le (tgt := 146) hx dX1_fillFrom_110 (by decide) (fun c7 => ?_) (fun c7 => ?_)
          · refine J_iinc (v := ((i : Nat) : Int) + 1) (lsn := [vR (o + 59), vI (((pre.length : Nat) : Int)), vI (pmn A (A.ch c).length pre (pre.length - 1)), vI ((((A.ch c).length : Nat) : Int)), vI (((i : Nat) : Int) + 1), vI (pmn A (A.ch c).length (pre ++ [i]) ((pre ++ [i]).length - 1))]) hx dX1_fillFrom_146 rfl (jinc1 (by omega) (by omega)) rfl rfl ?_
            refine J_goto (tgt := 41) hx dX1_fillFrom_149 (by decide) ?_
            have et : srL (srF A c k pre) (i + 1) σ = (srL (srF A c k pre) i σ) := by
              show srF A c k pre i (srL (srF A c k pre) i σ) = (srL (srF A c k pre) i σ)
              rw [srF_y ⟨hnp, by omega⟩]
              exact srch_pr hWA k (pre ++ [i]) _ (inC_app hin (by omega) hnp (by omega)) (by rw [List.length_append, List.length_singleton]; omega) h2 (by rw [List.length_append, List.length_singleton]; omega) (by omega) (fun q => by omega)
            exact lp_X1_fillFrom hC hy3 hWA hc hx hr hI hin hok hk h2 hQ (i + 1) _ M1 hY1 (by rw [et]; exact hO1) hF1 (by omega)
          · have hgt : (srL (srF A c k pre) i σ).1 < pmn A (A.ch c).length (pre ++ [i]) ((pre ++ [i]).length - 1) := by omega
            refine J_aload_n hx dX1_fillFrom_113 (i := 0) rfl rfl ?_
            refine J_getR (b := o + 61) hx fl_X1_15 cl_X1 dX1_fillFrom_114 hC.k59 (by decide) rfl hC.f1 ?_
            refine J_iload_n hx dX1_fillFrom_117 (i := 1) rfl rfl ?_
            refine J_iload hx dX1_fillFrom_118 rfl ?_
            refine J_iast hx pre.length dX1_fillFrom_120 hC.k61 (by omega) (by rw [hC.n61]; omega) ?_
            generalize eM2 : up2 M1 (o + 61) pre.length ((i : Nat) : Int) = M2
            have hM2a : M2 (o + 61) pre.length = ((i : Nat) : Int) := by rw [← eM2]; exact up2_at
            have hM2o : ∀ b9 j9, (b9 ≠ o + 61 ∨ j9 ≠ pre.length) → M2 b9 j9 = M1 b9 j9 := fun b9 j9 h9 => by rw [← eM2]; exact up2_ne h9
            have hM2r : ∀ b9, b9 ≠ o + 61 → M2 b9 = M1 b9 := fun b9 h9 => by rw [← eM2]; exact up2_row h9
            refine J_aload_n hx dX1_fillFrom_121 (i := 0) rfl rfl ?_
            refine J_getR (b := o + 62) hx fl_X1_18 cl_X1 dX1_fillFrom_122 hC.k59 (by decide) rfl hC.f2 ?_
            refine J_iload hx dX1_fillFrom_125 rfl ?_
            refine J_iconst (v := 1) hx dX1_fillFrom_127 (by decide) ?_
            refine J_zast hx i dX1_fillFrom_128 hC.k62 (by omega) (by rw [hC.n62]; omega) (by omega) ?_
            generalize eM3 : up2 M2 (o + 62) i 1 = M3
            have hM3a : M3 (o + 62) i = 1 := by rw [← eM3]; exact up2_at
            have hM3o : ∀ b9 j9, (b9 ≠ o + 62 ∨ j9 ≠ i) → M3 b9 j9 = M2 b9 j9 := fun b9 j9 h9 => by rw [← eM3]; exact up2_ne h9
            have hM3r : ∀ b9, b9 ≠ o + 62 → M3 b9 = M2 b9 := fun b9 h9 => by rw [← eM3]; exact up2_row h9
            refine J_aload_n hx dX1_fillFrom_129 (i := 0) rfl rfl ?_
            refine J_iload_n hx dX1_fillFrom_130 (i := 1) rfl rfl ?_
            refine J_iconst (v := 1) hx dX1_fillFrom_131 (by decide) ?_
            refine J_iadd (v := (((pre ++ [i]).length : Nat) : Int)) hx dX1_fillFrom_132 (by rw [w32_id (by omega) (by omega), List.length_append, List.length_singleton]; omega) ?_
            refine J_iload hx dX1_fillFrom_133 rfl ?_
            refine J_invVv (As := [vI ((((pre ++ [i]).length : Nat) : Int)), vI (pmn A (A.ch c).length (pre ++ [i]) ((pre ++ [i]).length - 1))]) (st := []) hx lk_X1_49 okX1_fillFrom dX1_fillFrom_135 hC.k59 (by decide) rfl rfl rfl (Nat.le_of_ble_eq_true rfl) (Nat.zero_add _).symm (Nat.zero_add _).symm rfl (hI M3 (pre ++ [i]) (srL (srF A c k pre) i σ) _ (hY1.same (fun a9 h8 h9 => by rw [hM3r a9 (by omega), hM2r a9 (by omega)])) ⟨?_, ?_, fun j9 h9 => ?_, fun q9 h9 => ?_, fun j9 h9 => ?_⟩ (inC_app hin (by omega) hnp (by omega)) hokt.1 (by rw [List.length_append, List.length_singleton]; omega) hgt ?_)
            · rw [hM3r _ (by omega), hM2r _ (by omega)]; exact hO1.1
            · rw [hM3r _ (by omega), hM2r _ (by omega)]; exact hO1.2.1
            · rw [List.length_append, List.length_singleton] at h9
              rw [hM3r _ (by omega), getD_app (by omega)]
              by_cases e9 : j9 = pre.length
              · rw [if_pos e9, e9, hM2a]
              · rw [if_neg e9, hM2o _ _ (Or.inr e9)]; exact hO1.2.2.1 j9 (by omega)
            · rw [plI_app]
              by_cases e9 : q9 = i
              · rw [if_pos e9, e9, hM3a]
              · rw [if_neg e9, hM3o _ _ (Or.inr e9), hM2r _ (by omega)]; exact hO1.2.2.2.1 q9 h9
            · rw [hM3r _ (by omega), hM2r _ (by omega)]; exact hO1.2.2.2.2 j9 h9
            intro M4 hO4 hF4
            refine J_aload_n hx dX1_fillFrom_138 (i := 0) rfl rfl ?_
            refine J_getR (b := o + 62) hx fl_X1_18 cl_X1 dX1_fillFrom_139 hC.k59 (by decide) rfl hC.f2 ?_
            refine J_iload hx dX1_fillFrom_142 rfl ?_
            refine J_iconst (v := 0) hx dX1_fillFrom_144 (by decide) ?_
            refine J_zast hx i dX1_fillFrom_145 hC.k62 (by omega) (by rw [hC.n62]; omega) (by omega) ?_
            generalize eM5 : up2 M4 (o + 62) i 0 = M5
            have hM5a : M5 (o + 62) i = 0 := by rw [← eM5]; exact up2_at
            have hM5o : ∀ b9 j9, (b9 ≠ o + 62 ∨ j9 ≠ i) → M5 b9 j9 = M4 b9 j9 := fun b9 j9 h9 => by rw [← eM5]; exact up2_ne h9
            have hM5r : ∀ b9, b9 ≠ o + 62 → M5 b9 = M4 b9 := fun b9 h9 => by rw [← eM5]; exact up2_row h9
            refine J_iinc (v := ((i : Nat) : Int) + 1) (lsn := [vR (o + 59), vI (((pre.length : Nat) : Int)), vI (pmn A (A.ch c).length pre (pre.length - 1)), vI ((((A.ch c).length : Nat) : Int)), vI (((i : Nat) : Int) + 1), vI (pmn A (A.ch c).length (pre ++ [i]) ((pre ++ [i]).length - 1))]) hx dX1_fillFrom_146 rfl (jinc1 (by omega) (by omega)) rfl rfl ?_
            refine J_goto (tgt := 41) hx dX1_fillFrom_149 (by decide) ?_
            have et : srL (srF A c k pre) (i + 1) σ = srch A c k (pre ++ [i]) (srL (srF A c k pre) i σ) := by show srF A c k pre i (srL (srF A c k pre) i σ) = _; rw [srF_y ⟨hnp, by omega⟩]
            have hO5 : ORn M5 o c (A.ch c).length pre (srL (srF A c k pre) (i + 1) σ) := by
              rw [et]
              refine ⟨by rw [hM5r _ (by omega)]; exact hO4.1, by rw [hM5r _ (by omega)]; exact hO4.2.1, fun j9 h9 => ?_, fun q9 h9 => ?_, fun j9 h9 => by rw [hM5r _ (by omega)]; exact hO4.2.2.2.2 j9 h9⟩
              · rw [hM5r _ (by omega)]
                have h8 := hO4.2.2.1 j9 (by rw [List.length_append, List.length_singleton]; omega)
                rw [getD_app (by omega), if_neg (by omega)] at h8
                exact h8
              · by_cases e9 : q9 = i
                · rw [e9, hM5a]; unfold plI; rw [if_neg hnp]
                · rw [hM5o _ _ (Or.inr e9)]
                  have h8 := hO4.2.2.2.1 q9 h9
                  rw [plI_app, if_neg e9] at h8
                  exact h8
            exact lp_X1_fillFrom hC hy3 hWA hc hx hr hI hin hok hk h2 hQ (i + 1) _ M5 (hY1.same (fun a9 h8 h9 => by rw [hM5r a9 (by omega), hF4 a9 (by omega), hM3r a9 (by omega), hM2r a9 (by omega)])) hO5 (fun a9 h9 => by rw [hM5r a9 (by omega), hF4 a9 h9, hM3r a9 (by omega), hM2r a9 (by omega)]; exact hF1 a9 h9) (by omega)
        · refine J_iload_n hx dX1_fillFrom_87 (i := 2) rfl rfl ?_
          refine J_goto (tgt := 102) hx dX1_fillFrom_88 (by decide) ?_
          refine J_istore (lsn := [vR (o + 59), vI (((pre.length : Nat) : Int)), vI (pmn A (A.ch c).length pre (pre.length - 1)), vI ((((A.ch c).length : Nat) : Int)), vI (((i : Nat) : Int)), vI (pmn A (A.ch c).length pre (pre.length - 1))]) hx dX1_fillFrom_102 (Nat.le_of_ble_eq_true rfl) rfl rfl ?_
          have e0 : pre = [] := List.eq_nil_of_length_eq_zero (by omega)
          have e1 : pmn A (A.ch c).length pre (pre.length - 1) = pmn A (A.ch c).length (pre ++ [i]) ((pre ++ [i]).length - 1) := by rw [e0]; rfl
          rw [show ([vR (o + 59), vI (((pre.length : Nat) : Int)), vI (pmn A (A.ch c).length pre (pre.length - 1)), vI ((((A.ch c).length : Nat) : Int)), vI (((i : Nat) : Int)), vI (pmn A (A.ch c).length pre (pre.length - 1))] : List MVal) = [vR (o + 59), vI (((pre.length : Nat) : Int)), vI (pmn A (A.ch c).length pre (pre.length - 1)), vI ((((A.ch c).length : Nat) : Int)), vI (((i : Nat) : Int)), vI (pmn A (A.ch c).length (pre ++ [i]) ((pre ++ [i]).length - 1))] from by rw [← e1]]
          refine J_iload hx dX1_fillFrom_104 rfl ?_
          refine J_aload_n hx dX1_fillFrom_106 (i := 0) rfl rfl ?_
          refine J_getI2 (v := (srL (srF A c k pre) i σ).1) hx fl_X1_45 cl_X1 dX1_fillFrom_107 hC.k59 (by decide) rfl hO1.2.1 ?_
          refine J_icmp_le (tgt := 146) hx dX1_fillFrom_110 (by decide) (fun c8 => ?_) (fun c8 => ?_)
          · refine J_iinc (v := ((i : Nat) : Int) + 1) (lsn := [vR (o + 59), vI (((pre.length : Nat) : Int)), vI (pmn A (A.ch c).length pre (pre.length - 1)), vI ((((A.ch c).length : Nat) : Int)), vI (((i : Nat) : Int) + 1), vI (pmn A (A.ch c).length (pre ++ [i]) ((pre ++ [i]).length - 1))]) hx dX1_fillFrom_146 rfl (jinc1 (by omega) (by omega)) rfl rfl ?_
            refine J_goto (tgt := 41) hx dX1_fillFrom_149 (by decide) ?_
            have et : srL (srF A c k pre) (i + 1) σ = (srL (srF A c k pre) i σ) := by
              show srF A c k pre i (srL (srF A c k pre) i σ) = (srL (srF A c k pre) i σ)
              rw [srF_y ⟨hnp, by omega⟩]
              exact srch_pr hWA k (pre ++ [i]) _ (inC_app hin (by omega) hnp (by omega)) (by rw [List.length_append, List.length_singleton]; omega) h2 (by rw [List.length_append, List.length_singleton]; omega) (by omega) (fun q => by omega)
            exact lp_X1_fillFrom hC hy3 hWA hc hx hr hI hin hok hk h2 hQ (i + 1) _ M1 hY1 (by rw [et]; exact hO1) hF1 (by omega)
          · have hgt : (srL (srF A c k pre) i σ).1 < pmn A (A.ch c).length (pre ++ [i]) ((pre ++ [i]).length - 1) := by omega
            refine J_aload_n hx dX1_fillFrom_113 (i := 0) rfl rfl ?_
            refine J_getR (b := o + 61) hx fl_X1_15 cl_X1 dX1_fillFrom_114 hC.k59 (by decide) rfl hC.f1 ?_
            refine J_iload_n hx dX1_fillFrom_117 (i := 1) rfl rfl ?_
            refine J_iload hx dX1_fillFrom_118 rfl ?_
            refine J_iast hx pre.length dX1_fillFrom_120 hC.k61 (by omega) (by rw [hC.n61]; omega) ?_
            generalize eM2 : up2 M1 (o + 61) pre.length ((i : Nat) : Int) = M2
            have hM2a : M2 (o + 61) pre.length = ((i : Nat) : Int) := by rw [← eM2]; exact up2_at
            have hM2o : ∀ b9 j9, (b9 ≠ o + 61 ∨ j9 ≠ pre.length) → M2 b9 j9 = M1 b9 j9 := fun b9 j9 h9 => by rw [← eM2]; exact up2_ne h9
            have hM2r : ∀ b9, b9 ≠ o + 61 → M2 b9 = M1 b9 := fun b9 h9 => by rw [← eM2]; exact up2_row h9
            refine J_aload_n hx dX1_fillFrom_121 (i := 0) rfl rfl ?_
            refine J_getR (b := o + 62) hx fl_X1_18 cl_X1 dX1_fillFrom_122 hC.k59 (by decide) rfl hC.f2 ?_
            refine J_iload hx dX1_fillFrom_125 rfl ?_
            refine J_iconst (v := 1) hx dX1_fillFrom_127 (by decide) ?_
            refine J_zast hx i dX1_fillFrom_128 hC.k62 (by omega) (by rw [hC.n62]; omega) (by omega) ?_
            generalize eM3 : up2 M2 (o + 62) i 1 = M3
            have hM3a : M3 (o + 62) i = 1 := by rw [← eM3]; exact up2_at
            have hM3o : ∀ b9 j9, (b9 ≠ o + 62 ∨ j9 ≠ i) → M3 b9 j9 = M2 b9 j9 := fun b9 j9 h9 => by rw [← eM3]; exact up2_ne h9
            have hM3r : ∀ b9, b9 ≠ o + 62 → M3 b9 = M2 b9 := fun b9 h9 => by rw [← eM3]; exact up2_row h9
            refine J_aload_n hx dX1_fillFrom_129 (i := 0) rfl rfl ?_
            refine J_iload_n hx dX1_fillFrom_130 (i := 1) rfl rfl ?_
            refine J_iconst (v := 1) hx dX1_fillFrom_131 (by decide) ?_
            refine J_iadd (v := (((pre ++ [i]).length : Nat) : Int)) hx dX1_fillFrom_132 (by rw [w32_id (by omega) (by omega), List.length_append, List.length_singleton]; omega) ?_
            refine J_iload hx dX1_fillFrom_133 rfl ?_
            refine J_invVv (As := [vI ((((pre ++ [i]).length : Nat) : Int)), vI (pmn A (A.ch c).length (pre ++ [i]) ((pre ++ [i]).length - 1))]) (st := []) hx lk_X1_49 okX1_fillFrom dX1_fillFrom_135 hC.k59 (by decide) rfl rfl rfl (Nat.le_of_ble_eq_true rfl) (Nat.zero_add _).symm (Nat.zero_add _).symm rfl (hI M3 (pre ++ [i]) (srL (srF A c k pre) i σ) _ (hY1.same (fun a9 h8 h9 => by rw [hM3r a9 (by omega), hM2r a9 (by omega)])) ⟨?_, ?_, fun j9 h9 => ?_, fun q9 h9 => ?_, fun j9 h9 => ?_⟩ (inC_app hin (by omega) hnp (by omega)) hokt.1 (by rw [List.length_append, List.length_singleton]; omega) hgt ?_)
            · rw [hM3r _ (by omega), hM2r _ (by omega)]; exact hO1.1
            · rw [hM3r _ (by omega), hM2r _ (by omega)]; exact hO1.2.1
            · rw [List.length_append, List.length_singleton] at h9
              rw [hM3r _ (by omega), getD_app (by omega)]
              by_cases e9 : j9 = pre.length
              · rw [if_pos e9, e9, hM2a]
              · rw [if_neg e9, hM2o _ _ (Or.inr e9)]; exact hO1.2.2.1 j9 (by omega)
            · rw [plI_app]
              by_cases e9 : q9 = i
              · rw [if_pos e9, e9, hM3a]
              · rw [if_neg e9, hM3o _ _ (Or.inr e9), hM2r _ (by omega)]; exact hO1.2.2.2.1 q9 h9
            · rw [hM3r _ (by omega), hM2r _ (by omega)]; exact hO1.2.2.2.2 j9 h9
            intro M4 hO4 hF4
            refine J_aload_n hx dX1_fillFrom_138 (i := 0) rfl rfl ?_
            refine J_getR (b := o + 62) hx fl_X1_18 cl_X1 dX1_fillFrom_139 hC.k59 (by decide) rfl hC.f2 ?_
            refine J_iload hx dX1_fillFrom_142 rfl ?_
            refine J_iconst (v := 0) hx dX1_fillFrom_144 (by decide) ?_
            refine J_zast hx i dX1_fillFrom_145 hC.k62 (by omega) (by rw [hC.n62]; omega) (by omega) ?_
            generalize eM5 : up2 M4 (o + 62) i 0 = M5
            have hM5a : M5 (o + 62) i = 0 := by rw [← eM5]; exact up2_at
            have hM5o : ∀ b9 j9, (b9 ≠ o + 62 ∨ j9 ≠ i) → M5 b9 j9 = M4 b9 j9 := fun b9 j9 h9 => by rw [← eM5]; exact up2_ne h9
            have hM5r : ∀ b9, b9 ≠ o + 62 → M5 b9 = M4 b9 := fun b9 h9 => by rw [← eM5]; exact up2_row h9
            refine J_iinc (v := ((i : Nat) : Int) + 1) (lsn := [vR (o + 59), vI (((pre.length : Nat) : Int)), vI (pmn A (A.ch c).length pre (pre.length - 1)), vI ((((A.ch c).length : Nat) : Int)), vI (((i : Nat) : Int) + 1), vI (pmn A (A.ch c).length (pre ++ [i]) ((pre ++ [i]).length - 1))]) hx dX1_fillFrom_146 rfl (jinc1 (by omega) (by omega)) rfl rfl ?_
            refine J_goto (tgt := 41) hx dX1_fillFrom_149 (by decide) ?_
            have et : srL (srF A c k pre) (i + 1) σ = srch A c k (pre ++ [i]) (srL (srF A c k pre) i σ) := by show srF A c k pre i (srL (srF A c k pre) i σ) = _; rw [srF_y ⟨hnp, by omega⟩]
            have hO5 : ORn M5 o c (A.ch c).length pre (srL (srF A c k pre) (i + 1) σ) := by
              rw [et]
              refine ⟨by rw [hM5r _ (by omega)]; exact hO4.1, by rw [hM5r _ (by omega)]; exact hO4.2.1, fun j9 h9 => ?_, fun q9 h9 => ?_, fun j9 h9 => by rw [hM5r _ (by omega)]; exact hO4.2.2.2.2 j9 h9⟩
              · rw [hM5r _ (by omega)]
                have h8 := hO4.2.2.1 j9 (by rw [List.length_append, List.length_singleton]; omega)
                rw [getD_app (by omega), if_neg (by omega)] at h8
                exact h8
              · by_cases e9 : q9 = i
                · rw [e9, hM5a]; unfold plI; rw [if_neg hnp]
                · rw [hM5o _ _ (Or.inr e9)]
                  have h8 := hO4.2.2.2.1 q9 h9
                  rw [plI_app, if_neg e9] at h8
                  exact h8
            exact lp_X1_fillFrom hC hy3 hWA hc hx hr hI hin hok hk h2 hQ (i + 1) _ M5 (hY1.same (fun a9 h8 h9 => by rw [hM5r a9 (by omega), hF4 a9 (by omega), hM3r a9 (by omega), hM2r a9 (by omega)])) hO5 (fun a9 h9 => by rw [hM5r a9 (by omega), hF4 a9 h9, hM3r a9 (by omega), hM2r a9 (by omega)]; exact hF1 a9 h9) (by omega)
      · refine J_goto (tgt := 146) hx dX1_fillFrom_80 (by decide) ?_
        refine J_iinc (v := ((i : Nat) : Int) + 1) (lsn := [vR (o + 59), vI (((pre.length : Nat) : Int)), vI (pmn A (A.ch c).length pre (pre.length - 1)), vI ((((A.ch c).length : Nat) : Int)), vI (((i : Nat) : Int) + 1), u5]) hx dX1_fillFrom_146 rfl (jinc1 (by omega) (by omega)) rfl rfl ?_
        refine J_goto (tgt := 41) hx dX1_fillFrom_149 (by decide) ?_
        have et : srL (srF A c k pre) (i + 1) σ = (srL (srF A c k pre) i σ) := by
          show srF A c k pre i (srL (srF A c k pre) i σ) = (srL (srF A c k pre) i σ)
          rw [srF_n (fun z => (by omega))]
        exact lp_X1_fillFrom hC hy3 hWA hc hx hr hI hin hok hk h2 hQ (i + 1) _ M1 hY1 (by rw [et]; exact hO1) hF1 (by omega)
termination_by A.n - i
decreasing_by all_goals omega

set_option maxHeartbeats 4000000 in
theorem ff_s {g : WG} {d : Nat} {T : TT} {o sz c k : Nat} {A : YA} (hC : CT T o) (hy3 : (T (o + 59)).2.2 3 = some (o + 1)) (hWA : WFY A) (hc : c < 2) (h2 : 2 ≤ (A.ch c).length) (hI : FFc g (d + 3) k o c sz T A) : FFc g (d + 4) (k + 1) o c sz T A := by
  intro M pre σ Q hY1 hO1 hin hok hk hlt hQ
  refine Ct_of2 (ls := [vR (o + 59), vI (((pre.length : Nat) : Int)), vI (pmn A (A.ch c).length pre (pre.length - 1)), vU, vU, vU]) okX1_fillFrom rfl (Nat.le_of_ble_eq_true rfl) rfl ?_
  intro x hx hr hnm
  have hn8 := hWA.n8
  have hl8 := hWA.len8 hc
  refine J_aload_n hx dX1_fillFrom_0 (i := 0) rfl rfl ?_
  refine J_getR (b := o + 1) hx fl_X1_37 cl_X1 dX1_fillFrom_1 hC.k59 (by decide) rfl hy3 ?_
  refine J_getR (b := o + 1 + 10) hx fl_X1_34 cl_X5 dX1_fillFrom_4 hC.y0.o (by decide) rfl hC.y0.r7 ?_
  refine J_aload_n hx dX1_fillFrom_7 (i := 0) rfl rfl ?_
  refine J_getI2 (v := ((c : Nat) : Int)) hx fl_X1_41 cl_X1 dX1_fillFrom_8 hC.k59 (by decide) rfl hO1.1 ?_
  refine J_iald2 (v := (((A.ch c).length : Nat) : Int)) hx c dX1_fillFrom_11 hC.y0.k10 (by omega) (hC.y0.l10 (by omega)) (hY1.sz (by omega)) ?_
  have rg1 := hWA.len8 (c := c) (by omega)
  have rg2 := hWA.lenN (c := c) (by omega)
  refine J_istore_n (lsn := [vR (o + 59), vI (((pre.length : Nat) : Int)), vI (pmn A (A.ch c).length pre (pre.length - 1)), vI ((((A.ch c).length : Nat) : Int)), vU, vU]) hx dX1_fillFrom_12 (i := 3) rfl (Nat.le_of_ble_eq_true rfl) rfl rfl ?_
  refine J_iload_n hx dX1_fillFrom_13 (i := 1) rfl rfl ?_
  refine J_iload_n hx dX1_fillFrom_14 (i := 3) rfl rfl ?_
  refine J_icmp_lt (tgt := 38) hx dX1_fillFrom_15 (by decide) (fun c3 => ?_) (fun c3 => ?_)
  · refine J_iconst (v := 0) hx dX1_fillFrom_38 (by decide) ?_
    refine J_istore (lsn := [vR (o + 59), vI (((pre.length : Nat) : Int)), vI (pmn A (A.ch c).length pre (pre.length - 1)), vI ((((A.ch c).length : Nat) : Int)), vI (0), vU]) hx dX1_fillFrom_39 (Nat.le_of_ble_eq_true rfl) rfl rfl ?_
    exact lp_X1_fillFrom hC hy3 hWA hc hx hr hI hin hok hk h2 hQ 0 _ M hY1 hO1 (fun _ _ => rfl) (by omega)
  · exfalso; omega

theorem ff_all {g : WG} {T : TT} {o sz c : Nat} {A : YA} (hC : CT T o) (hy3 : (T (o + 59)).2.2 3 = some (o + 1)) (hWA : WFY A) (hc : c < 2) (h2 : 2 ≤ (A.ch c).length) : ∀ (k d : Nat), FFc g (d + k + 3) k o c sz T A
  | 0, d => ff_0 (d := d) hC hy3 hWA hc h2
  | k + 1, d => ff_s (d := d + k) hC hy3 hWA hc h2 (ff_all (sz := sz) (g := g) hC hy3 hWA hc h2 k d)
