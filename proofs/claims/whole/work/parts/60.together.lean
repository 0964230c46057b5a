def facN : Nat → Int
  | 0 => 1
  | k + 1 => facN k * ((k + 1 : Nat) : Int)
def apN (t : Nat) : Nat → Int
  | 0 => facN t
  | i + 1 => apN t i * (((t : Nat) : Int) + 1 - ((i : Nat) : Int))
def togV (n s : Nat) : Int := facN n - apN (n - s) s
theorem fac_rg0 : ∀ n : Fin 8, 1 ≤ facN n ∧ facN n ≤ 5040 := by decide +kernel
theorem ap_rg0 : ∀ t : Fin 8, ∀ i : Fin 8, (t : Nat) + i ≤ 7 → -1000000 ≤ apN t i ∧ apN t i ≤ 1000000 := by decide +kernel
theorem fac_rg {n : Nat} (h : n ≤ 7) : 1 ≤ facN n ∧ facN n ≤ 5040 := fac_rg0 ⟨n, by omega⟩
theorem ap_rg {t i : Nat} (h : t + i ≤ 7) : -1000000 ≤ apN t i ∧ apN t i ≤ 1000000 := ap_rg0 ⟨t, by omega⟩ ⟨i, by omega⟩ h
def sumN (f : Nat → Nat) : Nat → Nat
  | 0 => 0
  | k + 1 => sumN f k + f k
def lastS (A : YA) (pre : List Nat) : Bool := decide (1 ≤ pre.length ∧ A.att 0 (pre.getD (pre.length - 1) 0) = 3)
def tgL (A : YA) (c : Nat) : Nat → List Nat → Bool → Nat
  | 0, _, b => if b = true then 1 else 0
  | k + 1, pre, b => sumN (fun p => if p ∉ pre ∧ A.co p = c then tgL A c k (pre ++ [p]) (b || (lastS A pre && decide (A.att 0 p = 3))) else 0) A.n
def tgF (A : YA) (c k : Nat) (pre : List Nat) (b : Bool) (p : Nat) : Nat := if p ∉ pre ∧ A.co p = c then tgL A c k (pre ++ [p]) (b || (lastS A pre && decide (A.att 0 p = 3))) else 0
theorem tgL_s (A : YA) (c k : Nat) (pre : List Nat) (b : Bool) : tgL A c (k + 1) pre b = sumN (tgF A c k pre b) A.n := rfl
theorem sumN_le {f : Nat → Nat} {m : Nat} (h : ∀ p, f p ≤ m) : ∀ i, sumN f i ≤ i * m
  | 0 => Nat.zero_le _
  | i + 1 => by
    have h1 := sumN_le h i
    have h2 := h i
    show sumN f i + f i ≤ (i + 1) * m
    rw [Nat.add_mul, Nat.one_mul]; omega
theorem tgL_le {A : YA} (h : WFY A) {c : Nat} : ∀ (k : Nat) (pre : List Nat) (b : Bool), tgL A c k pre b ≤ 8 ^ k
  | 0, pre, b => by show (if b = true then 1 else 0) ≤ 1; split <;> omega
  | k + 1, pre, b => by
    have h1 := sumN_le (f := tgF A c k pre b) (m := 8 ^ k) (fun p => by unfold tgF; split; exact tgL_le h k _ _; exact Nat.zero_le _) A.n
    have h2 := Nat.mul_le_mul_right (8 ^ k) h.n8
    rw [tgL_s, Nat.pow_succ, Nat.mul_comm (8 ^ k) 8]
    omega
theorem tgF_le {A : YA} (h : WFY A) {c k : Nat} (hk : k ≤ 6) (pre : List Nat) (b : Bool) (i : Nat) (hi : i ≤ 8) : sumN (tgF A c k pre b) i ≤ 2097152 := by
  have h1 := sumN_le (f := tgF A c k pre b) (m := 8 ^ k) (fun p => by unfold tgF; split; exact tgL_le h k _ _; exact Nat.zero_le _) i
  have h2 : 8 ^ k ≤ 8 ^ 6 := Nat.pow_le_pow_right (by decide) hk
  have h3 := Nat.mul_le_mul hi h2
  have h4 : 8 * 8 ^ 6 = 2097152 := by decide
  omega
def seenL (u : Int) (pre : List Nat) : Prop := (0 ≤ u ∧ u < 256) ∧ ∀ q, q < 8 → (bt u ((q : Nat) : Int) ↔ q ∈ pre)
theorem seenL_0 : seenL 0 [] := ⟨by decide, fun q hq => ⟨fun h => absurd h (bt_zero hq), fun h => by cases h⟩⟩
theorem seenL_s {u : Int} {pre : List Nat} {t : Nat} (h : seenL u pre) (ht : t < 8) : seenL (jor u (jshl 1 ((t : Nat) : Int))) (pre ++ [t]) := by
  refine ⟨bt_rg h.1 ht, fun q hq => ?_⟩
  rw [bt_set h.1 ht hq, h.2 q hq, List.mem_append, List.mem_singleton]
  exact Or.comm
/-! the number alone: sisters left, others left, was the last a sister, are two together -/
def tgC : Nat → Nat → Nat → Bool → Bool → Nat
  | 0, _, _, _, b => if b = true then 1 else 0
  | k + 1, s, t, l, b => s * tgC k (s - 1) t true (b || l) + t * tgC k s (t - 1) false b
theorem tgC_ok0 : ∀ s : Fin 8, ∀ t : Fin 8, (s : Nat) + t ≤ 7 → ((tgC ((s : Nat) + t) s t false false : Nat) : Int) = facN ((s : Nat) + t) - apN t s := by decide +kernel
def rsF (A : YA) (c : Nat) (pre : List Nat) (p : Nat) : Bool := decide (p ∉ pre ∧ A.co p = c ∧ A.att 0 p = 3)
def rtF (A : YA) (c : Nat) (pre : List Nat) (p : Nat) : Bool := decide (p ∉ pre ∧ A.co p = c ∧ A.att 0 p ≠ 3)
theorem cnt_cong {f f' : Nat → Bool} : ∀ {k : Nat}, (∀ j, j < k → f j = f' j) → cntF f k = cntF f' k
  | 0, _ => rfl
  | k + 1, h => by
    have ih := cnt_cong (k := k) (fun j hj => h j (by omega))
    have h1 := h k (by omega)
    cases e : f k with
    | true => rw [cntF_t e, cntF_t (by rw [← h1]; exact e), ih]
    | false => rw [cntF_f e, cntF_f (by rw [← h1]; exact e), ih]
theorem cnt_rm {f f' : Nat → Bool} {p : Nat} (hf : f p = true) (hf' : f' p = false) (ho : ∀ q, q ≠ p → f' q = f q) : ∀ {k : Nat}, p < k → cntF f' k + 1 = cntF f k
  | 0, h => absurd h (Nat.not_lt_zero p)
  | k + 1, h => by
    by_cases e : p = k
    · subst e
      rw [cntF_t hf, cntF_f hf', cnt_cong (f := f') (f' := f) (fun j hj => ho j (by omega))]
    · have ih := cnt_rm hf hf' ho (k := k) (by omega)
      have h1 := ho k (fun z => e z.symm)
      cases e2 : f k with
      | true => rw [cntF_t e2, cntF_t (h1.trans e2)]; omega
      | false => rw [cntF_f e2, cntF_f (h1.trans e2)]; omega
theorem mem_app1 {pre : List Nat} {p q : Nat} : q ∉ pre ++ [p] ↔ q ∉ pre ∧ q ≠ p := by
  rw [List.mem_append, List.mem_singleton]
  constructor
  · intro h; exact ⟨fun z => h (Or.inl z), fun z => h (Or.inr z)⟩
  · rintro ⟨h1, h2⟩ (h | h)
    · exact h1 h
    · exact h2 h
theorem lastS_app (A : YA) (pre : List Nat) (p : Nat) : lastS A (pre ++ [p]) = decide (A.att 0 p = 3) := by
  unfold lastS
  have e : (pre ++ [p]).getD ((pre ++ [p]).length - 1) 0 = p := by
    rw [List.length_append, List.length_singleton, Nat.add_sub_cancel, getD_app (Nat.le_refl _), if_pos rfl]
  rw [e, List.length_append, List.length_singleton]
  rw [decide_eq_decide]
  exact ⟨fun h => h.2, fun h => ⟨by omega, h⟩⟩
theorem sum_two {A : YA} {c : Nat} {pre : List Nat} {X Y : Nat} {f : Nat → Nat} (hf : ∀ p, p < A.n → f p = if p ∉ pre ∧ A.co p = c then (if A.att 0 p = 3 then X else Y) else 0) : ∀ i, i ≤ A.n → sumN f i = cntF (rsF A c pre) i * X + cntF (rtF A c pre) i * Y
  | 0, _ => by simp [sumN, cntF]
  | i + 1, hi => by
    have ih := sum_two hf i (by omega)
    have h1 := hf i (by omega)
    show sumN f i + f i = _
    rw [ih, h1]
    by_cases e1 : i ∉ pre ∧ A.co i = c
    · rw [if_pos e1]
      by_cases e2 : A.att 0 i = 3
      · have k1 : rsF A c pre i = true := decide_eq_true ⟨e1.1, e1.2, e2⟩
        have k2 : rtF A c pre i = false := decide_eq_false (fun z => z.2.2 e2)
        rw [if_pos e2, cntF_t k1, cntF_f k2, Nat.add_mul, Nat.one_mul]; omega
      · have k1 : rsF A c pre i = false := decide_eq_false (fun z => e2 z.2.2)
        have k2 : rtF A c pre i = true := decide_eq_true ⟨e1.1, e1.2, e2⟩
        rw [if_neg e2, cntF_f k1, cntF_t k2, Nat.add_mul, Nat.one_mul]; omega
    · have k1 : rsF A c pre i = false := decide_eq_false (fun z => e1 ⟨z.1, z.2.1⟩)
      have k2 : rtF A c pre i = false := decide_eq_false (fun z => e1 ⟨z.1, z.2.1⟩)
      rw [if_neg e1, cntF_f k1, cntF_f k2]; omega
theorem tgL_C {A : YA} {c : Nat} : ∀ (k : Nat) (pre : List Nat) (b : Bool), tgL A c k pre b = tgC k (cntF (rsF A c pre) A.n) (cntF (rtF A c pre) A.n) (lastS A pre) b
  | 0, pre, b => rfl
  | k + 1, pre, b => by
    rw [tgL_s]
    refine sum_two (fun p hp => ?_) A.n (Nat.le_refl _)
    unfold tgF
    by_cases e1 : p ∉ pre ∧ A.co p = c
    · rw [if_pos e1, if_pos e1, tgL_C k, lastS_app]
      by_cases e2 : A.att 0 p = 3
      · have h1 : cntF (rsF A c (pre ++ [p])) A.n + 1 = cntF (rsF A c pre) A.n := cnt_rm (p := p) (decide_eq_true ⟨e1.1, e1.2, e2⟩) (decide_eq_false (fun z => (mem_app1.mp z.1).2 rfl)) (fun q hq => by unfold rsF; rw [decide_eq_decide, mem_app1]; exact ⟨fun z => ⟨z.1.1, z.2⟩, fun z => ⟨⟨z.1, hq⟩, z.2⟩⟩) hp
        have h2 : cntF (rtF A c (pre ++ [p])) A.n = cntF (rtF A c pre) A.n := cnt_cong (fun q _ => by
          unfold rtF; rw [decide_eq_decide, mem_app1]
          exact ⟨fun z => ⟨z.1.1, z.2⟩, fun z => ⟨⟨z.1, fun w => z.2.2 (w ▸ e2)⟩, z.2⟩⟩)
        rw [if_pos e2, h2, show cntF (rsF A c (pre ++ [p])) A.n = cntF (rsF A c pre) A.n - 1 by omega, decide_eq_true e2, Bool.and_true]
      · have h1 : cntF (rtF A c (pre ++ [p])) A.n + 1 = cntF (rtF A c pre) A.n := cnt_rm (p := p) (decide_eq_true ⟨e1.1, e1.2, e2⟩) (decide_eq_false (fun z => (mem_app1.mp z.1).2 rfl)) (fun q hq => by unfold rtF; rw [decide_eq_decide, mem_app1]; exact ⟨fun z => ⟨z.1.1, z.2⟩, fun z => ⟨⟨z.1, hq⟩, z.2⟩⟩) hp
        have h2 : cntF (rsF A c (pre ++ [p])) A.n = cntF (rsF A c pre) A.n := cnt_cong (fun q _ => by
          unfold rsF; rw [decide_eq_decide, mem_app1]
          exact ⟨fun z => ⟨z.1.1, z.2⟩, fun z => ⟨⟨z.1, fun w => e2 (w ▸ z.2.2)⟩, z.2⟩⟩)
        rw [if_neg e2, h2, show cntF (rtF A c (pre ++ [p])) A.n = cntF (rtF A c pre) A.n - 1 by omega, decide_eq_false e2, Bool.and_false, Bool.or_false]
    · rw [if_neg e1, if_neg e1]
theorem cntF_range (f : Nat → Bool) : ∀ k, cntF f k = (List.range k).countP f
  | 0 => rfl
  | k + 1 => by
    rw [List.range_succ, List.countP_append, ← cntF_range f k]
    cases e : f k with
    | true => rw [cntF_t e]; simp [e]
    | false => rw [cntF_f e]; simp [e]
theorem map_getD (l : List Nat) : (List.range l.length).map (fun k => l.getD k 0) = l := by
  apply List.ext_getElem
  · simp
  · intro i h1 h2
    simp only [List.getElem_map, List.getElem_range, List.getD_eq_getElem?_getD, List.getElem?_eq_getElem h2]
    rfl
theorem chain_cnt {A : YA} (h : WFY A) {c : Nat} (hc : c < 2) (P : Nat → Bool) : cntF (fun k => P ((A.ch c).getD k 0)) (A.ch c).length = cntF (fun p => decide (A.co p = c) && P p) A.n := by
  rw [cntF_range, cntF_range]
  have e1 : (List.range (A.ch c).length).countP (fun k => P ((A.ch c).getD k 0)) = (A.ch c).countP P := by
    have := congrArg (List.countP P) (map_getD (A.ch c))
    rw [List.countP_map] at this
    exact this
  have hp : (A.ch c).Perm ((List.range A.n).filter (fun p => decide (A.co p = c))) := by
    refine (List.perm_ext_iff_of_nodup (h.2.2.2.1 c hc) (List.nodup_range.filter _)).mpr (fun a => ?_)
    rw [List.mem_filter, List.mem_range, decide_eq_true_eq]
    exact ⟨fun q => ⟨h.lt hc q, h.co hc q⟩, fun q => q.2 ▸ h.mco q.1⟩
  rw [e1, hp.countP_eq, List.countP_filter]
  exact List.countP_congr (fun a _ => by rw [Bool.and_comm])
theorem tgL_0 {A : YA} (h : WFY A) {c : Nat} (hc : c < 2) (h7 : (A.ch c).length ≤ 7) : ((tgL A c (A.ch c).length [] false : Nat) : Int) = togV (A.ch c).length (sisY A (A.ch c)) := by
  have e1 : cntF (rsF A c []) A.n = sisY A (A.ch c) := by
    unfold sisY
    rw [chain_cnt h hc (fun p => decide (A.att 0 p = 3))]
    exact cnt_cong (fun p _ => by unfold rsF; simp)
  have e2 : cntF (rtF A c []) A.n = cntF (fun k => decide (A.att 0 ((A.ch c).getD k 0) ≠ 3)) (A.ch c).length := by
    rw [chain_cnt h hc (fun p => decide (A.att 0 p ≠ 3))]
    exact cnt_cong (fun p _ => by unfold rtF; simp)
  have e3 : ∀ k, cntF (fun k => decide (A.att 0 ((A.ch c).getD k 0) = 3)) k + cntF (fun k => decide (A.att 0 ((A.ch c).getD k 0) ≠ 3)) k = k := by
    intro k
    induction k with
    | zero => rfl
    | succ k ih =>
      by_cases e : A.att 0 ((A.ch c).getD k 0) = 3
      · rw [cntF_t (decide_eq_true e), cntF_f (decide_eq_false (fun z => z e))]; omega
      · rw [cntF_f (decide_eq_false e), cntF_t (decide_eq_true e)]; omega
  have e4 := e3 (A.ch c).length
  have e5 : sisY A (A.ch c) + cntF (rtF A c []) A.n = (A.ch c).length := by rw [e2]; exact e4
  rw [tgL_C, e1]
  generalize cntF (rtF A c []) A.n = t at e5
  generalize sisY A (A.ch c) = s at e5
  rw [← e5]
  unfold togV
  rw [Nat.add_sub_cancel_left]
  have := tgC_ok0 ⟨s, by omega⟩ ⟨t, by omega⟩ (by show s + t ≤ 7; omega)
  exact this
/-- togetherIn with k more to place -/
def TGc (g : WG) (d k r c sz : Nat) (T : TT) (A : YA) : Prop := ∀ (M : MM) (pre : List Nat) (u are : Int) (Q : MVal → TT → MM → Nat → Prop), MN M r A → seenL u pre → pre.length + k = (A.ch c).length → (∀ q, q ∈ pre → q < A.n) → (∀ j, j < pre.length → M (r + 27) j = ((pre.getD j 0 : Nat) : Int)) → (are = 0 ∨ are = 1) → (∀ M', (∀ q j, ¬ (q = r + 27 ∧ pre.length ≤ j) → M' q j = M q j) → Q (vI ((tgL A c k pre (decide (are = 1)) : Nat) : Int)) T M' sz) → Ct g d mX7_togetherIn [vR r, vI ((c : Nat) : Int), vI ((pre.length : Nat) : Int), vI u, vI are] T M sz 0 0 Q
def a_together (S : ST) (c : Int) : Int × ST := if ¬ (c = 0 ∨ c = 1) then rA S 0 else if 7 < (S.1.ch c.toNat).length then rA S 4 else (togV (S.1.ch c.toNat).length (sisY S.1 (S.1.ch c.toNat)), S)
set_option maxHeartbeats 4000000 in
theorem lp3_X6_ordersTogether {g : WG} {d : Nat} {T : TT} {M : MM} {sz : Nat} {Q : MVal → TT → MM → Nat → Prop} {x : CX} (hx : OKx g x RX6 cX6_ordersTogether (d + 1)) (hr : RTx g x (some .int) Q) {n s : Nat} (hs : s ≤ n) (hn : n ≤ 7) {t : Nat} (ht : t + s = n) (hQ : Q (vI (togV n s)) T M sz) (i : Nat) (hi : i ≤ s) : Jd g x 51 [vI (((n : Nat) : Int)), vI (((s : Nat) : Int)), vI (facN n), vI (((t : Nat) : Int)), vI (apN t i), vI (((i : Nat) : Int))] [] T M sz 0 0 := by
  have hfr := fac_rg hn
  have har := ap_rg (t := t) (i := i) (by omega)
  refine J_iload hx dX6_ordersTogether_51 rfl ?_
  refine J_iload_n hx dX6_ordersTogether_53 (i := 1) rfl rfl ?_
  refine J_icmp_ge (tgt := 74) hx dX6_ordersTogether_54 (by decide) (fun c1 => ?_) (fun c1 => ?_)
  · refine J_iload_n hx dX6_ordersTogether_74 (i := 2) rfl rfl ?_
    refine J_iload hx dX6_ordersTogether_75 rfl ?_
    refine J_isub (v := facN n - (apN t i)) hx dX6_ordersTogether_77 (w32_id (by omega) (by omega)) ?_
    refine J_iret hx hr dX6_ordersTogether_78 ?_
    have ei : i = s := by omega
    subst ei
    exact Qv hQ (by unfold togV; rw [show n - i = t by omega])
  · refine J_iload hx dX6_ordersTogether_57 rfl ?_
    refine J_iload_n hx dX6_ordersTogether_59 (i := 3) rfl rfl ?_
    refine J_iconst (v := 1) hx dX6_ordersTogether_60 (by decide) ?_
    refine J_iadd (v := ((t : Nat) : Int) + 1) hx dX6_ordersTogether_61 (w32_id (by omega) (by omega)) ?_
    refine J_iload hx dX6_ordersTogether_62 rfl ?_
    refine J_isub (v := ((t : Nat) : Int) + 1 - ((i : Nat) : Int)) hx dX6_ordersTogether_64 (w32_id (by omega) (by omega)) ?_
    refine J_imul (v := apN t (i + 1)) hx dX6_ordersTogether_65 (by have h9 := ap_rg (t := t) (i := i + 1) (by omega); exact w32_id (x := apN t (i + 1)) (by omega) (by omega)) ?_
    refine J_istore (lsn := [vI (((n : Nat) : Int)), vI (((s : Nat) : Int)), vI (facN n), vI (((t : Nat) : Int)), vI (apN t (i + 1)), vI (((i : Nat) : Int))]) hx dX6_ordersTogether_66 (Nat.le_of_ble_eq_true rfl) rfl rfl ?_
    refine J_iinc (v := ((i : Nat) : Int) + 1) (lsn := [vI (((n : Nat) : Int)), vI (((s : Nat) : Int)), vI (facN n), vI (((t : Nat) : Int)), vI (apN t (i + 1)), vI (((i : Nat) : Int) + 1)]) hx dX6_ordersTogether_68 rfl (jinc1 (by omega) (by omega)) rfl rfl ?_
    refine J_goto (tgt := 51) hx dX6_ordersTogether_71 (by decide) ?_
    exact lp3_X6_ordersTogether hx hr hs hn ht hQ (i + 1) (by omega)
termination_by s - i
decreasing_by all_goals omega

set_option maxHeartbeats 4000000 in
theorem lp2_X6_ordersTogether {g : WG} {d : Nat} {T : TT} {M : MM} {sz : Nat} {Q : MVal → TT → MM → Nat → Prop} {x : CX} (hx : OKx g x RX6 cX6_ordersTogether (d + 1)) (hr : RTx g x (some .int) Q) {n s : Nat} (hs : s ≤ n) (hn : n ≤ 7) {t : Nat} (ht : t + s = n) (hQ : Q (vI (togV n s)) T M sz) (k : Nat) (hk : k = 0 ∨ k + 1 ≤ t) : Jd g x 29 [vI (((n : Nat) : Int)), vI (((s : Nat) : Int)), vI (facN n), vI (((t : Nat) : Int)), vI (facN (k + 1)), vI (((k + 2 : Nat) : Int))] [] T M sz 0 0 := by
  have hfr := fac_rg hn
  refine J_iload hx dX6_ordersTogether_29 rfl ?_
  refine J_iload_n hx dX6_ordersTogether_31 (i := 3) rfl rfl ?_
  refine J_icmp_gt (tgt := 48) hx dX6_ordersTogether_32 (by decide) (fun c1 => ?_) (fun c1 => ?_)
  · refine J_iconst (v := 0) hx dX6_ordersTogether_48 (by decide) ?_
    refine J_istore (lsn := [vI (((n : Nat) : Int)), vI (((s : Nat) : Int)), vI (facN n), vI (((t : Nat) : Int)), vI (facN (k + 1)), vI (0)]) hx dX6_ordersTogether_49 (Nat.le_of_ble_eq_true rfl) rfl rfl ?_
    have e9 : facN (k + 1) = facN t := by
      rcases hk with rfl | hk
      · rcases (show t = 0 ∨ t = 1 by omega) with rfl | rfl <;> rfl
      · rw [show k + 1 = t by omega]
    rw [e9]
    exact lp3_X6_ordersTogether hx hr hs hn ht hQ 0 (by omega)
  · refine J_iload hx dX6_ordersTogether_35 rfl ?_
    refine J_iload hx dX6_ordersTogether_37 rfl ?_
    refine J_imul (v := facN (k + 1 + 1)) hx dX6_ordersTogether_39 (by have h9 := fac_rg (n := k + 1 + 1) (by omega); exact w32_id (x := facN (k + 1 + 1)) (by omega) (by omega)) ?_
    refine J_istore (lsn := [vI (((n : Nat) : Int)), vI (((s : Nat) : Int)), vI (facN n), vI (((t : Nat) : Int)), vI (facN (k + 1 + 1)), vI (((k + 2 : Nat) : Int))]) hx dX6_ordersTogether_40 (Nat.le_of_ble_eq_true rfl) rfl rfl ?_
    refine J_iinc (v := ((k + 1 + 2 : Nat) : Int)) (lsn := [vI (((n : Nat) : Int)), vI (((s : Nat) : Int)), vI (facN n), vI (((t : Nat) : Int)), vI (facN (k + 1 + 1)), vI (((k + 1 + 2 : Nat) : Int))]) hx dX6_ordersTogether_42 rfl (by rw [jinc1 (by omega) (by omega)]; omega) rfl rfl ?_
    refine J_goto (tgt := 29) hx dX6_ordersTogether_45 (by decide) ?_
    exact lp2_X6_ordersTogether hx hr hs hn ht hQ (k + 1) (by omega)
termination_by t - k
decreasing_by all_goals omega

set_option maxHeartbeats 4000000 in
theorem lp_X6_ordersTogether {g : WG} {d : Nat} {T : TT} {M : MM} {sz : Nat} {Q : MVal → TT → MM → Nat → Prop} {x : CX} (hx : OKx g x RX6 cX6_ordersTogether (d + 1)) (hr : RTx g x (some .int) Q) {n s : Nat} (hs : s ≤ n) (hn : n ≤ 7) (hQ : Q (vI (togV n s)) T M sz) (k : Nat) (u4 u5 : MVal) (hk : k = 0 ∨ k + 1 ≤ n) : Jd g x 4 [vI (((n : Nat) : Int)), vI (((s : Nat) : Int)), vI (facN (k + 1)), vI (((k + 2 : Nat) : Int)), u4, u5] [] T M sz 0 0 := by
  refine J_iload_n hx dX6_ordersTogether_4 (i := 3) rfl rfl ?_
  refine J_iload_n hx dX6_ordersTogether_5 (i := 0) rfl rfl ?_
  refine J_icmp_gt (tgt := 19) hx dX6_ordersTogether_6 (by decide) (fun c1 => ?_) (fun c1 => ?_)
  · refine J_iload_n hx dX6_ordersTogether_19 (i := 0) rfl rfl ?_
    refine J_iload_n hx dX6_ordersTogether_20 (i := 1) rfl rfl ?_
    refine J_isub (v := ((n - s : Nat) : Int)) hx dX6_ordersTogether_21 (by rw [w32_id (by omega) (by omega)]; omega) ?_
    refine J_istore_n (lsn := [vI (((n : Nat) : Int)), vI (((s : Nat) : Int)), vI (facN (k + 1)), vI (((n - s : Nat) : Int)), u4, u5]) hx dX6_ordersTogether_22 (i := 3) rfl (Nat.le_of_ble_eq_true rfl) rfl rfl ?_
    refine J_iconst (v := 1) hx dX6_ordersTogether_23 (by decide) ?_
    refine J_istore (lsn := [vI (((n : Nat) : Int)), vI (((s : Nat) : Int)), vI (facN (k + 1)), vI (((n - s : Nat) : Int)), vI (1), u5]) hx dX6_ordersTogether_24 (Nat.le_of_ble_eq_true rfl) rfl rfl ?_
    refine J_iconst (v := 2) hx dX6_ordersTogether_26 (by decide) ?_
    refine J_istore (lsn := [vI (((n : Nat) : Int)), vI (((s : Nat) : Int)), vI (facN (k + 1)), vI (((n - s : Nat) : Int)), vI (1), vI (2)]) hx dX6_ordersTogether_27 (Nat.le_of_ble_eq_true rfl) rfl rfl ?_
    have e9 : facN (k + 1) = facN n := by
      rcases hk with rfl | hk
      · rcases (show n = 0 ∨ n = 1 by omega) with rfl | rfl <;> rfl
      · rw [show k + 1 = n by omega]
    rw [e9]
    exact lp2_X6_ordersTogether hx hr hs hn (t := n - s) (by omega) hQ 0 (Or.inl rfl)
  · refine J_iload_n hx dX6_ordersTogether_9 (i := 2) rfl rfl ?_
    refine J_iload_n hx dX6_ordersTogether_10 (i := 3) rfl rfl ?_
    refine J_imul (v := facN (k + 1 + 1)) hx dX6_ordersTogether_11 (by have h9 := fac_rg (n := k + 1 + 1) (by omega); exact w32_id (x := facN (k + 1 + 1)) (by omega) (by omega)) ?_
    refine J_istore_n (lsn := [vI (((n : Nat) : Int)), vI (((s : Nat) : Int)), vI (facN (k + 1 + 1)), vI (((k + 2 : Nat) : Int)), u4, u5]) hx dX6_ordersTogether_12 (i := 2) rfl (Nat.le_of_ble_eq_true rfl) rfl rfl ?_
    refine J_iinc (v := ((k + 1 + 2 : Nat) : Int)) (lsn := [vI (((n : Nat) : Int)), vI (((s : Nat) : Int)), vI (facN (k + 1 + 1)), vI (((k + 1 + 2 : Nat) : Int)), u4, u5]) hx dX6_ordersTogether_13 rfl (by rw [jinc1 (by omega) (by omega)]; omega) rfl rfl ?_
    refine J_goto (tgt := 4) hx dX6_ordersTogether_16 (by decide) ?_
    exact lp_X6_ordersTogether hx hr hs hn hQ (k + 1) _ _ (by omega)
termination_by n - k
decreasing_by all_goals omega

set_option maxHeartbeats 4000000 in
theorem c_X6_ordersTogether {g : WG} {d : Nat} {T : TT} {M : MM} {sz : Nat} {Q : MVal → TT → MM → Nat → Prop} {n s : Nat} (hs : s ≤ n) (hn : n ≤ 7) (hQ : Q (vI (togV n s)) T M sz) : Ct g (d + 1) mX6_ordersTogether [vI (((n : Nat) : Int)), vI (((s : Nat) : Int))] T M sz 0 0 Q := by
  refine Ct_of2 (ls := [vI (((n : Nat) : Int)), vI (((s : Nat) : Int)), vU, vU, vU, vU]) okX6_ordersTogether rfl (Nat.le_of_ble_eq_true rfl) rfl ?_
  intro x hx hr hnm
  refine J_iconst (v := 1) hx dX6_ordersTogether_0 (by decide) ?_
  refine J_istore_n (lsn := [vI (((n : Nat) : Int)), vI (((s : Nat) : Int)), vI (1), vU, vU, vU]) hx dX6_ordersTogether_1 (i := 2) rfl (Nat.le_of_ble_eq_true rfl) rfl rfl ?_
  refine J_iconst (v := 2) hx dX6_ordersTogether_2 (by decide) ?_
  refine J_istore_n (lsn := [vI (((n : Nat) : Int)), vI (((s : Nat) : Int)), vI (1), vI (2), vU, vU]) hx dX6_ordersTogether_3 (i := 3) rfl (Nat.le_of_ble_eq_true rfl) rfl rfl ?_
  exact lp_X6_ordersTogether hx hr hs hn hQ 0 _ _ (Or.inl rfl)

set_option maxHeartbeats 4000000 in
theorem c_X6_together {g : WG} {d : Nat} {T : TT} {M : MM} {o sz : Nat} {S : ST} {Q : MVal → TT → MM → Nat → Prop} (hC : CT T o) (hN : CN M o S) (hW : WFS S) {c : Int} (h_c : -2147483648 ≤ c ∧ c ≤ 2147483647) (hQ : CQ o T M sz Q (a_together S c)) : Ct g (d + 3) mX6_together [vR (o), vI (c)] T M sz 0 0 Q := by
  refine Ct_of2 (ls := [vR (o), vI (c)]) okX6_together rfl (Nat.le_of_ble_eq_true rfl) rfl ?_
  intro x hx hr hnm
  refine J_iload_n hx dX6_together_0 (i := 1) rfl rfl ?_
  refine J_invS (As := [vI (c)]) (st := []) hx lk_X6_132 okX6_isChain dX6_together_1 rfl rfl (Nat.le_of_ble_eq_true rfl) (Nat.zero_add _).symm (Nat.zero_add _).symm rfl (c_X6_isChain (a := c) ?_)
  intro v1 hv1
  refine J_if_ne (tgt := 14) hx dX6_together_4 (by decide) (fun c2 => ?_) (fun c2 => ?_)
  · obtain ⟨cN, rfl⟩ : ∃ z : Nat, c = ((z : Nat) : Int) := ⟨c.toNat, by omega⟩
    refine J_aload_n hx dX6_together_14 (i := 0) rfl rfl ?_
    refine J_getR (b := o + 1) hx fl_X6_10 cl_X6 dX6_together_15 hC.o (by decide) rfl hC.r0 ?_
    refine J_getR (b := o + 1 + 10) hx fl_X6_199 cl_X5 dX6_together_18 hC.y0.o (by decide) rfl hC.y0.r7 ?_
    refine J_iload_n hx dX6_together_21 (i := 1) rfl rfl ?_
    refine J_iald2 (v := (((S.1.ch cN).length : Nat) : Int)) hx cN dX6_together_22 hC.y0.k10 (by omega) (hC.y0.l10 (by omega)) (hN.y.sz (by omega)) ?_
    have rg3 := hW.y.len8 (c := cN) (by omega)
    have rg4 := hW.y.lenN (c := cN) (by omega)
    refine J_bipush (v := 7) hx dX6_together_23 (by decide) ?_
    refine J_icmp_le (tgt := 35) hx dX6_together_25 (by decide) (fun c5 => ?_) (fun c5 => ?_)
    · refine J_aload_n hx dX6_together_35 (i := 0) rfl rfl ?_
      refine J_getR (b := o + 1) hx fl_X6_10 cl_X6 dX6_together_36 hC.o (by decide) rfl hC.r0 ?_
      refine J_getR (b := o + 1 + 10) hx fl_X6_199 cl_X5 dX6_together_39 hC.y0.o (by decide) rfl hC.y0.r7 ?_
      refine J_iload_n hx dX6_together_42 (i := 1) rfl rfl ?_
      refine J_iald2 (v := (((S.1.ch cN).length : Nat) : Int)) hx cN dX6_together_43 hC.y0.k10 (by omega) (hC.y0.l10 (by omega)) (hN.y.sz (by omega)) ?_
      have rg6 := hW.y.len8 (c := cN) (by omega)
      have rg7 := hW.y.lenN (c := cN) (by omega)
      refine J_aload_n hx dX6_together_44 (i := 0) rfl rfl ?_
      refine J_getR (b := o + 1) hx fl_X6_10 cl_X6 dX6_together_45 hC.o (by decide) rfl hC.r0 ?_
      refine J_iload_n hx dX6_together_48 (i := 1) rfl rfl ?_
      refine J_invV (As := [vI (((cN : Nat) : Int))]) (st := [vI ((((S.1.ch cN).length : Nat) : Int))]) hx lk_X6_126 okX5_sistersIn dX6_together_49 hC.y0.o (by decide) rfl rfl rfl (Nat.le_of_ble_eq_true rfl) (Nat.zero_add _).symm (Nat.zero_add _).symm rfl (c_X5_sistersIn hC.y0 hN.y hW.y (c := cN) (by omega) ?_)
      refine J_invS (As := [vI ((((S.1.ch cN).length : Nat) : Int)), vI (((sisY S.1 (S.1.ch cN) : Nat) : Int))]) (st := []) hx lk_X6_292 okX6_ordersTogether dX6_together_52 rfl rfl (Nat.le_of_ble_eq_true rfl) (Nat.zero_add _).symm (Nat.zero_add _).symm rfl (c_X6_ordersTogether (n := (S.1.ch cN).length) (s := sisY S.1 (S.1.ch cN)) (cntF_le _ _) (by omega) ?_)
      refine J_iret hx hr dX6_together_55 ?_
      exact hQ.same (v := togV (S.1.ch cN).length (sisY S.1 (S.1.ch cN))) (S := S) (by
        unfold a_together
        all_goals (try unfold overY at *)
        all_goals (try unfold mayQ at *)
        all_goals (try simp only [Int.toNat_natCast] at *)
        all_goals ((repeat' split) <;> first | rfl | (exfalso; omega) | (congr 1; omega))) hC hN
    · refine J_aload_n hx dX6_together_28 (i := 0) rfl rfl ?_
      refine J_bipush (v := -6) hx dX6_together_29 (by decide) ?_
      refine J_invV (As := [vI ((-6))]) (st := []) hx lk_X6_67 okX6_refuse dX6_together_31 hC.o (by decide) rfl rfl rfl (Nat.le_of_ble_eq_true rfl) (Nat.zero_add _).symm (Nat.zero_add _).symm rfl (c_X6_refuse hC hN hW (k := 4) (by decide) ?_)
      intro M1 hN1 hf1
      refine J_iret hx hr dX6_together_34 ?_
      exact hQ.to (v := -((4 + 2 : Nat) : Int)) (S := rfS S 4) (by
        unfold a_together
        all_goals (try unfold overY at *)
        all_goals (try unfold mayQ at *)
        all_goals (try simp only [Int.toNat_natCast] at *)
        all_goals ((repeat' split) <;> first | rfl | (exfalso; omega) | (congr 1; omega))) hC hN1 hf1
  · refine J_aload_n hx dX6_together_7 (i := 0) rfl rfl ?_
    refine J_bipush (v := -2) hx dX6_together_8 (by decide) ?_
    refine J_invV (As := [vI ((-2))]) (st := []) hx lk_X6_67 okX6_refuse dX6_together_10 hC.o (by decide) rfl rfl rfl (Nat.le_of_ble_eq_true rfl) (Nat.zero_add _).symm (Nat.zero_add _).symm rfl (c_X6_refuse hC hN hW (k := 0) (by decide) ?_)
    intro M1 hN1 hf1
    refine J_iret hx hr dX6_together_13 ?_
    exact hQ.to (v := -((0 + 2 : Nat) : Int)) (S := rfS S 0) (by
      unfold a_together
      all_goals (try unfold overY at *)
      all_goals (try unfold mayQ at *)
      all_goals (try simp only [Int.toNat_natCast] at *)
      all_goals ((repeat' split) <;> first | rfl | (exfalso; omega) | (congr 1; omega))) hC hN1 hf1

theorem getD_mem {l : List Nat} {k : Nat} (h : k < l.length) : l.getD k 0 ∈ l := by
  rw [List.getD_eq_getElem?_getD, List.getElem?_eq_getElem h]
  exact List.getElem_mem h
set_option maxHeartbeats 4000000 in
theorem tg_0 {g : WG} {d : Nat} {T : TT} {r sz c : Nat} {A : YA} (hT : MT T r) (hW : WFY A) (hc : c < 2) : TGc g (d + 3) 0 r c sz T A := by
  intro M pre u are Q hN hs hk hlt hst hab hQ
  refine Ct_of2 (ls := [vR (r), vI (((c : Nat) : Int)), vI (((pre.length : Nat) : Int)), vI (u), vI (are), vU, vU, vU]) okX7_togetherIn rfl (Nat.le_of_ble_eq_true rfl) rfl ?_
  intro x hx hr hnm
  have hl8 := hW.len8 hc
  have hY1 := hN
  refine J_iload_n hx dX7_togetherIn_0 (i := 2) rfl rfl ?_
  refine J_aload_n hx dX7_togetherIn_1 (i := 0) rfl rfl ?_
  refine J_getR (b := r + 25) hx fl_X7_57 cl_X7 dX7_togetherIn_2 hT.o (by decide) rfl hT.r16 ?_
  refine J_iload_n hx dX7_togetherIn_5 (i := 1) rfl rfl ?_
  refine J_iald2 (v := (((A.ch c).length : Nat) : Int)) hx c dX7_togetherIn_6 hT.k25 (by omega) (hT.l25 (by omega)) (hY1.sz (by omega)) ?_
  have rg1 := hW.len8 (c := c) (by omega)
  have rg2 := hW.lenN (c := c) (by omega)
  refine J_icmp_ne (tgt := 21) hx dX7_togetherIn_7 (by decide) (fun c3 => ?_) (fun c3 => ?_)
  · exfalso; omega
  · refine J_iload hx dX7_togetherIn_10 rfl ?_
    refine J_if_eq (tgt := 19) hx dX7_togetherIn_12 (by decide) (fun c4 => ?_) (fun c4 => ?_)
    · refine J_iconst (v := 0) hx dX7_togetherIn_19 (by decide) ?_
      refine J_iret hx hr dX7_togetherIn_20 ?_
      exact Qv (hQ M (fun _ _ _ => rfl)) (by show (((if decide (are = 1) = true then 1 else 0 : Nat)) : Int) = 0; simp only [decide_eq_true_eq]; split <;> omega)
    · refine J_iconst (v := 1) hx dX7_togetherIn_15 (by decide) ?_
      refine J_goto (tgt := 20) hx dX7_togetherIn_16 (by decide) ?_
      refine J_iret hx hr dX7_togetherIn_20 ?_
      exact Qv (hQ M (fun _ _ _ => rfl)) (by show (((if decide (are = 1) = true then 1 else 0 : Nat)) : Int) = 1; simp only [decide_eq_true_eq]; split <;> omega)

set_option maxHeartbeats 4000000 in
theorem lp_X7_togetherIn {g : WG} {d : Nat} {T : TT} {r sz c k : Nat} {A : YA} (hT : MT T r) (hW : WFY A) (hc : c < 2)  {x : CX} {M : MM} {Q : MVal → TT → MM → Nat → Prop} (hx : OKx g x RX7 cX7_togetherIn (d + 4)) (hr : RTx g x (some .int) Q) (hI : TGc g (d + 3) k r c sz T A) {pre : List Nat} {u are : Int} (hN : MN M r A) (hs : seenL u pre) (hk : pre.length + (k + 1) = (A.ch c).length) (hk6 : k ≤ 6) (hlt : ∀ q, q ∈ pre → q < A.n) (hst : ∀ j, j < pre.length → M (r + 27) j = ((pre.getD j 0 : Nat) : Int)) (hab : are = 0 ∨ are = 1) (hQ : ∀ M', (∀ q j, ¬ (q = r + 27 ∧ pre.length ≤ j) → M' q j = M q j) → Q (vI ((tgL A c (k + 1) pre (decide (are = 1)) : Nat) : Int)) T M' sz) (i : Nat) (u7 : MVal) (M1 : MM) (hY1 : MN M1 r A) (hF1 : ∀ q j, ¬ (q = r + 27 ∧ pre.length ≤ j) → M1 q j = M q j) (hi : i ≤ A.n) : Jd g x 27 [vR (r), vI (((c : Nat) : Int)), vI (((pre.length : Nat) : Int)), vI (u), vI (are), vI (((sumN (tgF A c k pre (decide (are = 1))) i : Nat) : Int)), vI (((i : Nat) : Int)), u7] [] T M1 sz 0 0 := by
  have hn8 := hW.n8
  have hl8 := hW.len8 hc
  have hfy := tgF_le hW (c := c) (k := k) hk6 pre (decide (are = 1)) i (by omega)
  refine J_iload hx dX7_togetherIn_27 rfl ?_
  refine J_aload_n hx dX7_togetherIn_29 (i := 0) rfl rfl ?_
  refine J_getI2 (v := ((A.n : Nat) : Int)) hx fl_X7_82 cl_X7 dX7_togetherIn_30 hT.o (by decide) rfl hY1.pp ?_
  have rg1 := hW.n8
  refine J_icmp_ge (tgt := 142) hx dX7_togetherIn_33 (by decide) (fun c2 => ?_) (fun c2 => ?_)
  · refine J_iload hx dX7_togetherIn_142 rfl ?_
    refine J_iret hx hr dX7_togetherIn_144 ?_
    have ei : i = A.n := by omega
    subst ei
    exact hQ M1 hF1
  · refine J_iload_n hx dX7_togetherIn_36 (i := 3) rfl rfl ?_
    refine J_iload hx dX7_togetherIn_37 rfl ?_
    refine J_ishr (v := jshr u ((i : Nat) : Int)) hx dX7_togetherIn_39 rfl ?_
    refine J_iconst (v := 1) hx dX7_togetherIn_40 (by decide) ?_
    refine J_iand (v := jand (jshr u ((i : Nat) : Int)) 1) hx dX7_togetherIn_41 rfl ?_
    refine J_if_ne (tgt := 136) hx dX7_togetherIn_42 (by decide) (fun c3 => ?_) (fun c3 => ?_)
    · refine J_iinc (v := ((i : Nat) : Int) + 1) (lsn := [vR (r), vI (((c : Nat) : Int)), vI (((pre.length : Nat) : Int)), vI (u), vI (are), vI (((sumN (tgF A c k pre (decide (are = 1))) i : Nat) : Int)), vI (((i : Nat) : Int) + 1), u7]) hx dX7_togetherIn_136 rfl (jinc1 (by omega) (by omega)) rfl rfl ?_
      refine J_goto (tgt := 27) hx dX7_togetherIn_139 (by decide) ?_
      have ef : sumN (tgF A c k pre (decide (are = 1))) (i + 1) = sumN (tgF A c k pre (decide (are = 1))) i := by
        show _ + tgF A c k pre (decide (are = 1)) i = _
        unfold tgF
        rw [if_neg (fun z => z.1 ((hs.2 i (by omega)).mp (by assumption))), Nat.add_zero]
      rw [← ef]
      exact lp_X7_togetherIn hT hW hc hx hr hI hN hs hk hk6 hlt hst hab hQ (i + 1) _ M1 hY1 hF1 (by omega)
    · refine J_aload_n hx dX7_togetherIn_45 (i := 0) rfl rfl ?_
      refine J_iload hx dX7_togetherIn_46 rfl ?_
      refine J_invV (As := [vI (((i : Nat) : Int))]) (st := []) hx lk_X7_119 okX7_chainAt dX7_togetherIn_48 hT.o (by decide) rfl rfl rfl (Nat.le_of_ble_eq_true rfl) (Nat.zero_add _).symm (Nat.zero_add _).symm rfl (c_X7_chainAt hT hY1 hW (p := i) (by omega) ?_)
      have rg4 := A.co2 i
      refine J_iload_n hx dX7_togetherIn_51 (i := 1) rfl rfl ?_
      refine J_icmp_ne (tgt := 136) hx dX7_togetherIn_52 (by decide) (fun c5 => ?_) (fun c5 => ?_)
      · refine J_iinc (v := ((i : Nat) : Int) + 1) (lsn := [vR (r), vI (((c : Nat) : Int)), vI (((pre.length : Nat) : Int)), vI (u), vI (are), vI (((sumN (tgF A c k pre (decide (are = 1))) i : Nat) : Int)), vI (((i : Nat) : Int) + 1), u7]) hx dX7_togetherIn_136 rfl (jinc1 (by omega) (by omega)) rfl rfl ?_
        refine J_goto (tgt := 27) hx dX7_togetherIn_139 (by decide) ?_
        have ef : sumN (tgF A c k pre (decide (are = 1))) (i + 1) = sumN (tgF A c k pre (decide (are = 1))) i := by
          show _ + tgF A c k pre (decide (are = 1)) i = _
          unfold tgF
          rw [if_neg (fun z => (by omega)), Nat.add_zero]
        rw [← ef]
        exact lp_X7_togetherIn hT hW hc hx hr hI hN hs hk hk6 hlt hst hab hQ (i + 1) _ M1 hY1 hF1 (by omega)
      · refine J_aload_n hx dX7_togetherIn_55 (i := 0) rfl rfl ?_
        refine J_getR (b := r + 27) hx fl_X7_76 cl_X7 dX7_togetherIn_56 hT.o (by decide) rfl hT.r34 ?_
        refine J_iload_n hx dX7_togetherIn_59 (i := 2) rfl rfl ?_
        refine J_iload hx dX7_togetherIn_60 rfl ?_
        refine J_iast hx pre.length dX7_togetherIn_62 hT.k27 (by omega) (hT.l27 (by omega)) ?_
        generalize eM2 : up2 M1 (r + 27) pre.length ((i : Nat) : Int) = M2
        have hM2a : M2 (r + 27) pre.length = ((i : Nat) : Int) := by rw [← eM2]; exact up2_at
        have hM2o : ∀ b9 j9, (b9 ≠ r + 27 ∨ j9 ≠ pre.length) → M2 b9 j9 = M1 b9 j9 := fun b9 j9 h9 => by rw [← eM2]; exact up2_ne h9
        have hM2r : ∀ b9, b9 ≠ r + 27 → M2 b9 = M1 b9 := fun b9 h9 => by rw [← eM2]; exact up2_row h9
        have hY2 : MN M2 r A := hY1.same (fun a9 j9 h9 => hM2o _ _ (Or.inl (by omega)))
        refine J_iload_n hx dX7_togetherIn_63 (i := 2) rfl rfl ?_
        refine J_if_le (tgt := 99) hx dX7_togetherIn_64 (by decide) (fun c6 => ?_) (fun c6 => ?_)
        · refine J_iconst (v := 0) hx dX7_togetherIn_99 (by decide) ?_
          refine J_istore (lsn := [vR (r), vI (((c : Nat) : Int)), vI (((pre.length : Nat) : Int)), vI (u), vI (are), vI (((sumN (tgF A c k pre (decide (are = 1))) i : Nat) : Int)), vI (((i : Nat) : Int)), vI (0)]) hx dX7_togetherIn_100 (Nat.le_of_ble_eq_true rfl) rfl rfl ?_
          refine J_iload hx dX7_togetherIn_102 rfl ?_
          refine J_aload_n hx dX7_togetherIn_104 (i := 0) rfl rfl ?_
          refine J_iload_n hx dX7_togetherIn_105 (i := 1) rfl rfl ?_
          refine J_iload_n hx dX7_togetherIn_106 (i := 2) rfl rfl ?_
          refine J_iconst (v := 1) hx dX7_togetherIn_107 (by decide) ?_
          refine J_iadd (v := (((pre ++ [i]).length : Nat) : Int)) hx dX7_togetherIn_108 (by rw [w32_id (by omega) (by omega), List.length_append, List.length_singleton]; omega) ?_
          refine J_iload_n hx dX7_togetherIn_109 (i := 3) rfl rfl ?_
          refine J_iconst (v := 1) hx dX7_togetherIn_110 (by decide) ?_
          refine J_iload hx dX7_togetherIn_111 rfl ?_
          refine J_ishl (v := jshl 1 ((i : Nat) : Int)) hx dX7_togetherIn_113 rfl ?_
          refine J_ior (v := jor u (jshl 1 ((i : Nat) : Int))) hx dX7_togetherIn_114 rfl ?_
          refine J_iload hx dX7_togetherIn_115 rfl ?_
          refine J_if_ne (tgt := 125) hx dX7_togetherIn_117 (by decide) (fun c7 => ?_) (fun c7 => ?_)
          · refine J_iconst (v := 1) hx dX7_togetherIn_125 (by decide) ?_
            refine J_goto (tgt := 130) hx dX7_togetherIn_126 (by decide) ?_
            have hnp : i ∉ pre := fun z => (hs.2 i (by omega)).mpr z (by assumption)
            have eb : decide ((1 : Int) = 1) = (decide (are = 1) || (lastS A pre && decide (A.att 0 i = 3))) := by
              unfold lastS
              rw [Bool.eq_iff_iff]
              simp only [Bool.or_eq_true, Bool.and_eq_true, decide_eq_true_eq]
              constructor <;> intro h9 <;> first | omega | exact h9.elim | trivial
            have ef : tgF A c k pre (decide (are = 1)) i = tgL A c k (pre ++ [i]) (decide ((1 : Int) = 1)) := by unfold tgF; rw [if_pos ⟨hnp, by omega⟩, eb]
            have hsum : ((sumN (tgF A c k pre (decide (are = 1))) (i + 1) : Nat) : Int) = ((sumN (tgF A c k pre (decide (are = 1))) i : Nat) : Int) + ((tgL A c k (pre ++ [i]) (decide ((1 : Int) = 1)) : Nat) : Int) := by rw [← ef]; exact Int.natCast_add _ _
            refine J_invV (As := [vI (((c : Nat) : Int)), vI ((((pre ++ [i]).length : Nat) : Int)), vI (jor u (jshl 1 ((i : Nat) : Int))), vI (1)]) (st := [vI (((sumN (tgF A c k pre (decide (are = 1))) i : Nat) : Int))]) hx lk_X7_317 okX7_togetherIn dX7_togetherIn_130 hT.o (by decide) rfl rfl rfl (Nat.le_of_ble_eq_true rfl) (Nat.zero_add _).symm (Nat.zero_add _).symm rfl (hI M2 (pre ++ [i]) _ 1 _ hY2 (seenL_s hs (by omega)) (by rw [List.length_append, List.length_singleton]; omega) (fun q9 h9 => by rcases List.mem_append.mp h9 with h9 | h9; exact hlt q9 h9; rw [List.mem_singleton.mp h9]; omega) (fun j9 h9 => ?_) (by omega) ?_)
            · rw [List.length_append, List.length_singleton] at h9
              rw [getD_app (by omega)]
              by_cases e9 : j9 = pre.length
              · rw [if_pos e9, e9, hM2a]
              · rw [if_neg e9, hM2o _ _ (Or.inr e9), hF1 _ _ (by omega)]; exact hst j9 (by omega)
            intro M3 hF3
            have hF4 : ∀ q j, ¬ (q = r + 27 ∧ pre.length ≤ j) → M3 q j = M q j := fun q9 j9 h9 => by rw [hF3 q9 j9 (by rw [List.length_append, List.length_singleton]; omega), hM2o q9 j9 (by omega)]; exact hF1 q9 j9 h9
            have hY3 : MN M3 r A := hN.same (fun a9 j9 h9 => hF4 a9 j9 (by omega))
            have hfz := tgF_le hW (c := c) (k := k) (by omega) pre (decide (are = 1)) (i + 1) (by omega)
            refine J_iadd (v := ((sumN (tgF A c k pre (decide (are = 1))) (i + 1) : Nat) : Int)) hx dX7_togetherIn_133 (by rw [w32_id (by omega) (by omega), ← hsum]) ?_
            refine J_istore (lsn := [vR (r), vI (((c : Nat) : Int)), vI (((pre.length : Nat) : Int)), vI (u), vI (are), vI (((sumN (tgF A c k pre (decide (are = 1))) (i + 1) : Nat) : Int)), vI (((i : Nat) : Int)), vI (0)]) hx dX7_togetherIn_134 (Nat.le_of_ble_eq_true rfl) rfl rfl ?_
            refine J_iinc (v := ((i : Nat) : Int) + 1) (lsn := [vR (r), vI (((c : Nat) : Int)), vI (((pre.length : Nat) : Int)), vI (u), vI (are), vI (((sumN (tgF A c k pre (decide (are = 1))) (i + 1) : Nat) : Int)), vI (((i : Nat) : Int) + 1), vI (0)]) hx dX7_togetherIn_136 rfl (jinc1 (by omega) (by omega)) rfl rfl ?_
            refine J_goto (tgt := 27) hx dX7_togetherIn_139 (by decide) ?_
            exact lp_X7_togetherIn hT hW hc hx hr hI hN hs hk hk6 hlt hst hab hQ (i + 1) _ M3 hY3 hF4 (by omega)
          · refine J_iload hx dX7_togetherIn_120 rfl ?_
            refine J_if_eq (tgt := 129) hx dX7_togetherIn_122 (by decide) (fun _ => ?_) (fun c9 => absurd c9 (by decide))
            refine J_iconst (v := 0) hx dX7_togetherIn_129 (by decide) ?_
            have hnp : i ∉ pre := fun z => (hs.2 i (by omega)).mpr z (by assumption)
            have eb : decide ((0 : Int) = 1) = (decide (are = 1) || (lastS A pre && decide (A.att 0 i = 3))) := by
              unfold lastS
              rw [Bool.eq_iff_iff]
              simp only [Bool.or_eq_true, Bool.and_eq_true, decide_eq_true_eq]
              constructor <;> intro h9 <;> first | omega | exact h9.elim | trivial
            have ef : tgF A c k pre (decide (are = 1)) i = tgL A c k (pre ++ [i]) (decide ((0 : Int) = 1)) := by unfold tgF; rw [if_pos ⟨hnp, by omega⟩, eb]
            have hsum : ((sumN (tgF A c k pre (decide (are = 1))) (i + 1) : Nat) : Int) = ((sumN (tgF A c k pre (decide (are = 1))) i : Nat) : Int) + ((tgL A c k (pre ++ [i]) (decide ((0 : Int) = 1)) : Nat) : Int) := by rw [← ef]; exact Int.natCast_add _ _
            refine J_invV (As := [vI (((c : Nat) : Int)), vI ((((pre ++ [i]).length : Nat) : Int)), vI (jor u (jshl 1 ((i : Nat) : Int))), vI (0)]) (st := [vI (((sumN (tgF A c k pre (decide (are = 1))) i : Nat) : Int))]) hx lk_X7_317 okX7_togetherIn dX7_togetherIn_130 hT.o (by decide) rfl rfl rfl (Nat.le_of_ble_eq_true rfl) (Nat.zero_add _).symm (Nat.zero_add _).symm rfl (hI M2 (pre ++ [i]) _ 0 _ hY2 (seenL_s hs (by omega)) (by rw [List.length_append, List.length_singleton]; omega) (fun q9 h9 => by rcases List.mem_append.mp h9 with h9 | h9; exact hlt q9 h9; rw [List.mem_singleton.mp h9]; omega) (fun j9 h9 => ?_) (by omega) ?_)
            · rw [List.length_append, List.length_singleton] at h9
              rw [getD_app (by omega)]
              by_cases e9 : j9 = pre.length
              · rw [if_pos e9, e9, hM2a]
              · rw [if_neg e9, hM2o _ _ (Or.inr e9), hF1 _ _ (by omega)]; exact hst j9 (by omega)
            intro M3 hF3
            have hF4 : ∀ q j, ¬ (q = r + 27 ∧ pre.length ≤ j) → M3 q j = M q j := fun q9 j9 h9 => by rw [hF3 q9 j9 (by rw [List.length_append, List.length_singleton]; omega), hM2o q9 j9 (by omega)]; exact hF1 q9 j9 h9
            have hY3 : MN M3 r A := hN.same (fun a9 j9 h9 => hF4 a9 j9 (by omega))
            have hfz := tgF_le hW (c := c) (k := k) (by omega) pre (decide (are = 1)) (i + 1) (by omega)
            refine J_iadd (v := ((sumN (tgF A c k pre (decide (are = 1))) (i + 1) : Nat) : Int)) hx dX7_togetherIn_133 (by rw [w32_id (by omega) (by omega), ← hsum]) ?_
            refine J_istore (lsn := [vR (r), vI (((c : Nat) : Int)), vI (((pre.length : Nat) : Int)), vI (u), vI (are), vI (((sumN (tgF A c k pre (decide (are = 1))) (i + 1) : Nat) : Int)), vI (((i : Nat) : Int)), vI (0)]) hx dX7_togetherIn_134 (Nat.le_of_ble_eq_true rfl) rfl rfl ?_
            refine J_iinc (v := ((i : Nat) : Int) + 1) (lsn := [vR (r), vI (((c : Nat) : Int)), vI (((pre.length : Nat) : Int)), vI (u), vI (are), vI (((sumN (tgF A c k pre (decide (are = 1))) (i + 1) : Nat) : Int)), vI (((i : Nat) : Int) + 1), vI (0)]) hx dX7_togetherIn_136 rfl (jinc1 (by omega) (by omega)) rfl rfl ?_
            refine J_goto (tgt := 27) hx dX7_togetherIn_139 (by decide) ?_
            exact lp_X7_togetherIn hT hW hc hx hr hI hN hs hk hk6 hlt hst hab hQ (i + 1) _ M3 hY3 hF4 (by omega)
        · refine J_aload_n hx dX7_togetherIn_67 (i := 0) rfl rfl ?_
          refine J_getR (b := r + 17) hx fl_X7_37 cl_X7 dX7_togetherIn_68 hT.o (by decide) rfl hT.r10 ?_
          refine J_iload hx dX7_togetherIn_71 rfl ?_
          refine J_iald2 (v := A.att 0 i) hx i dX7_togetherIn_73 hT.k17 (by omega) (hT.l17 (by omega)) (hY2.kd (by omega)) ?_
          have rg9 := hW.kd (p := i) (by omega)
          refine J_iconst (v := 3) hx dX7_togetherIn_74 (by decide) ?_
          refine J_icmp_ne (tgt := 99) hx dX7_togetherIn_75 (by decide) (fun c10 => ?_) (fun c10 => ?_)
          · refine J_iconst (v := 0) hx dX7_togetherIn_99 (by decide) ?_
            refine J_istore (lsn := [vR (r), vI (((c : Nat) : Int)), vI (((pre.length : Nat) : Int)), vI (u), vI (are), vI (((sumN (tgF A c k pre (decide (are = 1))) i : Nat) : Int)), vI (((i : Nat) : Int)), vI (0)]) hx dX7_togetherIn_100 (Nat.le_of_ble_eq_true rfl) rfl rfl ?_
            refine J_iload hx dX7_togetherIn_102 rfl ?_
            refine J_aload_n hx dX7_togetherIn_104 (i := 0) rfl rfl ?_
            refine J_iload_n hx dX7_togetherIn_105 (i := 1) rfl rfl ?_
            refine J_iload_n hx dX7_togetherIn_106 (i := 2) rfl rfl ?_
            refine J_iconst (v := 1) hx dX7_togetherIn_107 (by decide) ?_
            refine J_iadd (v := (((pre ++ [i]).length : Nat) : Int)) hx dX7_togetherIn_108 (by rw [w32_id (by omega) (by omega), List.length_append, List.length_singleton]; omega) ?_
            refine J_iload_n hx dX7_togetherIn_109 (i := 3) rfl rfl ?_
            refine J_iconst (v := 1) hx dX7_togetherIn_110 (by decide) ?_
            refine J_iload hx dX7_togetherIn_111 rfl ?_
            refine J_ishl (v := jshl 1 ((i : Nat) : Int)) hx dX7_togetherIn_113 rfl ?_
            refine J_ior (v := jor u (jshl 1 ((i : Nat) : Int))) hx dX7_togetherIn_114 rfl ?_
            refine J_iload hx dX7_togetherIn_115 rfl ?_
            refine J_if_ne (tgt := 125) hx dX7_togetherIn_117 (by decide) (fun c11 => ?_) (fun c11 => ?_)
            · refine J_iconst (v := 1) hx dX7_togetherIn_125 (by decide) ?_
              refine J_goto (tgt := 130) hx dX7_togetherIn_126 (by decide) ?_
              have hnp : i ∉ pre := fun z => (hs.2 i (by omega)).mpr z (by assumption)
              have eb : decide ((1 : Int) = 1) = (decide (are = 1) || (lastS A pre && decide (A.att 0 i = 3))) := by
                unfold lastS
                rw [Bool.eq_iff_iff]
                simp only [Bool.or_eq_true, Bool.and_eq_true, decide_eq_true_eq]
                constructor <;> intro h9 <;> first | omega | exact h9.elim | trivial
              have ef : tgF A c k pre (decide (are = 1)) i = tgL A c k (pre ++ [i]) (decide ((1 : Int) = 1)) := by unfold tgF; rw [if_pos ⟨hnp, by omega⟩, eb]
              have hsum : ((sumN (tgF A c k pre (decide (are = 1))) (i + 1) : Nat) : Int) = ((sumN (tgF A c k pre (decide (are = 1))) i : Nat) : Int) + ((tgL A c k (pre ++ [i]) (decide ((1 : Int) = 1)) : Nat) : Int) := by rw [← ef]; exact Int.natCast_add _ _
              refine J_invV (As := [vI (((c : Nat) : Int)), vI ((((pre ++ [i]).length : Nat) : Int)), vI (jor u (jshl 1 ((i : Nat) : Int))), vI (1)]) (st := [vI (((sumN (tgF A c k pre (decide (are = 1))) i : Nat) : Int))]) hx lk_X7_317 okX7_togetherIn dX7_togetherIn_130 hT.o (by decide) rfl rfl rfl (Nat.le_of_ble_eq_true rfl) (Nat.zero_add _).symm (Nat.zero_add _).symm rfl (hI M2 (pre ++ [i]) _ 1 _ hY2 (seenL_s hs (by omega)) (by rw [List.length_append, List.length_singleton]; omega) (fun q9 h9 => by rcases List.mem_append.mp h9 with h9 | h9; exact hlt q9 h9; rw [List.mem_singleton.mp h9]; omega) (fun j9 h9 => ?_) (by omega) ?_)
              · rw [List.length_append, List.length_singleton] at h9
                rw [getD_app (by omega)]
                by_cases e9 : j9 = pre.length
                · rw [if_pos e9, e9, hM2a]
                · rw [if_neg e9, hM2o _ _ (Or.inr e9), hF1 _ _ (by omega)]; exact hst j9 (by omega)
              intro M3 hF3
              have hF4 : ∀ q j, ¬ (q = r + 27 ∧ pre.length ≤ j) → M3 q j = M q j := fun q9 j9 h9 => by rw [hF3 q9 j9 (by rw [List.length_append, List.length_singleton]; omega), hM2o q9 j9 (by omega)]; exact hF1 q9 j9 h9
              have hY3 : MN M3 r A := hN.same (fun a9 j9 h9 => hF4 a9 j9 (by omega))
              have hfz := tgF_le hW (c := c) (k := k) (by omega) pre (decide (are = 1)) (i + 1) (by omega)
              refine J_iadd (v := ((sumN (tgF A c k pre (decide (are = 1))) (i + 1) : Nat) : Int)) hx dX7_togetherIn_133 (by rw [w32_id (by omega) (by omega), ← hsum]) ?_
              refine J_istore (lsn := [vR (r), vI (((c : Nat) : Int)), vI (((pre.length : Nat) : Int)), vI (u), vI (are), vI (((sumN (tgF A c k pre (decide (are = 1))) (i + 1) : Nat) : Int)), vI (((i : Nat) : Int)), vI (0)]) hx dX7_togetherIn_134 (Nat.le_of_ble_eq_true rfl) rfl rfl ?_
              refine J_iinc (v := ((i : Nat) : Int) + 1) (lsn := [vR (r), vI (((c : Nat) : Int)), vI (((pre.length : Nat) : Int)), vI (u), vI (are), vI (((sumN (tgF A c k pre (decide (are = 1))) (i + 1) : Nat) : Int)), vI (((i : Nat) : Int) + 1), vI (0)]) hx dX7_togetherIn_136 rfl (jinc1 (by omega) (by omega)) rfl rfl ?_
              refine J_goto (tgt := 27) hx dX7_togetherIn_139 (by decide) ?_
              exact lp_X7_togetherIn hT hW hc hx hr hI hN hs hk hk6 hlt hst hab hQ (i + 1) _ M3 hY3 hF4 (by omega)
            · refine J_iload hx dX7_togetherIn_120 rfl ?_
              refine J_if_eq (tgt := 129) hx dX7_togetherIn_122 (by decide) (fun _ => ?_) (fun c9 => absurd c9 (by decide))
              refine J_iconst (v := 0) hx dX7_togetherIn_129 (by decide) ?_
              have hnp : i ∉ pre := fun z => (hs.2 i (by omega)).mpr z (by assumption)
              have eb : decide ((0 : Int) = 1) = (decide (are = 1) || (lastS A pre && decide (A.att 0 i = 3))) := by
                unfold lastS
                rw [Bool.eq_iff_iff]
                simp only [Bool.or_eq_true, Bool.and_eq_true, decide_eq_true_eq]
                constructor <;> intro h9 <;> first | omega | exact h9.elim | trivial
              have ef : tgF A c k pre (decide (are = 1)) i = tgL A c k (pre ++ [i]) (decide ((0 : Int) = 1)) := by unfold tgF; rw [if_pos ⟨hnp, by omega⟩, eb]
              have hsum : ((sumN (tgF A c k pre (decide (are = 1))) (i + 1) : Nat) : Int) = ((sumN (tgF A c k pre (decide (are = 1))) i : Nat) : Int) + ((tgL A c k (pre ++ [i]) (decide ((0 : Int) = 1)) : Nat) : Int) := by rw [← ef]; exact Int.natCast_add _ _
              refine J_invV (As := [vI (((c : Nat) : Int)), vI ((((pre ++ [i]).length : Nat) : Int)), vI (jor u (jshl 1 ((i : Nat) : Int))), vI (0)]) (st := [vI (((sumN (tgF A c k pre (decide (are = 1))) i : Nat) : Int))]) hx lk_X7_317 okX7_togetherIn dX7_togetherIn_130 hT.o (by decide) rfl rfl rfl (Nat.le_of_ble_eq_true rfl) (Nat.zero_add _).symm (Nat.zero_add _).symm rfl (hI M2 (pre ++ [i]) _ 0 _ hY2 (seenL_s hs (by omega)) (by rw [List.length_append, List.length_singleton]; omega) (fun q9 h9 => by rcases List.mem_append.mp h9 with h9 | h9; exact hlt q9 h9; rw [List.mem_singleton.mp h9]; omega) (fun j9 h9 => ?_) (by omega) ?_)
              · rw [List.length_append, List.length_singleton] at h9
                rw [getD_app (by omega)]
                by_cases e9 : j9 = pre.length
                · rw [if_pos e9, e9, hM2a]
                · rw [if_neg e9, hM2o _ _ (Or.inr e9), hF1 _ _ (by omega)]; exact hst j9 (by omega)
              intro M3 hF3
              have hF4 : ∀ q j, ¬ (q = r + 27 ∧ pre.length ≤ j) → M3 q j = M q j := fun q9 j9 h9 => by rw [hF3 q9 j9 (by rw [List.length_append, List.length_singleton]; omega), hM2o q9 j9 (by omega)]; exact hF1 q9 j9 h9
              have hY3 : MN M3 r A := hN.same (fun a9 j9 h9 => hF4 a9 j9 (by omega))
              have hfz := tgF_le hW (c := c) (k := k) (by omega) pre (decide (are = 1)) (i + 1) (by omega)
              refine J_iadd (v := ((sumN (tgF A c k pre (decide (are = 1))) (i + 1) : Nat) : Int)) hx dX7_togetherIn_133 (by rw [w32_id (by omega) (by omega), ← hsum]) ?_
              refine J_istore (lsn := [vR (r), vI (((c : Nat) : Int)), vI (((pre.length : Nat) : Int)), vI (u), vI (are), vI (((sumN (tgF A c k pre (decide (are = 1))) (i + 1) : Nat) : Int)), vI (((i : Nat) : Int)), vI (0)]) hx dX7_togetherIn_134 (Nat.le_of_ble_eq_true rfl) rfl rfl ?_
              refine J_iinc (v := ((i : Nat) : Int) + 1) (lsn := [vR (r), vI (((c : Nat) : Int)), vI (((pre.length : Nat) : Int)), vI (u), vI (are), vI (((sumN (tgF A c k pre (decide (are = 1))) (i + 1) : Nat) : Int)), vI (((i : Nat) : Int) + 1), vI (0)]) hx dX7_togetherIn_136 rfl (jinc1 (by omega) (by omega)) rfl rfl ?_
              refine J_goto (tgt := 27) hx dX7_togetherIn_139 (by decide) ?_
              exact lp_X7_togetherIn hT hW hc hx hr hI hN hs hk hk6 hlt hst hab hQ (i + 1) _ M3 hY3 hF4 (by omega)
          · refine J_aload_n hx dX7_togetherIn_78 (i := 0) rfl rfl ?_
            refine J_getR (b := r + 17) hx fl_X7_37 cl_X7 dX7_togetherIn_79 hT.o (by decide) rfl hT.r10 ?_
            refine J_aload_n hx dX7_togetherIn_82 (i := 0) rfl rfl ?_
            refine J_getR (b := r + 27) hx fl_X7_76 cl_X7 dX7_togetherIn_83 hT.o (by decide) rfl hT.r34 ?_
            refine J_iload_n hx dX7_togetherIn_86 (i := 2) rfl rfl ?_
            refine J_iconst (v := 1) hx dX7_togetherIn_87 (by decide) ?_
            refine J_isub (v := ((pre.length - 1 : Nat) : Int)) hx dX7_togetherIn_88 (by rw [w32_id (by omega) (by omega)]; omega) ?_
            refine J_iald2 (v := ((pre.getD (pre.length - 1) 0 : Nat) : Int)) hx (pre.length - 1) dX7_togetherIn_89 hT.k27 (by omega) (hT.l27 (by omega)) (by rw [hM2o _ _ (Or.inr (by omega)), hF1 _ _ (by omega)]; exact hst _ (by omega)) ?_
            have rgq13 := hlt _ (show pre.getD (pre.length - 1) 0 ∈ pre from getD_mem (by omega))
            refine J_iald2 (v := A.att 0 (pre.getD (pre.length - 1) 0)) hx (pre.getD (pre.length - 1) 0) dX7_togetherIn_90 hT.k17 (by omega) (hT.l17 (by omega)) (hY2.kd (by omega)) ?_
            have rg14 := hW.kd (p := pre.getD (pre.length - 1) 0) (by omega)
            refine J_iconst (v := 3) hx dX7_togetherIn_91 (by decide) ?_
            refine J_icmp_ne (tgt := 99) hx dX7_togetherIn_92 (by decide) (fun c15 => ?_) (fun c15 => ?_)
            · refine J_iconst (v := 0) hx dX7_togetherIn_99 (by decide) ?_
              refine J_istore (lsn := [vR (r), vI (((c : Nat) : Int)), vI (((pre.length : Nat) : Int)), vI (u), vI (are), vI (((sumN (tgF A c k pre (decide (are = 1))) i : Nat) : Int)), vI (((i : Nat) : Int)), vI (0)]) hx dX7_togetherIn_100 (Nat.le_of_ble_eq_true rfl) rfl rfl ?_
              refine J_iload hx dX7_togetherIn_102 rfl ?_
              refine J_aload_n hx dX7_togetherIn_104 (i := 0) rfl rfl ?_
              refine J_iload_n hx dX7_togetherIn_105 (i := 1) rfl rfl ?_
              refine J_iload_n hx dX7_togetherIn_106 (i := 2) rfl rfl ?_
              refine J_iconst (v := 1) hx dX7_togetherIn_107 (by decide) ?_
              refine J_iadd (v := (((pre ++ [i]).length : Nat) : Int)) hx dX7_togetherIn_108 (by rw [w32_id (by omega) (by omega), List.length_append, List.length_singleton]; omega) ?_
              refine J_iload_n hx dX7_togetherIn_109 (i := 3) rfl rfl ?_
              refine J_iconst (v := 1) hx dX7_togetherIn_110 (by decide) ?_
              refine J_iload hx dX7_togetherIn_111 rfl ?_
              refine J_ishl (v := jshl 1 ((i : Nat) : Int)) hx dX7_togetherIn_113 rfl ?_
              refine J_ior (v := jor u (jshl 1 ((i : Nat) : Int))) hx dX7_togetherIn_114 rfl ?_
              refine J_iload hx dX7_togetherIn_115 rfl ?_
              refine J_if_ne (tgt := 125) hx dX7_togetherIn_117 (by decide) (fun c16 => ?_) (fun c16 => ?_)
              · refine J_iconst (v := 1) hx dX7_togetherIn_125 (by decide) ?_
                refine J_goto (tgt := 130) hx dX7_togetherIn_126 (by decide) ?_
                have hnp : i ∉ pre := fun z => (hs.2 i (by omega)).mpr z (by assumption)
                have eb : decide ((1 : Int) = 1) = (decide (are = 1) || (lastS A pre && decide (A.att 0 i = 3))) := by
                  unfold lastS
                  rw [Bool.eq_iff_iff]
                  simp only [Bool.or_eq_true, Bool.and_eq_true, decide_eq_true_eq]
                  constructor <;> intro h9 <;> first | omega | exact h9.elim | trivial
                have ef : tgF A c k pre (decide (are = 1)) i = tgL A c k (pre ++ [i]) (decide ((1 : Int) = 1)) := by unfold tgF; rw [if_pos ⟨hnp, by omega⟩, eb]
                have hsum : ((sumN (tgF A c k pre (decide (are = 1))) (i + 1) : Nat) : Int) = ((sumN (tgF A c k pre (decide (are = 1))) i : Nat) : Int) + ((tgL A c k (pre ++ [i]) (decide ((1 : Int) = 1)) : Nat) : Int) := by rw [← ef]; exact Int.natCast_add _ _
                refine J_invV (As := [vI (((c : Nat) : Int)), vI ((((pre ++ [i]).length : Nat) : Int)), vI (jor u (jshl 1 ((i : Nat) : Int))), vI (1)]) (st := [vI (((sumN (tgF A c k pre (decide (are = 1))) i : Nat) : Int))]) hx lk_X7_317 okX7_togetherIn dX7_togetherIn_130 hT.o (by decide) rfl rfl rfl (Nat.le_of_ble_eq_true rfl) (Nat.zero_add _).symm (Nat.zero_add _).symm rfl (hI M2 (pre ++ [i]) _ 1 _ hY2 (seenL_s hs (by omega)) (by rw [List.length_append, List.length_singleton]; omega) (fun q9 h9 => by rcases List.mem_append.mp h9 with h9 | h9; exact hlt q9 h9; rw [List.mem_singleton.mp h9]; omega) (fun j9 h9 => ?_) (by omega) ?_)
                · rw [List.length_append, List.length_singleton] at h9
                  rw [getD_app (by omega)]
                  by_cases e9 : j9 = pre.length
                  · rw [if_pos e9, e9, hM2a]
                  · rw [if_neg e9, hM2o _ _ (Or.inr e9), hF1 _ _ (by omega)]; exact hst j9 (by omega)
                intro M3 hF3
                have hF4 : ∀ q j, ¬ (q = r + 27 ∧ pre.length ≤ j) → M3 q j = M q j := fun q9 j9 h9 => by rw [hF3 q9 j9 (by rw [List.length_append, List.length_singleton]; omega), hM2o q9 j9 (by omega)]; exact hF1 q9 j9 h9
                have hY3 : MN M3 r A := hN.same (fun a9 j9 h9 => hF4 a9 j9 (by omega))
                have hfz := tgF_le hW (c := c) (k := k) (by omega) pre (decide (are = 1)) (i + 1) (by omega)
                refine J_iadd (v := ((sumN (tgF A c k pre (decide (are = 1))) (i + 1) : Nat) : Int)) hx dX7_togetherIn_133 (by rw [w32_id (by omega) (by omega), ← hsum]) ?_
                refine J_istore (lsn := [vR (r), vI (((c : Nat) : Int)), vI (((pre.length : Nat) : Int)), vI (u), vI (are), vI (((sumN (tgF A c k pre (decide (are = 1))) (i + 1) : Nat) : Int)), vI (((i : Nat) : Int)), vI (0)]) hx dX7_togetherIn_134 (Nat.le_of_ble_eq_true rfl) rfl rfl ?_
                refine J_iinc (v := ((i : Nat) : Int) + 1) (lsn := [vR (r), vI (((c : Nat) : Int)), vI (((pre.length : Nat) : Int)), vI (u), vI (are), vI (((sumN (tgF A c k pre (decide (are = 1))) (i + 1) : Nat) : Int)), vI (((i : Nat) : Int) + 1), vI (0)]) hx dX7_togetherIn_136 rfl (jinc1 (by omega) (by omega)) rfl rfl ?_
                refine J_goto (tgt := 27) hx dX7_togetherIn_139 (by decide) ?_
                exact lp_X7_togetherIn hT hW hc hx hr hI hN hs hk hk6 hlt hst hab hQ (i + 1) _ M3 hY3 hF4 (by omega)
              · refine J_iload hx dX7_togetherIn_120 rfl ?_
                refine J_if_eq (tgt := 129) hx dX7_togetherIn_122 (by decide) (fun _ => ?_) (fun c9 => absurd c9 (by decide))
                refine J_iconst (v := 0) hx dX7_togetherIn_129 (by decide) ?_
                have hnp : i ∉ pre := fun z => (hs.2 i (by omega)).mpr z (by assumption)
                have eb : decide ((0 : Int) = 1) = (decide (are = 1) || (lastS A pre && decide (A.att 0 i = 3))) := by
                  unfold lastS
                  rw [Bool.eq_iff_iff]
                  simp only [Bool.or_eq_true, Bool.and_eq_true, decide_eq_true_eq]
                  constructor <;> intro h9 <;> first | omega | exact h9.elim | trivial
                have ef : tgF A c k pre (decide (are = 1)) i = tgL A c k (pre ++ [i]) (decide ((0 : Int) = 1)) := by unfold tgF; rw [if_pos ⟨hnp, by omega⟩, eb]
                have hsum : ((sumN (tgF A c k pre (decide (are = 1))) (i + 1) : Nat) : Int) = ((sumN (tgF A c k pre (decide (are = 1))) i : Nat) : Int) + ((tgL A c k (pre ++ [i]) (decide ((0 : Int) = 1)) : Nat) : Int) := by rw [← ef]; exact Int.natCast_add _ _
                refine J_invV (As := [vI (((c : Nat) : Int)), vI ((((pre ++ [i]).length : Nat) : Int)), vI (jor u (jshl 1 ((i : Nat) : Int))), vI (0)]) (st := [vI (((sumN (tgF A c k pre (decide (are = 1))) i : Nat) : Int))]) hx lk_X7_317 okX7_togetherIn dX7_togetherIn_130 hT.o (by decide) rfl rfl rfl (Nat.le_of_ble_eq_true rfl) (Nat.zero_add _).symm (Nat.zero_add _).symm rfl (hI M2 (pre ++ [i]) _ 0 _ hY2 (seenL_s hs (by omega)) (by rw [List.length_append, List.length_singleton]; omega) (fun q9 h9 => by rcases List.mem_append.mp h9 with h9 | h9; exact hlt q9 h9; rw [List.mem_singleton.mp h9]; omega) (fun j9 h9 => ?_) (by omega) ?_)
                · rw [List.length_append, List.length_singleton] at h9
                  rw [getD_app (by omega)]
                  by_cases e9 : j9 = pre.length
                  · rw [if_pos e9, e9, hM2a]
                  · rw [if_neg e9, hM2o _ _ (Or.inr e9), hF1 _ _ (by omega)]; exact hst j9 (by omega)
                intro M3 hF3
                have hF4 : ∀ q j, ¬ (q = r + 27 ∧ pre.length ≤ j) → M3 q j = M q j := fun q9 j9 h9 => by rw [hF3 q9 j9 (by rw [List.length_append, List.length_singleton]; omega), hM2o q9 j9 (by omega)]; exact hF1 q9 j9 h9
                have hY3 : MN M3 r A := hN.same (fun a9 j9 h9 => hF4 a9 j9 (by omega))
                have hfz := tgF_le hW (c := c) (k := k) (by omega) pre (decide (are = 1)) (i + 1) (by omega)
                refine J_iadd (v := ((sumN (tgF A c k pre (decide (are = 1))) (i + 1) : Nat) : Int)) hx dX7_togetherIn_133 (by rw [w32_id (by omega) (by omega), ← hsum]) ?_
                refine J_istore (lsn := [vR (r), vI (((c : Nat) : Int)), vI (((pre.length : Nat) : Int)), vI (u), vI (are), vI (((sumN (tgF A c k pre (decide (are = 1))) (i + 1) : Nat) : Int)), vI (((i : Nat) : Int)), vI (0)]) hx dX7_togetherIn_134 (Nat.le_of_ble_eq_true rfl) rfl rfl ?_
                refine J_iinc (v := ((i : Nat) : Int) + 1) (lsn := [vR (r), vI (((c : Nat) : Int)), vI (((pre.length : Nat) : Int)), vI (u), vI (are), vI (((sumN (tgF A c k pre (decide (are = 1))) (i + 1) : Nat) : Int)), vI (((i : Nat) : Int) + 1), vI (0)]) hx dX7_togetherIn_136 rfl (jinc1 (by omega) (by omega)) rfl rfl ?_
                refine J_goto (tgt := 27) hx dX7_togetherIn_139 (by decide) ?_
                exact lp_X7_togetherIn hT hW hc hx hr hI hN hs hk hk6 hlt hst hab hQ (i + 1) _ M3 hY3 hF4 (by omega)
            · refine J_iconst (v := 1) hx dX7_togetherIn_95 (by decide) ?_
              refine J_goto (tgt := 100) hx dX7_togetherIn_96 (by decide) ?_
              refine J_istore (lsn := [vR (r), vI (((c : Nat) : Int)), vI (((pre.length : Nat) : Int)), vI (u), vI (are), vI (((sumN (tgF A c k pre (decide (are = 1))) i : Nat) : Int)), vI (((i : Nat) : Int)), vI (1)]) hx dX7_togetherIn_100 (Nat.le_of_ble_eq_true rfl) rfl rfl ?_
              refine J_iload hx dX7_togetherIn_102 rfl ?_
              refine J_aload_n hx dX7_togetherIn_104 (i := 0) rfl rfl ?_
              refine J_iload_n hx dX7_togetherIn_105 (i := 1) rfl rfl ?_
              refine J_iload_n hx dX7_togetherIn_106 (i := 2) rfl rfl ?_
              refine J_iconst (v := 1) hx dX7_togetherIn_107 (by decide) ?_
              refine J_iadd (v := (((pre ++ [i]).length : Nat) : Int)) hx dX7_togetherIn_108 (by rw [w32_id (by omega) (by omega), List.length_append, List.length_singleton]; omega) ?_
              refine J_iload_n hx dX7_togetherIn_109 (i := 3) rfl rfl ?_
              refine J_iconst (v := 1) hx dX7_togetherIn_110 (by decide) ?_
              refine J_iload hx dX7_togetherIn_111 rfl ?_
              refine J_ishl (v := jshl 1 ((i : Nat) : Int)) hx dX7_togetherIn_113 rfl ?_
              refine J_ior (v := jor u (jshl 1 ((i : Nat) : Int))) hx dX7_togetherIn_114 rfl ?_
              refine J_iload hx dX7_togetherIn_115 rfl ?_
              refine J_if_ne (tgt := 125) hx dX7_togetherIn_117 (by decide) (fun c18 => ?_) (fun c18 => ?_)
              · refine J_iconst (v := 1) hx dX7_togetherIn_125 (by decide) ?_
                refine J_goto (tgt := 130) hx dX7_togetherIn_126 (by decide) ?_
                have hnp : i ∉ pre := fun z => (hs.2 i (by omega)).mpr z (by assumption)
                have eb : decide ((1 : Int) = 1) = (decide (are = 1) || (lastS A pre && decide (A.att 0 i = 3))) := by
                  unfold lastS
                  rw [Bool.eq_iff_iff]
                  simp only [Bool.or_eq_true, Bool.and_eq_true, decide_eq_true_eq]
                  constructor <;> intro h9 <;> first | omega | exact h9.elim | trivial
                have ef : tgF A c k pre (decide (are = 1)) i = tgL A c k (pre ++ [i]) (decide ((1 : Int) = 1)) := by unfold tgF; rw [if_pos ⟨hnp, by omega⟩, eb]
                have hsum : ((sumN (tgF A c k pre (decide (are = 1))) (i + 1) : Nat) : Int) = ((sumN (tgF A c k pre (decide (are = 1))) i : Nat) : Int) + ((tgL A c k (pre ++ [i]) (decide ((1 : Int) = 1)) : Nat) : Int) := by rw [← ef]; exact Int.natCast_add _ _
                refine J_invV (As := [vI (((c : Nat) : Int)), vI ((((pre ++ [i]).length : Nat) : Int)), vI (jor u (jshl 1 ((i : Nat) : Int))), vI (1)]) (st := [vI (((sumN (tgF A c k pre (decide (are = 1))) i : Nat) : Int))]) hx lk_X7_317 okX7_togetherIn dX7_togetherIn_130 hT.o (by decide) rfl rfl rfl (Nat.le_of_ble_eq_true rfl) (Nat.zero_add _).symm (Nat.zero_add _).symm rfl (hI M2 (pre ++ [i]) _ 1 _ hY2 (seenL_s hs (by omega)) (by rw [List.length_append, List.length_singleton]; omega) (fun q9 h9 => by rcases List.mem_append.mp h9 with h9 | h9; exact hlt q9 h9; rw [List.mem_singleton.mp h9]; omega) (fun j9 h9 => ?_) (by omega) ?_)
                · rw [List.length_append, List.length_singleton] at h9
                  rw [getD_app (by omega)]
                  by_cases e9 : j9 = pre.length
                  · rw [if_pos e9, e9, hM2a]
                  · rw [if_neg e9, hM2o _ _ (Or.inr e9), hF1 _ _ (by omega)]; exact hst j9 (by omega)
                intro M3 hF3
                have hF4 : ∀ q j, ¬ (q = r + 27 ∧ pre.length ≤ j) → M3 q j = M q j := fun q9 j9 h9 => by rw [hF3 q9 j9 (by rw [List.length_append, List.length_singleton]; omega), hM2o q9 j9 (by omega)]; exact hF1 q9 j9 h9
                have hY3 : MN M3 r A := hN.same (fun a9 j9 h9 => hF4 a9 j9 (by omega))
                have hfz := tgF_le hW (c := c) (k := k) (by omega) pre (decide (are = 1)) (i + 1) (by omega)
                refine J_iadd (v := ((sumN (tgF A c k pre (decide (are = 1))) (i + 1) : Nat) : Int)) hx dX7_togetherIn_133 (by rw [w32_id (by omega) (by omega), ← hsum]) ?_
                refine J_istore (lsn := [vR (r), vI (((c : Nat) : Int)), vI (((pre.length : Nat) : Int)), vI (u), vI (are), vI (((sumN (tgF A c k pre (decide (are = 1))) (i + 1) : Nat) : Int)), vI (((i : Nat) : Int)), vI (1)]) hx dX7_togetherIn_134 (Nat.le_of_ble_eq_true rfl) rfl rfl ?_
                refine J_iinc (v := ((i : Nat) : Int) + 1) (lsn := [vR (r), vI (((c : Nat) : Int)), vI (((pre.length : Nat) : Int)), vI (u), vI (are), vI (((sumN (tgF A c k pre (decide (are = 1))) (i + 1) : Nat) : Int)), vI (((i : Nat) : Int) + 1), vI (1)]) hx dX7_togetherIn_136 rfl (jinc1 (by omega) (by omega)) rfl rfl ?_
                refine J_goto (tgt := 27) hx dX7_togetherIn_139 (by decide) ?_
                exact lp_X7_togetherIn hT hW hc hx hr hI hN hs hk hk6 hlt hst hab hQ (i + 1) _ M3 hY3 hF4 (by omega)
              · refine J_iload hx dX7_togetherIn_120 rfl ?_
                refine J_if_eq (tgt := 129) hx dX7_togetherIn_122 (by decide) (fun c9 => absurd c9 (by decide)) (fun _ => ?_)
                refine J_iconst (v := 1) hx dX7_togetherIn_125 (by decide) ?_
                refine J_goto (tgt := 130) hx dX7_togetherIn_126 (by decide) ?_
                have hnp : i ∉ pre := fun z => (hs.2 i (by omega)).mpr z (by assumption)
                have eb : decide ((1 : Int) = 1) = (decide (are = 1) || (lastS A pre && decide (A.att 0 i = 3))) := by
                  unfold lastS
                  rw [Bool.eq_iff_iff]
                  simp only [Bool.or_eq_true, Bool.and_eq_true, decide_eq_true_eq]
                  constructor <;> intro h9 <;> first | omega | exact h9.elim | trivial
                have ef : tgF A c k pre (decide (are = 1)) i = tgL A c k (pre ++ [i]) (decide ((1 : Int) = 1)) := by unfold tgF; rw [if_pos ⟨hnp, by omega⟩, eb]
                have hsum : ((sumN (tgF A c k pre (decide (are = 1))) (i + 1) : Nat) : Int) = ((sumN (tgF A c k pre (decide (are = 1))) i : Nat) : Int) + ((tgL A c k (pre ++ [i]) (decide ((1 : Int) = 1)) : Nat) : Int) := by rw [← ef]; exact Int.natCast_add _ _
                refine J_invV (As := [vI (((c : Nat) : Int)), vI ((((pre ++ [i]).length : Nat) : Int)), vI (jor u (jshl 1 ((i : Nat) : Int))), vI (1)]) (st := [vI (((sumN (tgF A c k pre (decide (are = 1))) i : Nat) : Int))]) hx lk_X7_317 okX7_togetherIn dX7_togetherIn_130 hT.o (by decide) rfl rfl rfl (Nat.le_of_ble_eq_true rfl) (Nat.zero_add _).symm (Nat.zero_add _).symm rfl (hI M2 (pre ++ [i]) _ 1 _ hY2 (seenL_s hs (by omega)) (by rw [List.length_append, List.length_singleton]; omega) (fun q9 h9 => by rcases List.mem_append.mp h9 with h9 | h9; exact hlt q9 h9; rw [List.mem_singleton.mp h9]; omega) (fun j9 h9 => ?_) (by omega) ?_)
                · rw [List.length_append, List.length_singleton] at h9
                  rw [getD_app (by omega)]
                  by_cases e9 : j9 = pre.length
                  · rw [if_pos e9, e9, hM2a]
                  · rw [if_neg e9, hM2o _ _ (Or.inr e9), hF1 _ _ (by omega)]; exact hst j9 (by omega)
                intro M3 hF3
                have hF4 : ∀ q j, ¬ (q = r + 27 ∧ pre.length ≤ j) → M3 q j = M q j := fun q9 j9 h9 => by rw [hF3 q9 j9 (by rw [List.length_append, List.length_singleton]; omega), hM2o q9 j9 (by omega)]; exact hF1 q9 j9 h9
                have hY3 : MN M3 r A := hN.same (fun a9 j9 h9 => hF4 a9 j9 (by omega))
                have hfz := tgF_le hW (c := c) (k := k) (by omega) pre (decide (are = 1)) (i + 1) (by omega)
                refine J_iadd (v := ((sumN (tgF A c k pre (decide (are = 1))) (i + 1) : Nat) : Int)) hx dX7_togetherIn_133 (by rw [w32_id (by omega) (by omega), ← hsum]) ?_
                refine J_istore (lsn := [vR (r), vI (((c : Nat) : Int)), vI (((pre.length : Nat) : Int)), vI (u), vI (are), vI (((sumN (tgF A c k pre (decide (are = 1))) (i + 1) : Nat) : Int)), vI (((i : Nat) : Int)), vI (1)]) hx dX7_togetherIn_134 (Nat.le_of_ble_eq_true rfl) rfl rfl ?_
                refine J_iinc (v := ((i : Nat) : Int) + 1) (lsn := [vR (r), vI (((c : Nat) : Int)), vI (((pre.length : Nat) : Int)), vI (u), vI (are), vI (((sumN (tgF A c k pre (decide (are = 1))) (i + 1) : Nat) : Int)), vI (((i : Nat) : Int) + 1), vI (1)]) hx dX7_togetherIn_136 rfl (jinc1 (by omega) (by omega)) rfl rfl ?_
                refine J_goto (tgt := 27) hx dX7_togetherIn_139 (by decide) ?_
                exact lp_X7_togetherIn hT hW hc hx hr hI hN hs hk hk6 hlt hst hab hQ (i + 1) _ M3 hY3 hF4 (by omega)
termination_by A.n - i
decreasing_by all_goals omega

set_option maxHeartbeats 4000000 in
theorem tg_s {g : WG} {d : Nat} {T : TT} {r sz c k : Nat} {A : YA} (hT : MT T r) (hW : WFY A) (hc : c < 2) (hk6 : k ≤ 6) (hI : TGc g (d + 3) k r c sz T A) : TGc g (d + 4) (k + 1) r c sz T A := by
  intro M pre u are Q hN hs hk hlt hst hab hQ
  refine Ct_of2 (ls := [vR (r), vI (((c : Nat) : Int)), vI (((pre.length : Nat) : Int)), vI (u), vI (are), vU, vU, vU]) okX7_togetherIn rfl (Nat.le_of_ble_eq_true rfl) rfl ?_
  intro x hx hr hnm
  have hl8 := hW.len8 hc
  have hY1 := hN
  refine J_iload_n hx dX7_togetherIn_0 (i := 2) rfl rfl ?_
  refine J_aload_n hx dX7_togetherIn_1 (i := 0) rfl rfl ?_
  refine J_getR (b := r + 25) hx fl_X7_57 cl_X7 dX7_togetherIn_2 hT.o (by decide) rfl hT.r16 ?_
  refine J_iload_n hx dX7_togetherIn_5 (i := 1) rfl rfl ?_
  refine J_iald2 (v := (((A.ch c).length : Nat) : Int)) hx c dX7_togetherIn_6 hT.k25 (by omega) (hT.l25 (by omega)) (hY1.sz (by omega)) ?_
  have rg1 := hW.len8 (c := c) (by omega)
  have rg2 := hW.lenN (c := c) (by omega)
  refine J_icmp_ne (tgt := 21) hx dX7_togetherIn_7 (by decide) (fun c3 => ?_) (fun c3 => ?_)
  · refine J_iconst (v := 0) hx dX7_togetherIn_21 (by decide) ?_
    refine J_istore (lsn := [vR (r), vI (((c : Nat) : Int)), vI (((pre.length : Nat) : Int)), vI (u), vI (are), vI (0), vU, vU]) hx dX7_togetherIn_22 (Nat.le_of_ble_eq_true rfl) rfl rfl ?_
    refine J_iconst (v := 0) hx dX7_togetherIn_24 (by decide) ?_
    refine J_istore (lsn := [vR (r), vI (((c : Nat) : Int)), vI (((pre.length : Nat) : Int)), vI (u), vI (are), vI (0), vI (0), vU]) hx dX7_togetherIn_25 (Nat.le_of_ble_eq_true rfl) rfl rfl ?_
    exact lp_X7_togetherIn hT hW hc hx hr hI hN hs hk hk6 hlt hst hab hQ 0 _ M hN (fun _ _ _ => rfl) (by omega)
  · refine J_iload hx dX7_togetherIn_10 rfl ?_
    refine J_if_eq (tgt := 19) hx dX7_togetherIn_12 (by decide) (fun c4 => ?_) (fun c4 => ?_)
    · refine J_iconst (v := 0) hx dX7_togetherIn_19 (by decide) ?_
      refine J_iret hx hr dX7_togetherIn_20 ?_
      exfalso; omega
    · refine J_iconst (v := 1) hx dX7_togetherIn_15 (by decide) ?_
      refine J_goto (tgt := 20) hx dX7_togetherIn_16 (by decide) ?_
      refine J_iret hx hr dX7_togetherIn_20 ?_
      exfalso; omega

theorem tg_all {g : WG} {T : TT} {r sz c : Nat} {A : YA} (hT : MT T r) (hW : WFY A) (hc : c < 2) : ∀ (k d : Nat), k ≤ 7 → TGc g (d + k + 3) k r c sz T A
  | 0, d, _ => tg_0 (d := d) hT hW hc
  | k + 1, d, hk => by
    have ih := tg_all (sz := sz) (g := g) hT hW hc k d (by omega)
    exact tg_s (d := d + k) hT hW hc (by omega) ih
/-- the reference's scratch rows do not count -/
theorem RN.scr {M M' : MM} {r : Nat} {S : ST} (h : RN M r S) (hF : ∀ q j, ¬ (q = r + 27 ∨ q = r + 28) → ¬ (q = r ∧ 24 ≤ j) → M' q j = M q j) : RN M' r S := by
  obtain ⟨k2, k4, ⟨k5, k6⟩, k7⟩ := h
  refine ⟨k2.same (fun a j h8 => hF _ _ (by omega) (by omega)), fun s hs => ?_, ⟨by rw [hF _ _ (by omega) (by omega)]; exact k5, fun j hj => by rw [hF _ _ (by omega) (by omega)]; exact k6 j hj⟩, fun j hj => by rw [hF _ _ (by omega) (by omega)]; exact k7 j hj⟩
  obtain ⟨l1, l2, l3⟩ := k4 s hs
  exact ⟨by rw [hF _ _ (by omega) (by omega)]; exact l1, fun hr => ⟨by rw [hF _ _ (by omega) (by omega)]; exact (l2 hr).1, by rw [hF _ _ (by omega) (by omega)]; exact (l2 hr).2.1, fun j hj => by rw [hF _ _ (by omega) (by omega)]; exact (l2 hr).2.2 j hj⟩, fun hr => by rw [hF _ _ (by omega) (by omega)]; exact l3 hr⟩
set_option maxHeartbeats 4000000 in
theorem c_X7_together {g : WG} {d : Nat} {T : TT} {M : MM} {r sz : Nat} {S : ST} {Q : MVal → TT → MM → Nat → Prop} (hT : MT T r) (hN : RN M r S) (hW : WFS S) {c : Int} (h_c : -2147483648 ≤ c ∧ c ≤ 2147483647) (hQ : RQ r T M sz Q (a_together S c)) : Ct g (d + 11) mX7_together [vR (r), vI (c)] T M sz 0 0 Q := by
  refine Ct_of2 (ls := [vR (r), vI (c)]) okX7_together rfl (Nat.le_of_ble_eq_true rfl) rfl ?_
  intro x hx hr hnm
  refine J_iload_n hx dX7_together_0 (i := 1) rfl rfl ?_
  refine J_i2l hx dX7_together_1 ?_
  refine J_lconst (v := 0) hx dX7_together_2 (by decide) ?_
  refine J_lconst (v := 1) hx dX7_together_3 (by decide) ?_
  refine J_invS (As := [vL (c), vL (0), vL (1)]) (st := []) hx lk_X7_85 okX7_in dX7_together_4 rfl rfl (Nat.le_of_ble_eq_true rfl) (Nat.zero_add _).symm (Nat.zero_add _).symm rfl (c_X7_in (a := c) (lo := 0) (hi := 1) ?_)
  intro v1 hv1
  refine J_if_ne (tgt := 17) hx dX7_together_7 (by decide) (fun c2 => ?_) (fun c2 => ?_)
  · obtain ⟨cN, rfl⟩ : ∃ z : Nat, c = ((z : Nat) : Int) := ⟨c.toNat, by omega⟩
    refine J_aload_n hx dX7_together_17 (i := 0) rfl rfl ?_
    refine J_getR (b := r + 25) hx fl_X7_57 cl_X7 dX7_together_18 hT.o (by decide) rfl hT.r16 ?_
    refine J_iload_n hx dX7_together_21 (i := 1) rfl rfl ?_
    refine J_iald2 (v := (((S.1.ch cN).length : Nat) : Int)) hx cN dX7_together_22 hT.k25 (by omega) (hT.l25 (by omega)) (hN.y.sz (by omega)) ?_
    have rg3 := hW.y.len8 (c := cN) (by omega)
    have rg4 := hW.y.lenN (c := cN) (by omega)
    refine J_bipush (v := 7) hx dX7_together_23 (by decide) ?_
    refine J_icmp_le (tgt := 37) hx dX7_together_25 (by decide) (fun c5 => ?_) (fun c5 => ?_)
    · refine J_aload_n hx dX7_together_37 (i := 0) rfl rfl ?_
      refine J_iload_n hx dX7_together_38 (i := 1) rfl rfl ?_
      refine J_iconst (v := 0) hx dX7_together_39 (by decide) ?_
      refine J_iconst (v := 0) hx dX7_together_40 (by decide) ?_
      refine J_iconst (v := 0) hx dX7_together_41 (by decide) ?_
      have ed : d + 10 = (d + 7 - (S.1.ch cN).length) + (S.1.ch cN).length + 3 := by omega
      have hx9 := hx
      rw [show d + 11 = (d + 10) + 1 from rfl, ed] at hx9
      refine J_invV (As := [vI (((cN : Nat) : Int)), vI (0), vI (0), vI (0)]) (st := []) hx9 lk_X7_317 okX7_togetherIn dX7_together_42 hT.o (by decide) rfl rfl rfl (Nat.le_of_ble_eq_true rfl) (Nat.zero_add _).symm (Nat.zero_add _).symm rfl (tg_all (r := r) (c := cN) hT hW.y (by omega) (S.1.ch cN).length (d + 7 - (S.1.ch cN).length) (by omega) M [] 0 0 _ hN.y seenL_0 (by simp) (fun q9 h9 => by cases h9) (fun j9 h9 => absurd h9 (Nat.not_lt_zero j9)) (Or.inl rfl) ?_)
      intro M2 hF2
      rw [show (decide ((0 : Int) = 1)) = false from rfl, tgL_0 hW.y (by omega) (by omega)]
      refine J_iret hx hr dX7_together_45 ?_
      exact hQ.to (v := togV (S.1.ch cN).length (sisY S.1 (S.1.ch cN))) (S := S) (by
        unfold a_together
        all_goals (try unfold overY at *)
        all_goals (try unfold mayQ at *)
        all_goals (try simp only [Int.toNat_natCast] at *)
        all_goals ((repeat' split) <;> first | rfl | (exfalso; omega) | (congr 1; omega))) (hN.scr (fun q9 j9 h7 h8 => hF2 q9 j9 (by omega))) (fun b9 h9 => funext fun j9 => hF2 b9 j9 (by omega))
    · refine J_aload_n hx dX7_together_28 (i := 0) rfl rfl ?_
      refine J_bipush (v := -6) hx dX7_together_29 (by decide) ?_
      refine J_invV (As := [vI ((-6))]) (st := []) hx lk_X7_99 okX7_refuse dX7_together_31 hT.o (by decide) rfl rfl rfl (Nat.le_of_ble_eq_true rfl) (Nat.zero_add _).symm (Nat.zero_add _).symm rfl (c_X7_refuseS hT hN hW (k := 4) (by decide) ?_)
      intro M1 hN1 hf1
      refine J_goto (tgt := 45) hx dX7_together_34 (by decide) ?_
      refine J_iret hx hr dX7_together_45 ?_
      exact hQ.to (v := -((4 + 2 : Nat) : Int)) (S := rfS S 4) (by
        unfold a_together
        all_goals (try unfold overY at *)
        all_goals (try unfold mayQ at *)
        all_goals (try simp only [Int.toNat_natCast] at *)
        all_goals ((repeat' split) <;> first | rfl | (exfalso; omega) | (congr 1; omega))) hN1 hf1
  · refine J_aload_n hx dX7_together_10 (i := 0) rfl rfl ?_
    refine J_bipush (v := -2) hx dX7_together_11 (by decide) ?_
    refine J_invV (As := [vI ((-2))]) (st := []) hx lk_X7_99 okX7_refuse dX7_together_13 hT.o (by decide) rfl rfl rfl (Nat.le_of_ble_eq_true rfl) (Nat.zero_add _).symm (Nat.zero_add _).symm rfl (c_X7_refuseS hT hN hW (k := 0) (by decide) ?_)
    intro M1 hN1 hf1
    refine J_iret hx hr dX7_together_16 ?_
    exact hQ.to (v := -((0 + 2 : Nat) : Int)) (S := rfS S 0) (by
      unfold a_together
      all_goals (try unfold overY at *)
      all_goals (try unfold mayQ at *)
      all_goals (try simp only [Int.toNat_natCast] at *)
      all_goals ((repeat' split) <;> first | rfl | (exfalso; omega) | (congr 1; omega))) hN1 hf1

