/-! writes -/
def YA.setA (A : YA) (f i : Nat) (v : Int) : YA := (A.n, fun f' i' => if f' = f ∧ i' = i then v else A.att f' i', A.ch, A.sc)
def YA.setS (A : YA) (q : Nat) (v : Int) : YA := (A.n, A.att, A.ch, fun q' => if q' = q then v else A.sc q')
def YA.setC (A : YA) (c : Nat) (l : List Nat) : YA := (A.n, A.att, fun c' => if c' = c then l else A.ch c', A.sc)
theorem up2_at {M : MM} {a i : Nat} {v : Int} : up2 M a i v a i = v := by simp [up2]
theorem up2_ne {M : MM} {a i b j : Nat} {v : Int} (h : b ≠ a ∨ j ≠ i) : up2 M a i v b j = M b j := by
  unfold up2
  rw [if_neg (fun q => h.elim (fun z => z q.1) (fun z => z q.2))]
theorem up2_row {M : MM} {a i b : Nat} {v : Int} (h : b ≠ a) : up2 M a i v b = M b := funext fun j => up2_ne (Or.inl h)
theorem cpM_at {M : MM} {a0 a sp dp n j : Nat} (h : dp ≤ j ∧ j < dp + n) : cpM M a0 a sp dp n a j = M a0 (sp + (j - dp)) := by
  unfold cpM
  rw [if_pos ⟨rfl, h⟩]
theorem cpM_row {M : MM} {a0 a sp dp n b : Nat} (h : b ≠ a) : cpM M a0 a sp dp n b = M b := funext fun j => by
  unfold cpM
  rw [if_neg (fun q => h q.1)]
/-- a yard whose chains need not hold everybody -/
def YP (M : MM) (r : Nat) (A : YA) : Prop := (∀ f, f < 5 → ∀ i, i < A.n → M (r + 1 + f) i = A.att f i) ∧ (∀ c, c < 2 → ∀ p, p ∈ A.ch c → M (r + 6) p = ((c : Nat) : Int)) ∧ (∀ c, c < 2 → ∀ k, k < (A.ch c).length → M (r + 8 + c) k = (((A.ch c).getD k 0 : Nat) : Int)) ∧ (∀ c, c < 2 → M (r + 10) c = (((A.ch c).length : Nat) : Int)) ∧ M r 8 = ((A.n : Nat) : Int) ∧ ∀ q, 1 ≤ q → q < 8 → M r (8 + q) = A.sc q
def YB8 (A : YA) : Prop := A.n ≤ 8 ∧ (∀ c, c < 2 → (A.ch c).length ≤ 8) ∧ ∀ c, c < 2 → ∀ p, p ∈ A.ch c → p < A.n
theorem YN.toP {M : MM} {r : Nat} {A : YA} (h : YN M r A) (hW : WFY A) : YP M r A := ⟨h.1, fun c hc p hp => by rw [h.hm (hW.lt hc hp), hW.co hc hp], h.2.2⟩
theorem YP.toN {M : MM} {r : Nat} {A : YA} (h : YP M r A) (hW : WFY A) : YN M r A := ⟨h.1, fun p hp => h.2.1 _ (A.co2 p) p (hW.mco hp), h.2.2⟩
theorem WFY.b8 {A : YA} (h : WFY A) : YB8 A := ⟨h.n8, fun c hc => h.len8 hc, fun c hc p hp => h.lt hc hp⟩
theorem YP.ln {M : MM} {r : Nat} {A : YA} (h : YP M r A) {c k : Nat} (hc : c < 2) (hk : k < (A.ch c).length) : M (r + 8 + c) k = (((A.ch c).getD k 0 : Nat) : Int) := h.2.2.1 c hc k hk
theorem YP.sz {M : MM} {r : Nat} {A : YA} (h : YP M r A) {c : Nat} (hc : c < 2) : M (r + 10) c = (((A.ch c).length : Nat) : Int) := h.2.2.2.1 c hc
theorem YP.ti {M : MM} {r : Nat} {A : YA} (h : YP M r A) {i : Nat} (hi : i < A.n) : M (r + 4) i = A.att 3 i := h.1 3 (by decide) i hi
theorem YP.setA {M : MM} {r : Nat} {A : YA} (h : YP M r A) {f i : Nat} (v : Int) (hf : f < 5) : YP (up2 M (r + 1 + f) i v) r (A.setA f i v) := by
  obtain ⟨h1, h2, h3, h4, h5, h6⟩ := h
  refine ⟨fun f' hf' i' hi' => ?_, fun c hc p hp => ?_, fun c hc k hk => ?_, fun c hc => ?_, ?_, fun q h7 h8 => ?_⟩
  · show _ = (if f' = f ∧ i' = i then v else A.att f' i')
    by_cases e : f' = f ∧ i' = i
    · rw [if_pos e, e.1, e.2, up2_at]
    · rw [if_neg e, up2_ne (by omega)]
      exact h1 f' hf' i' hi'
  · rw [up2_row (by omega)]; exact h2 c hc p hp
  · rw [up2_row (by omega)]; exact h3 c hc k hk
  · rw [up2_row (by omega)]; exact h4 c hc
  · rw [up2_row (by omega)]; exact h5
  · rw [up2_row (by omega)]; exact h6 q h7 h8
theorem YP.setS {M : MM} {r : Nat} {A : YA} (h : YP M r A) {q : Nat} (v : Int) (hq : 1 ≤ q ∧ q < 8) : YP (up2 M r (8 + q) v) r (A.setS q v) := by
  obtain ⟨h1, h2, h3, h4, h5, h6⟩ := h
  refine ⟨fun f' hf' i' hi' => ?_, fun c hc p hp => ?_, fun c hc k hk => ?_, fun c hc => ?_, ?_, fun q' h7 h8 => ?_⟩
  · rw [up2_row (by omega)]; exact h1 f' hf' i' hi'
  · rw [up2_row (by omega)]; exact h2 c hc p hp
  · rw [up2_row (by omega)]; exact h3 c hc k hk
  · rw [up2_row (by omega)]; exact h4 c hc
  · rw [up2_ne (by omega)]; exact h5
  · show _ = (if q' = q then v else A.sc q')
    by_cases e : q' = q
    · subst e; rw [if_pos rfl, up2_at]
    · rw [if_neg e, up2_ne (by omega)]; exact h6 q' h7 h8
/-- a chain is written anew: its row and its size, homes of its people -/
theorem YP.setC {M M' : MM} {r : Nat} {A : YA} (h : YP M r A) {c : Nat} {l : List Nat} (hc : c < 2) (h6 : ∀ p, M' (r + 6) p ≠ M (r + 6) p → p ∉ A.ch (1 - c)) (h6c : ∀ p, p ∈ l → M' (r + 6) p = ((c : Nat) : Int)) (hr : ∀ k, k < l.length → M' (r + 8 + c) k = ((l.getD k 0 : Nat) : Int)) (hz : M' (r + 10) c = ((l.length : Nat) : Int)) (hz2 : M' (r + 10) (1 - c) = M (r + 10) (1 - c)) (ho : ∀ a, a ≠ r + 6 → a ≠ r + 8 + c → a ≠ r + 10 → M' a = M a) : YP M' r (A.setC c l) := by
  obtain ⟨h1, h2, h3, h4, h5, h7⟩ := h
  have hch : ∀ c', (A.setC c l).ch c' = if c' = c then l else A.ch c' := fun _ => rfl
  refine ⟨fun f' hf' i' hi' => ?_, fun c' hc' p hp => ?_, fun c' hc' k hk => ?_, fun c' hc' => ?_, ?_, fun q' h8 h9 => ?_⟩
  · rw [ho _ (by omega) (by omega) (by omega)]; exact h1 f' hf' i' hi'
  · rw [hch] at hp
    by_cases e : c' = c
    · subst e; rw [if_pos rfl] at hp; exact h6c p hp
    · rw [if_neg e] at hp
      have e2 : c' = 1 - c := by omega
      subst e2
      by_cases e3 : M' (r + 6) p = M (r + 6) p
      · rw [e3]; exact h2 _ hc' p hp
      · exact absurd hp (h6 p e3)
  · rw [hch] at hk ⊢
    by_cases e : c' = c
    · subst e; rw [if_pos rfl] at hk ⊢; exact hr k hk
    · rw [if_neg e] at hk ⊢
      rw [ho _ (by omega) (by omega) (by omega)]; exact h3 c' hc' k hk
  · rw [hch]
    by_cases e : c' = c
    · subst e; rw [if_pos rfl]; exact hz
    · rw [if_neg e]
      have e2 : c' = 1 - c := by omega
      subst e2
      rw [hz2]; exact h4 _ hc'
  · rw [ho _ (by omega) (by omega) (by omega)]; exact h5
  · rw [ho _ (by omega) (by omega) (by omega)]; exact h7 q' h8 h9
theorem YA.setA_n (A : YA) (f i : Nat) (v : Int) : (A.setA f i v).n = A.n := rfl
theorem YA.setA_ch (A : YA) (f i : Nat) (v : Int) : (A.setA f i v).ch = A.ch := rfl
theorem YB8.setA {A : YA} (h : YB8 A) (f i : Nat) (v : Int) : YB8 (A.setA f i v) := h
def insAt (l : List Nat) (k p : Nat) : List Nat := l.take k ++ p :: l.drop k
theorem insAt_len {l : List Nat} {k p : Nat} (hk : k ≤ l.length) : (insAt l k p).length = l.length + 1 := by
  unfold insAt
  simp [List.length_take, List.length_drop]
  omega
theorem insAt_getD {l : List Nat} {k p : Nat} (hk : k ≤ l.length) (j : Nat) : (insAt l k p).getD j 0 = if j < k then l.getD j 0 else if j = k then p else l.getD (j - 1) 0 := by
  unfold insAt
  have hl : (l.take k).length = k := by rw [List.length_take]; omega
  simp only [List.getD_eq_getElem?_getD]
  by_cases h1 : j < k
  · rw [if_pos h1, List.getElem?_append_left (by omega), List.getElem?_take_of_lt h1]
  · rw [if_neg h1, List.getElem?_append_right (by omega), hl]
    by_cases h2 : j = k
    · subst h2; simp
    · rw [if_neg h2]
      have : j - k = (j - k - 1) + 1 := by omega
      rw [this, List.getElem?_cons_succ, List.getElem?_drop]
      congr 2
      omega
theorem insAt_mem {l : List Nat} {k p q : Nat} : q ∈ insAt l k p ↔ q = p ∨ q ∈ l := by
  unfold insAt
  have h : q ∈ l ↔ q ∈ l.take k ∨ q ∈ l.drop k := by
    conv => lhs; rw [← List.take_append_drop k l]
    exact List.mem_append
  simp only [List.mem_append, List.mem_cons, h]
  constructor
  · rintro (h | h | h) <;> simp [h]
  · rintro (h | h | h) <;> simp [h]

def tird (v : Int) : Int := if v < 20 then v + 1 else v
theorem YP.same3 {M : MM} {r : Nat} {A : YA} (h : YP M r A) {f p : Nat} (hp : p < A.n) : YP M r (A.setA f p (A.att f p)) := by
  have e : A.setA f p (A.att f p) = A := by
    obtain ⟨n, at_, ch, sc⟩ := A
    show (n, (fun f' i' => if f' = f ∧ i' = p then at_ f p else at_ f' i'), ch, sc) = _
    congr 2
    funext f' i'
    by_cases e : f' = f ∧ i' = p
    · rw [if_pos e, e.1, e.2]
    · rw [if_neg e]
  rw [e]; exact h
set_option maxHeartbeats 4000000 in
theorem c_X5_tire {g : WG} {d : Nat} {T : TT} {M : MM} {r sz : Nat} {A : YA} {Q : MVal → TT → MM → Nat → Prop} (hT : YT T r) (hP : YP M r A) (hB : YB8 A) {p : Nat} (hp : p < A.n) (ht : 0 ≤ A.att 3 p ∧ A.att 3 p ≤ 20) (hQ : ∀ M', YP M' r (A.setA 3 p (tird (A.att 3 p))) → FrY r M M' → Q vU T M' sz) : Ct g (d + 1) mX5_tire [vR (r), vI (((p : Nat) : Int))] T M sz 0 0 Q := by
  refine Ct_of2 (ls := [vR (r), vI (((p : Nat) : Int))]) okX5_tire rfl (Nat.le_of_ble_eq_true rfl) rfl ?_
  intro x hx hr hnm
  have hn8 := hB.1
  refine J_aload_n hx dX5_tire_0 (i := 0) rfl rfl ?_
  refine J_getR (b := r + 4) hx fl_X5_21 cl_X5 dX5_tire_1 hT.o (by decide) rfl hT.r3 ?_
  refine J_iload_n hx dX5_tire_4 (i := 1) rfl rfl ?_
  refine J_iald2 (v := A.att 3 p) hx p dX5_tire_5 hT.k4 (by omega) (hT.l4 (by omega)) (hP.ti (by omega)) ?_
  refine J_bipush (v := 20) hx dX5_tire_6 (by decide) ?_
  refine J_icmp_ge (tgt := 21) hx dX5_tire_8 (by decide) (fun c1 => ?_) (fun c1 => ?_)
  · refine J_vret hx hr dX5_tire_21 ?_
    have e : tird (A.att 3 p) = A.att 3 p := by unfold tird; rw [if_neg (by omega)]
    rw [e] at hQ
    exact hQ M (YP.same3 hP hp) FrY.rf
  · refine J_aload_n hx dX5_tire_11 (i := 0) rfl rfl ?_
    refine J_getR (b := r + 4) hx fl_X5_21 cl_X5 dX5_tire_12 hT.o (by decide) rfl hT.r3 ?_
    refine J_iload_n hx dX5_tire_15 (i := 1) rfl rfl ?_
    refine J_dup2 hx dX5_tire_16 rfl rfl ?_
    refine J_iald2 (v := A.att 3 p) hx p dX5_tire_17 hT.k4 (by omega) (hT.l4 (by omega)) (hP.ti (by omega)) ?_
    refine J_iconst (v := 1) hx dX5_tire_18 (by decide) ?_
    refine J_iadd (v := A.att 3 p + 1) hx dX5_tire_19 (w32_id (by omega) (by omega)) ?_
    refine J_iast hx p dX5_tire_20 hT.k4 (by omega) (hT.l4 (by omega)) ?_
    refine J_vret hx hr dX5_tire_21 ?_
    have e : tird (A.att 3 p) = A.att 3 p + 1 := by unfold tird; rw [if_pos (by omega)]
    rw [e] at hQ
    exact hQ _ (hP.setA (f := 3) _ (by decide)) (FrY.rf.up (k := 4) (by decide) _)

abbrev lv_ (l : List Nat) (p : Nat) : List Nat := l.filter (fun q => decide (q ≠ p))
theorem lv_take {l : List Nat} {p j : Nat} (hj : j < l.length) : lv_ (l.take (j + 1)) p = lv_ (l.take j) p ++ (if l.getD j 0 = p then [] else [l.getD j 0]) := by
  have e : l.take (j + 1) = l.take j ++ [l.getD j 0] := by
    rw [List.take_add_one, List.getElem?_eq_getElem hj, List.getD_eq_getElem?_getD, List.getElem?_eq_getElem hj]
    rfl
  unfold lv_
  rw [e, List.filter_append]
  congr 1
  by_cases h : l.getD j 0 = p
  · rw [if_pos h, List.filter_cons_of_neg (by simpa using h)]; rfl
  · rw [if_neg h, List.filter_cons_of_pos (by simpa using h)]; rfl
theorem lv_len {l : List Nat} {p j : Nat} : (lv_ (l.take j) p).length ≤ j := Nat.le_trans (List.length_filter_le _ _) (by rw [List.length_take]; omega)
theorem getD_app {l : List Nat} {a k : Nat} (h : k ≤ l.length) : (l ++ [a]).getD k 0 = if k = l.length then a else l.getD k 0 := by
  simp only [List.getD_eq_getElem?_getD]
  by_cases e : k = l.length
  · subst e; rw [if_pos rfl]; simp
  · rw [if_neg e, List.getElem?_append_left (by omega)]
set_option maxHeartbeats 4000000 in
theorem lp_X5_leave {g : WG} {d : Nat} {T : TT} {M : MM} {r sz : Nat} {A : YA} {Q : MVal → TT → MM → Nat → Prop} (hT : YT T r) (hP : YP M r A) (hB : YB8 A) {x : CX} (hx : OKx g x RX5 cX5_leave (d + 1)) (hr : RTx g x none Q) {c p : Nat} (hc : c < 2) (hp : p ∈ A.ch c) (hQ : ∀ M', YP M' r (A.setC c (lv_ (A.ch c) p)) → FrY r M M' → Q vU T M' sz) (j s : Nat) (M1 : MM) (hj : j ≤ (A.ch c).length) (hs : s = (lv_ ((A.ch c).take j) p).length) (hrow : ∀ k, j ≤ k → k < (A.ch c).length → M1 (r + 8 + c) k = (((A.ch c).getD k 0 : Nat) : Int)) (hst : ∀ k, k < s → M1 (r + 8 + c) k = (((lv_ ((A.ch c).take j) p).getD k 0 : Nat) : Int)) (hz1 : M1 (r + 10) c = (((A.ch c).length : Nat) : Int)) (ho1 : ∀ a, a ≠ r + 8 + c → M1 a = M a) : Jd g x 20 [vR (r), vI (((p : Nat) : Int)), vI (((c : Nat) : Int)), vR (r + 8 + c), vI (((s : Nat) : Int)), vI (((j : Nat) : Int))] [] T M1 sz 0 0 := by
  have hl8 := hB.2.1 c hc
  have hn8 := hB.1
  have hsj : s ≤ j := by rw [hs]; exact lv_len
  refine J_iload hx dX5_leave_20 rfl ?_
  refine J_aload_n hx dX5_leave_22 (i := 0) rfl rfl ?_
  refine J_getR (b := r + 10) hx fl_X5_35 cl_X5 dX5_leave_23 hT.o (by decide) rfl hT.r7 ?_
  refine J_iload_n hx dX5_leave_26 (i := 2) rfl rfl ?_
  refine J_iald2 (v := (((A.ch c).length : Nat) : Int)) hx c dX5_leave_27 hT.k10 (by omega) (hT.l10 (by omega)) hz1 ?_
  refine J_icmp_ge (tgt := 56) hx dX5_leave_28 (by decide) (fun c1 => ?_) (fun c1 => ?_)
  · refine J_aload_n hx dX5_leave_56 (i := 0) rfl rfl ?_
    refine J_getR (b := r + 10) hx fl_X5_35 cl_X5 dX5_leave_57 hT.o (by decide) rfl hT.r7 ?_
    refine J_iload_n hx dX5_leave_60 (i := 2) rfl rfl ?_
    refine J_iload hx dX5_leave_61 rfl ?_
    refine J_iast hx c dX5_leave_63 hT.k10 (by omega) (hT.l10 (by omega)) ?_
    generalize eM2 : up2 M1 (r + 10) c ((s : Nat) : Int) = M2
    have hM2a : M2 (r + 10) c = ((s : Nat) : Int) := by rw [← eM2]; exact up2_at
    have hM2o : ∀ b9 j9, (b9 ≠ r + 10 ∨ j9 ≠ c) → M2 b9 j9 = M1 b9 j9 := fun b9 j9 h9 => by rw [← eM2]; exact up2_ne h9
    have hM2r : ∀ b9, b9 ≠ r + 10 → M2 b9 = M1 b9 := fun b9 h9 => by rw [← eM2]; exact up2_row h9
    refine J_vret hx hr dX5_leave_64 ?_
    have hfull : lv_ (A.ch c) p = lv_ ((A.ch c).take j) p := by rw [List.take_of_length_le (by omega)]
    refine hQ M2 (hP.setC hc (fun q hq => absurd (by rw [hM2r _ (by omega), ho1 _ (by omega)]) hq) (fun q hq => ?_) (fun k hk => ?_) ?_ ?_ (fun a h1 h2 h3 => by rw [hM2r a (by omega), ho1 a h2])) (fun a ha => by rw [hM2r a (by omega), ho1 a (by omega)])
    · rw [hM2r _ (by omega), ho1 _ (by omega)]; exact hP.2.1 c hc q (List.mem_filter.mp hq).1
    · rw [hM2r _ (by omega), hfull]; rw [hfull] at hk; exact hst k (by omega)
    · rw [hM2a, hfull, hs]
    · rw [hM2o _ _ (Or.inr (by omega)), ho1 _ (by omega)]
  · refine J_aload_n hx dX5_leave_31 (i := 3) rfl rfl ?_
    refine J_iload hx dX5_leave_32 rfl ?_
    refine J_iald2 (v := (((A.ch c).getD j 0 : Nat) : Int)) hx j dX5_leave_34 (hT.kl (by omega)) (by omega) (hT.ll (by omega) (by omega)) (hrow j (by omega) (by omega)) ?_
    refine J_iload_n hx dX5_leave_35 (i := 1) rfl rfl ?_
    refine J_icmp_eq (tgt := 50) hx dX5_leave_36 (by decide) (fun c2 => ?_) (fun c2 => ?_)
    · refine J_iinc (v := ((j : Nat) : Int) + 1) (lsn := [vR (r), vI (((p : Nat) : Int)), vI (((c : Nat) : Int)), vR (r + 8 + c), vI (((s : Nat) : Int)), vI (((j : Nat) : Int) + 1)]) hx dX5_leave_50 rfl (jinc1 (by omega) (by omega)) rfl rfl ?_
      refine J_goto (tgt := 20) hx dX5_leave_53 (by decide) ?_
      exact lp_X5_leave hT hP hB hx hr hc hp hQ (j + 1) s M1 (by omega) (by rw [lv_take (by omega), if_pos (by omega), List.append_nil]; exact hs) (fun k hk hk2 => hrow k (by omega) hk2) (fun k hk => by rw [lv_take (by omega), if_pos (by omega), List.append_nil]; exact hst k hk) hz1 ho1
    · refine J_aload_n hx dX5_leave_39 (i := 3) rfl rfl ?_
      refine J_iload hx dX5_leave_40 rfl ?_
      refine J_aload_n hx dX5_leave_42 (i := 3) rfl rfl ?_
      refine J_iload hx dX5_leave_43 rfl ?_
      refine J_iald2 (v := (((A.ch c).getD j 0 : Nat) : Int)) hx j dX5_leave_45 (hT.kl (by omega)) (by omega) (hT.ll (by omega) (by omega)) (hrow j (by omega) (by omega)) ?_
      refine J_iast hx s dX5_leave_46 (hT.kl (by omega)) (by omega) (hT.ll (by omega) (by omega)) ?_
      generalize eM3 : up2 M1 (r + 8 + c) s (((A.ch c).getD j 0 : Nat) : Int) = M3
      have hM3a : M3 (r + 8 + c) s = (((A.ch c).getD j 0 : Nat) : Int) := by rw [← eM3]; exact up2_at
      have hM3o : ∀ b9 j9, (b9 ≠ r + 8 + c ∨ j9 ≠ s) → M3 b9 j9 = M1 b9 j9 := fun b9 j9 h9 => by rw [← eM3]; exact up2_ne h9
      have hM3r : ∀ b9, b9 ≠ r + 8 + c → M3 b9 = M1 b9 := fun b9 h9 => by rw [← eM3]; exact up2_row h9
      refine J_iinc (v := ((s : Nat) : Int) + 1) (lsn := [vR (r), vI (((p : Nat) : Int)), vI (((c : Nat) : Int)), vR (r + 8 + c), vI (((s : Nat) : Int) + 1), vI (((j : Nat) : Int))]) hx dX5_leave_47 rfl (jinc1 (by omega) (by omega)) rfl rfl ?_
      refine J_iinc (v := ((j : Nat) : Int) + 1) (lsn := [vR (r), vI (((p : Nat) : Int)), vI (((c : Nat) : Int)), vR (r + 8 + c), vI (((s : Nat) : Int) + 1), vI (((j : Nat) : Int) + 1)]) hx dX5_leave_50 rfl (jinc1 (by omega) (by omega)) rfl rfl ?_
      refine J_goto (tgt := 20) hx dX5_leave_53 (by decide) ?_
      exact lp_X5_leave hT hP hB hx hr hc hp hQ (j + 1) (s + 1) M3 (by omega) (by rw [lv_take (by omega), if_neg (by omega), List.length_append]; simp; omega) (fun k hk hk2 => by rw [hM3o _ _ (Or.inr (by omega))]; exact hrow k (by omega) hk2)
        (fun k hk => by
          rw [lv_take (by omega), if_neg (by omega), getD_app (by omega)]
          by_cases e : k = s
          · subst e; rw [if_pos (by omega), hM3a]
          · rw [if_neg (by omega), hM3o _ _ (Or.inr e)]; exact hst k (by omega))
        (by rw [hM3r _ (by omega)]; exact hz1) (fun a ha => by rw [hM3r a ha]; exact ho1 a ha)
termination_by (A.ch c).length - j
decreasing_by all_goals omega

set_option maxHeartbeats 4000000 in
theorem c_X5_leave {g : WG} {d : Nat} {T : TT} {M : MM} {r sz : Nat} {A : YA} {Q : MVal → TT → MM → Nat → Prop} (hT : YT T r) (hP : YP M r A) (hB : YB8 A) {c p : Nat} (hc : c < 2) (hp : p ∈ A.ch c) (hQ : ∀ M', YP M' r (A.setC c (lv_ (A.ch c) p)) → FrY r M M' → Q vU T M' sz) : Ct g (d + 1) mX5_leave [vR (r), vI (((p : Nat) : Int))] T M sz 0 0 Q := by
  refine Ct_of2 (ls := [vR (r), vI (((p : Nat) : Int)), vU, vU, vU, vU]) okX5_leave rfl (Nat.le_of_ble_eq_true rfl) rfl ?_
  intro x hx hr hnm
  have hp8 := hB.2.2 c hc p hp
  have hn8 := hB.1
  refine J_aload_n hx dX5_leave_0 (i := 0) rfl rfl ?_
  refine J_getR (b := r + 6) hx fl_X5_27 cl_X5 dX5_leave_1 hT.o (by decide) rfl hT.r5 ?_
  refine J_iload_n hx dX5_leave_4 (i := 1) rfl rfl ?_
  refine J_iald2 (v := ((c : Nat) : Int)) hx p dX5_leave_5 hT.k6 (by omega) (hT.l6 (by omega)) (hP.2.1 c hc p hp) ?_
  refine J_istore_n (lsn := [vR (r), vI (((p : Nat) : Int)), vI (((c : Nat) : Int)), vU, vU, vU]) hx dX5_leave_6 (i := 2) rfl (Nat.le_of_ble_eq_true rfl) rfl rfl ?_
  refine J_aload_n hx dX5_leave_7 (i := 0) rfl rfl ?_
  refine J_getR (b := r + 7) hx fl_X5_32 cl_X5 dX5_leave_8 hT.o (by decide) rfl hT.r6 ?_
  refine J_iload_n hx dX5_leave_11 (i := 2) rfl rfl ?_
  refine J_aald (b := r + 8 + c) hx c dX5_leave_12 hT.k7 (by decide) (by omega) (hT.l7 (by omega)) (hT.f7 (by omega)) ?_
  refine J_astore_n (lsn := [vR (r), vI (((p : Nat) : Int)), vI (((c : Nat) : Int)), vR (r + 8 + c), vU, vU]) hx dX5_leave_13 (i := 3) rfl (Nat.le_of_ble_eq_true rfl) rfl rfl ?_
  refine J_iconst (v := 0) hx dX5_leave_14 (by decide) ?_
  refine J_istore (lsn := [vR (r), vI (((p : Nat) : Int)), vI (((c : Nat) : Int)), vR (r + 8 + c), vI (0), vU]) hx dX5_leave_15 (Nat.le_of_ble_eq_true rfl) rfl rfl ?_
  refine J_iconst (v := 0) hx dX5_leave_17 (by decide) ?_
  refine J_istore (lsn := [vR (r), vI (((p : Nat) : Int)), vI (((c : Nat) : Int)), vR (r + 8 + c), vI (0), vI (0)]) hx dX5_leave_18 (Nat.le_of_ble_eq_true rfl) rfl rfl ?_
  exact lp_X5_leave hT hP hB hx hr hc hp hQ 0 0 M (by omega) rfl (fun k _ hk => hP.ln hc hk) (fun k hk => absurd hk (Nat.not_lt_zero k)) (hP.sz hc) (fun _ _ => rfl)

set_option maxHeartbeats 4000000 in
theorem lp_X5_enter {g : WG} {d : Nat} {T : TT} {M : MM} {r sz : Nat} {A : YA} {Q : MVal → TT → MM → Nat → Prop} (hT : YT T r) (hP : YP M r A) (hB : YB8 A) {x : CX} (hx : OKx g x RX5 cX5_enter (d + 1)) (hr : RTx g x none Q) {c p k : Nat} (hc : c < 2) (hk : k ≤ (A.ch c).length) (hl7 : (A.ch c).length < 8) (hpn : p < A.n) (hno : ∀ c, c < 2 → p ∉ A.ch c) (hQ : ∀ M', YP M' r (A.setC c (insAt (A.ch c) k p)) → FrY r M M' → Q vU T M' sz) (q : Nat) (M1 : MM) (hq1 : k ≤ q) (hq2 : q ≤ (A.ch c).length) (hrow : ∀ k1, M1 (r + 8 + c) k1 = if q < k1 ∧ k1 ≤ (A.ch c).length then M (r + 8 + c) (k1 - 1) else M (r + 8 + c) k1) (ho1 : ∀ a, a ≠ r + 8 + c → M1 a = M a) : Jd g x 16 [vR (r), vI (((p : Nat) : Int)), vI (((c : Nat) : Int)), vI (((k : Nat) : Int)), vR (r + 8 + c), vI (((q : Nat) : Int))] [] T M1 sz 0 0 := by
  have hn8 := hB.1
  refine J_iload hx dX5_enter_16 rfl ?_
  refine J_iload_n hx dX5_enter_18 (i := 3) rfl rfl ?_
  refine J_icmp_le (tgt := 40) hx dX5_enter_19 (by decide) (fun c1 => ?_) (fun c1 => ?_)
  · refine J_aload hx dX5_enter_40 rfl ?_
    refine J_iload_n hx dX5_enter_42 (i := 3) rfl rfl ?_
    refine J_iload_n hx dX5_enter_43 (i := 1) rfl rfl ?_
    refine J_iast hx k dX5_enter_44 (hT.kl (by omega)) (by omega) (hT.ll (by omega) (by omega)) ?_
    generalize eM2 : up2 M1 (r + 8 + c) k ((p : Nat) : Int) = M2
    have hM2a : M2 (r + 8 + c) k = ((p : Nat) : Int) := by rw [← eM2]; exact up2_at
    have hM2o : ∀ b9 j9, (b9 ≠ r + 8 + c ∨ j9 ≠ k) → M2 b9 j9 = M1 b9 j9 := fun b9 j9 h9 => by rw [← eM2]; exact up2_ne h9
    have hM2r : ∀ b9, b9 ≠ r + 8 + c → M2 b9 = M1 b9 := fun b9 h9 => by rw [← eM2]; exact up2_row h9
    refine J_aload_n hx dX5_enter_45 (i := 0) rfl rfl ?_
    refine J_getR (b := r + 10) hx fl_X5_35 cl_X5 dX5_enter_46 hT.o (by decide) rfl hT.r7 ?_
    refine J_iload_n hx dX5_enter_49 (i := 2) rfl rfl ?_
    refine J_dup2 hx dX5_enter_50 rfl rfl ?_
    refine J_iald2 (v := (((A.ch c).length : Nat) : Int)) hx c dX5_enter_51 hT.k10 (by omega) (hT.l10 (by omega)) (by rw [hM2r _ (by omega), ho1 _ (by omega)]; exact hP.sz hc) ?_
    refine J_iconst (v := 1) hx dX5_enter_52 (by decide) ?_
    refine J_iadd (v := (((A.ch c).length : Nat) : Int) + 1) hx dX5_enter_53 (w32_id (by omega) (by omega)) ?_
    refine J_iast hx c dX5_enter_54 hT.k10 (by omega) (hT.l10 (by omega)) ?_
    generalize eM3 : up2 M2 (r + 10) c ((((A.ch c).length : Nat) : Int) + 1) = M3
    have hM3a : M3 (r + 10) c = (((A.ch c).length : Nat) : Int) + 1 := by rw [← eM3]; exact up2_at
    have hM3o : ∀ b9 j9, (b9 ≠ r + 10 ∨ j9 ≠ c) → M3 b9 j9 = M2 b9 j9 := fun b9 j9 h9 => by rw [← eM3]; exact up2_ne h9
    have hM3r : ∀ b9, b9 ≠ r + 10 → M3 b9 = M2 b9 := fun b9 h9 => by rw [← eM3]; exact up2_row h9
    refine J_aload_n hx dX5_enter_55 (i := 0) rfl rfl ?_
    refine J_getR (b := r + 6) hx fl_X5_27 cl_X5 dX5_enter_56 hT.o (by decide) rfl hT.r5 ?_
    refine J_iload_n hx dX5_enter_59 (i := 1) rfl rfl ?_
    refine J_iload_n hx dX5_enter_60 (i := 2) rfl rfl ?_
    refine J_iast hx p dX5_enter_61 hT.k6 (by omega) (hT.l6 (by omega)) ?_
    generalize eM4 : up2 M3 (r + 6) p ((c : Nat) : Int) = M4
    have hM4a : M4 (r + 6) p = ((c : Nat) : Int) := by rw [← eM4]; exact up2_at
    have hM4o : ∀ b9 j9, (b9 ≠ r + 6 ∨ j9 ≠ p) → M4 b9 j9 = M3 b9 j9 := fun b9 j9 h9 => by rw [← eM4]; exact up2_ne h9
    have hM4r : ∀ b9, b9 ≠ r + 6 → M4 b9 = M3 b9 := fun b9 h9 => by rw [← eM4]; exact up2_row h9
    refine J_vret hx hr dX5_enter_62 ?_
    refine hQ M4 (hP.setC hc (fun q1 hq => ?_) (fun q1 hq => ?_) (fun k1 hk1 => ?_) ?_ ?_ (fun a h1 h2 h3 => by rw [hM4r a h1, hM3r a h3, hM2r a h2, ho1 a h2])) (fun a ha => by rw [hM4r a (by omega), hM3r a (by omega), hM2r a (by omega), ho1 a (by omega)])
    · by_cases e : q1 = p
      · subst e; exact hno _ (by omega)
      · exact absurd (by rw [hM4o _ _ (Or.inr e), hM3r _ (by omega), hM2r _ (by omega), ho1 _ (by omega)]) hq
    · by_cases e : q1 = p
      · subst e; exact hM4a
      · rw [hM4o _ _ (Or.inr e), hM3r _ (by omega), hM2r _ (by omega), ho1 _ (by omega)]; exact hP.2.1 c hc q1 ((insAt_mem.mp hq).resolve_left e)
    · rw [insAt_len hk] at hk1
      rw [insAt_getD hk, hM4r _ (by omega), hM3r _ (by omega)]
      by_cases e : k1 = k
      · subst e; rw [if_neg (by omega), if_pos rfl, hM2a]
      · rw [hM2o _ _ (Or.inr e), hrow]
        by_cases e2 : q < k1 ∧ k1 ≤ (A.ch c).length
        · rw [if_pos e2, if_neg (by omega), if_neg e]; exact hP.ln hc (by omega)
        · rw [if_neg e2, if_pos (by omega)]; exact hP.ln hc (by omega)
    · rw [hM4r _ (by omega), hM3a, insAt_len hk]; omega
    · rw [hM4r _ (by omega), hM3o _ _ (Or.inr (by omega)), hM2r _ (by omega), ho1 _ (by omega)]
  · refine J_aload hx dX5_enter_22 rfl ?_
    refine J_iload hx dX5_enter_24 rfl ?_
    refine J_aload hx dX5_enter_26 rfl ?_
    refine J_iload hx dX5_enter_28 rfl ?_
    refine J_iconst (v := 1) hx dX5_enter_30 (by decide) ?_
    refine J_isub (v := ((q : Nat) : Int) - 1) hx dX5_enter_31 (w32_id (by omega) (by omega)) ?_
    refine J_iald2 (v := M1 (r + 8 + c) (q - 1)) hx (q - 1) dX5_enter_32 (hT.kl (by omega)) (by omega) (hT.ll (by omega) (by omega)) rfl ?_
    refine J_iast hx q dX5_enter_33 (hT.kl (by omega)) (by omega) (hT.ll (by omega) (by omega)) ?_
    generalize eM5 : up2 M1 (r + 8 + c) q (M1 (r + 8 + c) (q - 1)) = M5
    have hM5a : M5 (r + 8 + c) q = M1 (r + 8 + c) (q - 1) := by rw [← eM5]; exact up2_at
    have hM5o : ∀ b9 j9, (b9 ≠ r + 8 + c ∨ j9 ≠ q) → M5 b9 j9 = M1 b9 j9 := fun b9 j9 h9 => by rw [← eM5]; exact up2_ne h9
    have hM5r : ∀ b9, b9 ≠ r + 8 + c → M5 b9 = M1 b9 := fun b9 h9 => by rw [← eM5]; exact up2_row h9
    refine J_iinc (v := ((q - 1 : Nat) : Int)) (lsn := [vR (r), vI (((p : Nat) : Int)), vI (((c : Nat) : Int)), vI (((k : Nat) : Int)), vR (r + 8 + c), vI (((q - 1 : Nat) : Int))]) hx dX5_enter_34 rfl (by rw [jincm1 (by omega) (by omega)]; omega) rfl rfl ?_
    refine J_goto (tgt := 16) hx dX5_enter_37 (by decide) ?_
    exact lp_X5_enter hT hP hB hx hr hc hk hl7 hpn hno hQ (q - 1) M5 (by omega) (by omega) (fun k1 => by
      by_cases e : k1 = q
      · subst e; rw [if_pos (by omega), hM5a, hrow, if_neg (by omega)]
      · rw [hM5o _ _ (Or.inr e), hrow]
        by_cases e2 : q < k1 ∧ k1 ≤ (A.ch c).length
        · rw [if_pos e2, if_pos (by omega)]
        · rw [if_neg e2, if_neg (by omega)]) (fun a ha => by rw [hM5r a ha]; exact ho1 a ha)
termination_by q
decreasing_by all_goals omega

set_option maxHeartbeats 4000000 in
theorem c_X5_enter {g : WG} {d : Nat} {T : TT} {M : MM} {r sz : Nat} {A : YA} {Q : MVal → TT → MM → Nat → Prop} (hT : YT T r) (hP : YP M r A) (hB : YB8 A) {c p k : Nat} (hc : c < 2) (hk : k ≤ (A.ch c).length) (hl7 : (A.ch c).length < 8) (hpn : p < A.n) (hno : ∀ c, c < 2 → p ∉ A.ch c) (hQ : ∀ M', YP M' r (A.setC c (insAt (A.ch c) k p)) → FrY r M M' → Q vU T M' sz) : Ct g (d + 1) mX5_enter [vR (r), vI (((p : Nat) : Int)), vI (((c : Nat) : Int)), vI (((k : Nat) : Int))] T M sz 0 0 Q := by
  refine Ct_of2 (ls := [vR (r), vI (((p : Nat) : Int)), vI (((c : Nat) : Int)), vI (((k : Nat) : Int)), vU, vU]) okX5_enter rfl (Nat.le_of_ble_eq_true rfl) rfl ?_
  intro x hx hr hnm
  have hn8 := hB.1
  refine J_aload_n hx dX5_enter_0 (i := 0) rfl rfl ?_
  refine J_getR (b := r + 7) hx fl_X5_32 cl_X5 dX5_enter_1 hT.o (by decide) rfl hT.r6 ?_
  refine J_iload_n hx dX5_enter_4 (i := 2) rfl rfl ?_
  refine J_aald (b := r + 8 + c) hx c dX5_enter_5 hT.k7 (by decide) (by omega) (hT.l7 (by omega)) (hT.f7 (by omega)) ?_
  refine J_astore (lsn := [vR (r), vI (((p : Nat) : Int)), vI (((c : Nat) : Int)), vI (((k : Nat) : Int)), vR (r + 8 + c), vU]) hx dX5_enter_6 (Nat.le_of_ble_eq_true rfl) rfl rfl ?_
  refine J_aload_n hx dX5_enter_8 (i := 0) rfl rfl ?_
  refine J_getR (b := r + 10) hx fl_X5_35 cl_X5 dX5_enter_9 hT.o (by decide) rfl hT.r7 ?_
  refine J_iload_n hx dX5_enter_12 (i := 2) rfl rfl ?_
  refine J_iald2 (v := (((A.ch c).length : Nat) : Int)) hx c dX5_enter_13 hT.k10 (by omega) (hT.l10 (by omega)) (hP.sz hc) ?_
  refine J_istore (lsn := [vR (r), vI (((p : Nat) : Int)), vI (((c : Nat) : Int)), vI (((k : Nat) : Int)), vR (r + 8 + c), vI ((((A.ch c).length : Nat) : Int))]) hx dX5_enter_14 (Nat.le_of_ble_eq_true rfl) rfl rfl ?_
  exact lp_X5_enter hT hP hB hx hr hc hk hl7 hpn hno hQ _ M (by omega) (by omega) (fun k1 => by rw [if_neg (by omega)]) (fun _ _ => rfl)
