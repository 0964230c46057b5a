theorem YA.ch_same (A : YA) (c : Nat) (l : List Nat) : (A.setC c l).ch c = l := if_pos rfl
theorem YA.ch_ne (A : YA) {c c' : Nat} (l : List Nat) (h : c' ≠ c) : (A.setC c l).ch c' = A.ch c' := if_neg h
theorem YP.tnx {M : MM} {r : Nat} {A A' : YA} (h : YP M r A') (hW : WFY A) (e : A'.sc = A.sc) : M r 13 = ((A.tn : Nat) : Int) := by
  have h1 := h.2.2.2.2.2 5 (by decide) (by decide)
  rw [e, hW.tni] at h1; exact h1
theorem YP.rnx {M : MM} {r : Nat} {A A' : YA} (h : YP M r A') (e : A'.sc 6 = A.sc 6) : M r 14 = A.sc 6 := by
  have h1 := h.2.2.2.2.2 6 (by decide) (by decide)
  rw [e] at h1; exact h1
theorem YB8.setC {A : YA} (h : YB8 A) {c : Nat} {l : List Nat} (hl : l.length ≤ 8) (hp : ∀ p, p ∈ l → p < A.n) : YB8 (A.setC c l) := by
  refine ⟨h.1, fun c' hc' => ?_, fun c' hc' p hp' => ?_⟩
  · by_cases e : c' = c
    · subst e; rw [A.ch_same]; exact hl
    · rw [A.ch_ne _ e]; exact h.2.1 c' hc'
  · by_cases e : c' = c
    · subst e; rw [A.ch_same] at hp'; exact hp p hp'
    · rw [A.ch_ne _ e] at hp'; exact h.2.2 c' hc' p hp'
theorem lv_mem {l : List Nat} {p q : Nat} : q ∈ lv_ l p ↔ q ∈ l ∧ q ≠ p := by unfold lv_; rw [List.mem_filter]; simp
theorem lv_le {l : List Nat} {p : Nat} : (lv_ l p).length ≤ l.length := List.length_filter_le _ _
theorem lvv_lt {l : List Nat} {p : Nat} (h : p ∈ l) : (lv_ l p).length < l.length := List.length_filter_lt_length_iff_exists.mpr ⟨p, h, by simp⟩
theorem tird_rg {v : Int} (h : 0 ≤ v ∧ v ≤ 20) : 0 ≤ tird v ∧ tird v ≤ 20 := by unfold tird; split <;> omega
def tirB (A : YA) (l r : Nat) : YA := (A.setA 3 l (tird (A.att 3 l))).setA 3 r (tird ((A.setA 3 l (tird (A.att 3 l))).att 3 r))
theorem tir1_rg {A : YA} (h : WFY A) {l r : Nat} (hl : l < A.n) (hr : r < A.n) : 0 ≤ (A.setA 3 l (tird (A.att 3 l))).att 3 r ∧ (A.setA 3 l (tird (A.att 3 l))).att 3 r ≤ 20 := by
  have h1 := h.ti hl; have h2 := h.ti hr
  show 0 ≤ (if 3 = 3 ∧ r = l then tird (A.att 3 l) else A.att 3 r) ∧ (if 3 = 3 ∧ r = l then tird (A.att 3 l) else A.att 3 r) ≤ 20
  unfold tird
  repeat' split
  all_goals omega
/-- behind a run of p at the joint j: HELD, or TORN (t: who is taken) -/
def runH (A : YA) (p j : Nat) : YA :=
  let B := (tirB A ((A.ch A.tn).getD j 0) ((A.ch A.tn).getD (j + 1) 0)).setC (1 - A.tn) (lv_ (A.ch (1 - A.tn)) p)
  ((B.setC A.tn (insAt (B.ch A.tn) (j + 1) p)).setS 5 (1 - ((A.tn : Nat) : Int))).setS 6 (A.sc 6 + 1)
def runTB (A : YA) (p j : Nat) : YA :=
  let B := (tirB A ((A.ch A.tn).getD j 0) ((A.ch A.tn).getD (j + 1) 0)).setC (1 - A.tn) (lv_ (A.ch (1 - A.tn)) p)
  B.setC (1 - A.tn) (insAt (B.ch (1 - A.tn)) (B.ch (1 - A.tn)).length p)
def runT (A : YA) (p j t : Nat) : YA :=
  let C := (runTB A p j).setC A.tn (lv_ ((runTB A p j).ch A.tn) t)
  ((C.setC (1 - A.tn) (insAt (C.ch (1 - A.tn)) (C.ch (1 - A.tn)).length t)).setS 5 (1 - ((A.tn : Nat) : Int))).setS 6 (A.sc 6 + 1)
theorem insAt_end (l : List Nat) (p : Nat) : insAt l l.length p = l ++ [p] := by unfold insAt; simp
/-- a yard with other chains and numbers, that are as they must be -/
theorem WFY.of {A B : YA} (h : WFY A) (hn : B.n = A.n) (ha : ∀ p, p < A.n → (∀ f, f < 5 → f ≠ 3 → B.att f p = A.att f p) ∧ 0 ≤ B.att 3 p ∧ B.att 3 p ≤ 20) (h1 : ∀ c, c < 2 → ∀ p ∈ B.ch c, p < A.n) (h2 : ∀ p, p < A.n → p ∈ B.ch 0 ∨ p ∈ B.ch 1) (h3 : ∀ c, c < 2 → (B.ch c).Nodup) (h4 : ∀ p, p ∈ B.ch 0 → p ∉ B.ch 1) (h5 : (B.ch 0).length + (B.ch 1).length = A.n) (hs : B.sc 1 = A.sc 1 ∧ B.sc 2 = A.sc 2 ∧ B.sc 3 = A.sc 3 ∧ B.sc 4 = A.sc 4 ∧ (0 ≤ B.sc 5 ∧ B.sc 5 ≤ 1) ∧ (0 ≤ B.sc 6 ∧ B.sc 6 ≤ 99) ∧ (-2147483648 ≤ B.sc 7 ∧ B.sc 7 ≤ 2147483647)) : WFY B := by
  obtain ⟨s1, s2, s3, s4, s5, s6, s7⟩ := hs
  refine ⟨by rw [hn]; exact h.n8, by rw [hn]; exact h1, by rw [hn]; exact h2, h3, h4, by rw [hn]; exact h5, fun p hp => ?_, by rw [s1]; exact h.s1, by rw [s2]; exact h.s2, by rw [s3]; exact h.s3, by rw [s4]; exact h.s4, s5, s6, s7⟩
  rw [hn] at hp
  obtain ⟨e, e3⟩ := ha p hp
  rw [e 0 (by decide) (by decide), e 1 (by decide) (by decide), e 2 (by decide) (by decide), e 4 (by decide) (by decide)]
  exact ⟨h.kd hp, h.gr hp, h.we hp, e3, h.by_ hp⟩
theorem tirB_att {A : YA} (h : WFY A) {l r : Nat} (hl : l < A.n) (hr : r < A.n) {p : Nat} (hp : p < A.n) : (∀ f, f < 5 → f ≠ 3 → (tirB A l r).att f p = A.att f p) ∧ 0 ≤ (tirB A l r).att 3 p ∧ (tirB A l r).att 3 p ≤ 20 := by
  have h0 := tir1_rg h hl hr
  have h1 := tir1_rg h hl hp
  constructor
  · intro f _ hf
    show (if f = 3 ∧ p = r then _ else if f = 3 ∧ p = l then _ else A.att f p) = _
    rw [if_neg (fun q => hf q.1), if_neg (fun q => hf q.1)]
  · show 0 ≤ (if 3 = 3 ∧ p = r then tird ((A.setA 3 l (tird (A.att 3 l))).att 3 r) else (A.setA 3 l (tird (A.att 3 l))).att 3 p) ∧ (if 3 = 3 ∧ p = r then tird ((A.setA 3 l (tird (A.att 3 l))).att 3 r) else (A.setA 3 l (tird (A.att 3 l))).att 3 p) ≤ 20
    split
    · exact tird_rg h0
    · exact h1
theorem tn_cases {A : YA} (h : WFY A) : (A.tn = 0 ∧ 1 - A.tn = 1) ∨ (A.tn = 1 ∧ 1 - A.tn = 0) := by have := h.tn2; omega
theorem lv_nodup {l : List Nat} {p : Nat} (h : l.Nodup) : (lv_ l p).Nodup := h.filter _
theorem lv_len1 {l : List Nat} {p : Nat} (h : l.Nodup) (hp : p ∈ l) : (lv_ l p).length + 1 = l.length := by
  have e : lv_ l p = l.erase p := by
    unfold lv_
    rw [h.erase_eq_filter]
    congr 1
    funext q
    by_cases e : q = p <;> simp [e]
  rw [e, List.length_erase_of_mem hp]
  have : 0 < l.length := List.length_pos_of_mem hp
  omega
theorem insAt_nodup {l : List Nat} {k p : Nat} (h : l.Nodup) (hp : p ∉ l) : (insAt l k p).Nodup := by
  unfold insAt
  have e : (l.take k ++ l.drop k) = l := List.take_append_drop k l
  rw [← e] at h hp
  rw [List.nodup_append] at h ⊢
  simp only [List.mem_append, not_or] at hp
  refine ⟨h.1, List.nodup_cons.mpr ⟨hp.2, h.2.1⟩, fun a ha b hb => ?_⟩
  rcases List.mem_cons.mp hb with rfl | hb
  · exact fun e => hp.1 (e ▸ ha)
  · exact h.2.2 a ha b hb
theorem runH_tn {A : YA} {p j : Nat} : (runH A p j).ch A.tn = insAt (((tirB A ((A.ch A.tn).getD j 0) ((A.ch A.tn).getD (j + 1) 0)).setC (1 - A.tn) (lv_ (A.ch (1 - A.tn)) p)).ch A.tn) (j + 1) p := if_pos rfl
theorem runH_ch {A : YA} (h : WFY A) (p j : Nat) : (runH A p j).ch A.tn = insAt (A.ch A.tn) (j + 1) p ∧ (runH A p j).ch (1 - A.tn) = lv_ (A.ch (1 - A.tn)) p := by
  have h2 := h.tn2
  constructor
  · rw [runH_tn, YA.ch_ne _ _ (by omega)]; rfl
  · show (YA.setC _ A.tn _).ch (1 - A.tn) = _
    rw [YA.ch_ne _ _ (by omega), YA.ch_same]
theorem runT_ch {A : YA} (h : WFY A) (p j t : Nat) : (runT A p j t).ch A.tn = lv_ (A.ch A.tn) t ∧ (runT A p j t).ch (1 - A.tn) = lv_ (A.ch (1 - A.tn)) p ++ [p] ++ [t] := by
  have h2 := h.tn2
  have hb : (runTB A p j).ch (1 - A.tn) = lv_ (A.ch (1 - A.tn)) p ++ [p] := by
    show (YA.setC _ (1 - A.tn) _).ch (1 - A.tn) = _
    rw [YA.ch_same, YA.ch_same, insAt_end]
  have hb2 : (runTB A p j).ch A.tn = A.ch A.tn := by
    show (YA.setC _ (1 - A.tn) _).ch A.tn = _
    rw [YA.ch_ne _ _ (by omega), YA.ch_ne _ _ (by omega)]; rfl
  constructor
  · show (YA.setC _ (1 - A.tn) _).ch A.tn = _
    rw [YA.ch_ne _ _ (by omega), YA.ch_same, hb2]
  · show (YA.setC _ (1 - A.tn) _).ch (1 - A.tn) = _
    rw [YA.ch_same, YA.ch_ne _ _ (by omega), hb, insAt_end]
/-- what a new pair of chains must be, by the one that calls (t) and the other -/
theorem two_ch {A B : YA} (h : WFY A) {X Y : List Nat} (h1 : B.ch A.tn = X) (h2 : B.ch (1 - A.tn) = Y) (k1 : ∀ p, p ∈ X → p < A.n) (k2 : ∀ p, p ∈ Y → p < A.n) (k3 : ∀ p, p < A.n → p ∈ X ∨ p ∈ Y) (k4 : X.Nodup) (k5 : Y.Nodup) (k6 : ∀ p, p ∈ X → p ∉ Y) (k7 : X.length + Y.length = A.n) :
    (∀ c, c < 2 → ∀ p ∈ B.ch c, p < A.n) ∧ (∀ p, p < A.n → p ∈ B.ch 0 ∨ p ∈ B.ch 1) ∧ (∀ c, c < 2 → (B.ch c).Nodup) ∧ (∀ p, p ∈ B.ch 0 → p ∉ B.ch 1) ∧ (B.ch 0).length + (B.ch 1).length = A.n := by
  rcases tn_cases h with ⟨e1, e2⟩ | ⟨e1, e2⟩
  · rw [e1] at h1; rw [e2] at h2
    refine ⟨fun c hc p hp => ?_, fun p hp => by rw [h1, h2]; exact k3 p hp, fun c hc => ?_, fun p hp => by rw [h1] at hp; rw [h2]; exact k6 p hp, by rw [h1, h2]; exact k7⟩
    · rcases (show c = 0 ∨ c = 1 by omega) with rfl | rfl
      · rw [h1] at hp; exact k1 p hp
      · rw [h2] at hp; exact k2 p hp
    · rcases (show c = 0 ∨ c = 1 by omega) with rfl | rfl
      · rw [h1]; exact k4
      · rw [h2]; exact k5
  · rw [e1] at h1; rw [e2] at h2
    refine ⟨fun c hc p hp => ?_, fun p hp => by rw [h1, h2]; exact (k3 p hp).symm, fun c hc => ?_, fun p hp => by rw [h2] at hp; rw [h1]; exact fun q => k6 p q hp, by rw [h1, h2]; omega⟩
    · rcases (show c = 0 ∨ c = 1 by omega) with rfl | rfl
      · rw [h2] at hp; exact k2 p hp
      · rw [h1] at hp; exact k1 p hp
    · rcases (show c = 0 ∨ c = 1 by omega) with rfl | rfl
      · rw [h2]; exact k5
      · rw [h1]; exact k4
theorem WFY.cov2 {A : YA} (h : WFY A) {p : Nat} (hp : p < A.n) : p ∈ A.ch A.tn ∨ p ∈ A.ch (1 - A.tn) := by
  rcases tn_cases h with ⟨e1, e2⟩ | ⟨e1, e2⟩ <;> rw [e2, e1]
  · exact h.cov hp
  · exact (h.cov hp).symm
theorem WFY.dj2 {A : YA} (h : WFY A) {p : Nat} (hp : p ∈ A.ch A.tn) : p ∉ A.ch (1 - A.tn) := by
  rcases tn_cases h with ⟨e1, e2⟩ | ⟨e1, e2⟩ <;> rw [e1] at hp <;> rw [e2]
  · exact h.dj hp
  · exact fun q => h.dj q hp
theorem WFY.len2 {A : YA} (h : WFY A) : (A.ch A.tn).length + (A.ch (1 - A.tn)).length = A.n := by
  have := h.len
  rcases tn_cases h with ⟨e1, e2⟩ | ⟨e1, e2⟩ <;> rw [e2, e1]
  · exact this
  · omega
theorem WFY.called {A : YA} (h : WFY A) {p : Nat} (hp : p < A.n) (hc : A.co p ≠ A.tn) : p ∈ A.ch (1 - A.tn) := by
  have h1 := A.co2 p; have h2 := h.tn2
  exact h.cos hp (by omega)
theorem not_over {A : YA} (h : ¬ overY A) : 2 ≤ (A.ch 0).length ∧ 2 ≤ (A.ch 1).length ∧ A.sc 6 < A.sc 4 := by unfold overY at h; omega
theorem not_over2 {A : YA} (hW : WFY A) (h : ¬ overY A) : 2 ≤ (A.ch A.tn).length ∧ 2 ≤ (A.ch (1 - A.tn)).length ∧ A.sc 6 < A.sc 4 := by
  have := not_over h
  rcases tn_cases hW with ⟨e1, e2⟩ | ⟨e1, e2⟩ <;> rw [e2, e1] <;> omega
theorem runH_wf {A : YA} (h : WFY A) {p j : Nat} (hp : p < A.n) (hc : A.co p ≠ A.tn) (hj : j + 1 < (A.ch A.tn).length) (ho : ¬ overY A) : WFY (runH A p j) := by
  have hm := h.called hp hc
  have ht := h.tn2
  obtain ⟨c1, c2⟩ := runH_ch h p j
  have hnt : p ∉ A.ch A.tn := fun q => h.dj2 q hm
  have hl := lv_len1 (h.nd (show 1 - A.tn < 2 by omega)) hm
  have hl2 := h.len2
  obtain ⟨h1, h2, h3, h4, h5⟩ := two_ch h c1 c2 (fun q hq => by rcases insAt_mem.mp hq with rfl | hq; exact hp; exact h.lt ht hq) (fun q hq => h.lt (by omega) (lv_mem.mp hq).1)
    (fun q hq => by
      by_cases e : q = p
      · subst e; exact Or.inl (insAt_mem.mpr (Or.inl rfl))
      · exact (h.cov2 hq).imp (fun z => insAt_mem.mpr (Or.inr z)) (fun z => lv_mem.mpr ⟨z, e⟩))
    (insAt_nodup (h.nd ht) hnt) (lv_nodup (h.nd (by omega))) (fun q hq z => by
      rcases insAt_mem.mp hq with rfl | hq
      · exact (lv_mem.mp z).2 rfl
      · exact h.dj2 hq (lv_mem.mp z).1) (by rw [insAt_len (by omega)]; omega)
  refine h.of rfl (fun q hq => tirB_att h (h.at ht (by omega)) (h.at ht hj) hq) h1 h2 h3 h4 h5 ⟨rfl, rfl, rfl, rfl, ?_, ?_, h.s7⟩
  · show 0 ≤ 1 - ((A.tn : Nat) : Int) ∧ 1 - ((A.tn : Nat) : Int) ≤ 1
    omega
  · show 0 ≤ A.sc 6 + 1 ∧ A.sc 6 + 1 ≤ 99
    have := (not_over ho).2.2; have := h.s4; have := h.s6
    omega
theorem runT_wf {A : YA} (h : WFY A) {p j t : Nat} (hp : p < A.n) (hc : A.co p ≠ A.tn) (hj : j + 1 < (A.ch A.tn).length) (ho : ¬ overY A) (htk : t ∈ A.ch A.tn) : WFY (runT A p j t) := by
  have hm := h.called hp hc
  have ht := h.tn2
  obtain ⟨c1, c2⟩ := runT_ch h p j t
  have hnt : p ∉ A.ch A.tn := fun q => h.dj2 q hm
  have hl := lv_len1 (h.nd (show 1 - A.tn < 2 by omega)) hm
  have hl3 := lv_len1 (h.nd ht) htk
  have hl2 := h.len2
  have hto : t ∉ A.ch (1 - A.tn) := h.dj2 htk
  have htp : t ≠ p := fun e => hnt (e ▸ htk)
  obtain ⟨h1, h2, h3, h4, h5⟩ := two_ch h c1 c2 (fun q hq => h.lt ht (lv_mem.mp hq).1) (fun q hq => by
      simp only [List.mem_append, List.mem_singleton] at hq
      rcases hq with (hq | rfl) | rfl
      · exact h.lt (by omega) (lv_mem.mp hq).1
      · exact hp
      · exact h.lt ht htk)
    (fun q hq => by
      simp only [List.mem_append, List.mem_singleton, lv_mem]
      by_cases e : q = p
      · exact Or.inr (Or.inl (Or.inr e))
      · by_cases e2 : q = t
        · exact Or.inr (Or.inr e2)
        · exact (h.cov2 hq).imp (fun z => ⟨z, e2⟩) (fun z => Or.inl (Or.inl ⟨z, e⟩)))
    (lv_nodup (h.nd ht)) (by
      rw [List.nodup_append, List.nodup_append]
      refine ⟨⟨lv_nodup (h.nd (by omega)), by simp, fun a ha b hb => ?_⟩, by simp, fun a ha b hb => ?_⟩
      · rw [List.mem_singleton.mp hb]; exact (lv_mem.mp ha).2
      · rw [List.mem_singleton.mp hb]
        simp only [List.mem_append, List.mem_singleton, lv_mem] at ha
        rcases ha with ha | ha
        · exact fun e => hto (e ▸ ha.1)
        · rw [ha]; exact htp.symm)
    (fun q hq z => by
      simp only [List.mem_append, List.mem_singleton, lv_mem] at z hq
      rcases z with (z | z) | z
      · exact h.dj2 hq.1 z.1
      · exact hnt (z ▸ hq.1)
      · exact hq.2 z) (by rw [List.length_append, List.length_append]; simp only [List.length_cons, List.length_nil]; omega)
  refine h.of rfl (fun q hq => tirB_att h (h.at ht (by omega)) (h.at ht hj) hq) h1 h2 h3 h4 h5 ⟨rfl, rfl, rfl, rfl, ?_, ?_, h.s7⟩
  · show 0 ≤ 1 - ((A.tn : Nat) : Int) ∧ 1 - ((A.tn : Nat) : Int) ≤ 1
    omega
  · show 0 ≤ A.sc 6 + 1 ∧ A.sc 6 + 1 ≤ 99
    have := (not_over ho).2.2; have := h.s4; have := h.s6
    omega

set_option maxHeartbeats 4000000 in
theorem c_X5_comeToPass_held {g : WG} {d : Nat} {T : TT} {M : MM} {r sz : Nat} {A : YA} {Q : MVal → TT → MM → Nat → Prop} (hT : YT T r) (hN : YN M r A) (hW : WFY A) {p j : Nat} (hp : p < A.n) (hc : A.co p ≠ A.tn) (hj : j + 1 < (A.ch A.tn).length) (ho : ¬ overY A) (hQ : ∀ M', YN M' r (runH A p j) → FrY r M M' → Q vU T M' sz) : Ct g (d + 2) mX5_comeToPass [vR (r), vI (((p : Nat) : Int)), vI (((j : Nat) : Int)), vI (0)] T M sz 0 0 Q := by
  refine Ct_of2 (ls := [vR (r), vI (((p : Nat) : Int)), vI (((j : Nat) : Int)), vI (0), vU, vU, vU, vU]) okX5_comeToPass rfl (Nat.le_of_ble_eq_true rfl) rfl ?_
  intro x hx hr hnm
  have ht := hW.tn2
  have hm := hW.called hp hc
  have hL9 := hW.at (c := A.tn) (k := j) ht (by omega)
  have hR9 := hW.at (c := A.tn) (k := j + 1) ht hj
  have hn8 := hW.n8
  have hl8 := hW.len8 ht
  have hP := hN.toP hW
  have hB := hW.b8
  have hnv := not_over2 hW ho
  have hl2 := hW.len2
  have hs6 := hW.s6
  have hs4 := hW.s4
  have hlv := lv_len1 (hW.nd (show 1 - A.tn < 2 by omega)) hm
  have ech : (((tirB A ((A.ch A.tn).getD j 0) ((A.ch A.tn).getD (j + 1) 0)).setC (1 - A.tn) (lv_ (A.ch (1 - A.tn)) p))).ch A.tn = A.ch A.tn := by rw [YA.ch_ne _ _ (by omega)]; rfl
  have hk58 : j + 1 ≤ ((((tirB A ((A.ch A.tn).getD j 0) ((A.ch A.tn).getD (j + 1) 0)).setC (1 - A.tn) (lv_ (A.ch (1 - A.tn)) p))).ch A.tn).length := by rw [ech]; omega
  have hl58 : ((((tirB A ((A.ch A.tn).getD j 0) ((A.ch A.tn).getD (j + 1) 0)).setC (1 - A.tn) (lv_ (A.ch (1 - A.tn)) p))).ch A.tn).length < 8 := by rw [ech]; omega
  have hno58 : ∀ c9, c9 < 2 → p ∉ (((tirB A ((A.ch A.tn).getD j 0) ((A.ch A.tn).getD (j + 1) 0)).setC (1 - A.tn) (lv_ (A.ch (1 - A.tn)) p))).ch c9 := fun c9 hc9 q9 => by
    by_cases e9 : c9 = 1 - A.tn
    · subst e9; rw [YA.ch_same] at q9; exact (lv_mem.mp q9).2 rfl
    · rw [YA.ch_ne _ _ e9] at q9; rw [show c9 = A.tn by omega] at q9; exact hW.dj2 q9 hm
  refine J_aload_n hx dX5_comeToPass_0 (i := 0) rfl rfl ?_
  refine J_getR (b := r + 7) hx fl_X5_32 cl_X5 dX5_comeToPass_1 hT.o (by decide) rfl hT.r6 ?_
  refine J_aload_n hx dX5_comeToPass_4 (i := 0) rfl rfl ?_
  refine J_getI2 (v := ((A.tn : Nat) : Int)) hx fl_X5_63 cl_X5 dX5_comeToPass_5 hT.o (by decide) rfl (hP.tnx hW rfl) ?_
  have rg1 := hW.tn2
  refine J_aald (b := r + 8 + A.tn) hx A.tn dX5_comeToPass_8 hT.k7 (by decide) (by omega) (hT.l7 (by omega)) (hT.f7 (by omega)) ?_
  refine J_iload_n hx dX5_comeToPass_9 (i := 2) rfl rfl ?_
  refine J_iald2 (v := (((A.ch A.tn).getD j 0 : Nat) : Int)) hx j dX5_comeToPass_10 (hT.kl (by omega)) (by omega) (hT.ll (by omega) (by omega)) (hP.ln (by omega) (by omega)) ?_
  have rg2 := hW.at (c := A.tn) (k := j) (by omega) (by omega)
  refine J_istore (lsn := [vR (r), vI (((p : Nat) : Int)), vI (((j : Nat) : Int)), vI (0), vI ((((A.ch A.tn).getD j 0 : Nat) : Int)), vU, vU, vU]) hx dX5_comeToPass_11 (Nat.le_of_ble_eq_true rfl) rfl rfl ?_
  refine J_aload_n hx dX5_comeToPass_13 (i := 0) rfl rfl ?_
  refine J_getR (b := r + 7) hx fl_X5_32 cl_X5 dX5_comeToPass_14 hT.o (by decide) rfl hT.r6 ?_
  refine J_aload_n hx dX5_comeToPass_17 (i := 0) rfl rfl ?_
  refine J_getI2 (v := ((A.tn : Nat) : Int)) hx fl_X5_63 cl_X5 dX5_comeToPass_18 hT.o (by decide) rfl (hP.tnx hW rfl) ?_
  have rg3 := hW.tn2
  refine J_aald (b := r + 8 + A.tn) hx A.tn dX5_comeToPass_21 hT.k7 (by decide) (by omega) (hT.l7 (by omega)) (hT.f7 (by omega)) ?_
  refine J_iload_n hx dX5_comeToPass_22 (i := 2) rfl rfl ?_
  refine J_iconst (v := 1) hx dX5_comeToPass_23 (by decide) ?_
  refine J_iadd (v := ((j : Nat) : Int) + 1) hx dX5_comeToPass_24 (w32_id (by omega) (by omega)) ?_
  refine J_iald2 (v := (((A.ch A.tn).getD (j + 1) 0 : Nat) : Int)) hx (j + 1) dX5_comeToPass_25 (hT.kl (by omega)) (by omega) (hT.ll (by omega) (by omega)) (hP.ln (by omega) (by omega)) ?_
  have rg4 := hW.at (c := A.tn) (k := j + 1) (by omega) (by omega)
  refine J_istore (lsn := [vR (r), vI (((p : Nat) : Int)), vI (((j : Nat) : Int)), vI (0), vI ((((A.ch A.tn).getD j 0 : Nat) : Int)), vI ((((A.ch A.tn).getD (j + 1) 0 : Nat) : Int)), vU, vU]) hx dX5_comeToPass_26 (Nat.le_of_ble_eq_true rfl) rfl rfl ?_
  refine J_aload_n hx dX5_comeToPass_28 (i := 0) rfl rfl ?_
  refine J_iload hx dX5_comeToPass_29 rfl ?_
  refine J_invVv (As := [vI ((((A.ch A.tn).getD j 0 : Nat) : Int))]) (st := []) hx lk_X5_123 okX5_tire dX5_comeToPass_31 hT.o (by decide) rfl rfl rfl (Nat.le_of_ble_eq_true rfl) (Nat.zero_add _).symm (Nat.zero_add _).symm rfl (c_X5_tire hT hP hB (p := (A.ch A.tn).getD j 0) (hL9) (hW.ti hL9) ?_)
  intro M1 hP1 hf1
  have hB1 : YB8 (A.setA 3 ((A.ch A.tn).getD j 0) (tird (A.att 3 ((A.ch A.tn).getD j 0)))) := hB
  have hF1 := FrY.rf.tr hf1
  refine J_aload_n hx dX5_comeToPass_34 (i := 0) rfl rfl ?_
  refine J_iload hx dX5_comeToPass_35 rfl ?_
  refine J_invVv (As := [vI ((((A.ch A.tn).getD (j + 1) 0 : Nat) : Int))]) (st := []) hx lk_X5_123 okX5_tire dX5_comeToPass_37 hT.o (by decide) rfl rfl rfl (Nat.le_of_ble_eq_true rfl) (Nat.zero_add _).symm (Nat.zero_add _).symm rfl (c_X5_tire hT hP1 hB1 (p := (A.ch A.tn).getD (j + 1) 0) (hR9) (tir1_rg hW hL9 hR9) ?_)
  intro M2 hP2 hf2
  have hB2 : YB8 ((A.setA 3 ((A.ch A.tn).getD j 0) (tird (A.att 3 ((A.ch A.tn).getD j 0)))).setA 3 ((A.ch A.tn).getD (j + 1) 0) (tird ((A.setA 3 ((A.ch A.tn).getD j 0) (tird (A.att 3 ((A.ch A.tn).getD j 0)))).att 3 ((A.ch A.tn).getD (j + 1) 0)))) := hB1
  have hF2 := hF1.tr hf2
  refine J_aload_n hx dX5_comeToPass_40 (i := 0) rfl rfl ?_
  refine J_iload_n hx dX5_comeToPass_41 (i := 1) rfl rfl ?_
  refine J_invVv (As := [vI (((p : Nat) : Int))]) (st := []) hx lk_X5_127 okX5_leave dX5_comeToPass_42 hT.o (by decide) rfl rfl rfl (Nat.le_of_ble_eq_true rfl) (Nat.zero_add _).symm (Nat.zero_add _).symm rfl (c_X5_leave hT hP2 hB2 (c := (1 - A.tn)) (p := p) (by omega) (hm) ?_)
  intro M3 hP3 hf3
  have hB3 : YB8 (((A.setA 3 ((A.ch A.tn).getD j 0) (tird (A.att 3 ((A.ch A.tn).getD j 0)))).setA 3 ((A.ch A.tn).getD (j + 1) 0) (tird ((A.setA 3 ((A.ch A.tn).getD j 0) (tird (A.att 3 ((A.ch A.tn).getD j 0)))).att 3 ((A.ch A.tn).getD (j + 1) 0)))).setC (1 - A.tn) (lv_ (((A.setA 3 ((A.ch A.tn).getD j 0) (tird (A.att 3 ((A.ch A.tn).getD j 0)))).setA 3 ((A.ch A.tn).getD (j + 1) 0) (tird ((A.setA 3 ((A.ch A.tn).getD j 0) (tird (A.att 3 ((A.ch A.tn).getD j 0)))).att 3 ((A.ch A.tn).getD (j + 1) 0)))).ch (1 - A.tn)) p)) := hB2.setC (Nat.le_trans lv_le (hB2.2.1 _ (by omega))) (fun q9 hq9 => hB2.2.2 _ (by omega) q9 (lv_mem.mp hq9).1)
  have hF3 := hF2.tr hf3
  refine J_iload_n hx dX5_comeToPass_45 (i := 3) rfl rfl ?_
  refine J_if_ne (tgt := 64) hx dX5_comeToPass_46 (by decide) (fun c9 => absurd rfl c9) (fun _ => ?_)
  refine J_aload_n hx dX5_comeToPass_49 (i := 0) rfl rfl ?_
  refine J_iload_n hx dX5_comeToPass_50 (i := 1) rfl rfl ?_
  refine J_aload_n hx dX5_comeToPass_51 (i := 0) rfl rfl ?_
  refine J_getI2 (v := ((A.tn : Nat) : Int)) hx fl_X5_63 cl_X5 dX5_comeToPass_52 hT.o (by decide) rfl (hP3.tnx hW rfl) ?_
  have rg5 := hW.tn2
  refine J_iload_n hx dX5_comeToPass_55 (i := 2) rfl rfl ?_
  refine J_iconst (v := 1) hx dX5_comeToPass_56 (by decide) ?_
  refine J_iadd (v := ((j : Nat) : Int) + 1) hx dX5_comeToPass_57 (w32_id (by omega) (by omega)) ?_
  refine J_invVv (As := [vI (((p : Nat) : Int)), vI (((A.tn : Nat) : Int)), vI (((j : Nat) : Int) + 1)]) (st := []) hx lk_X5_69 okX5_enter dX5_comeToPass_58 hT.o (by decide) rfl rfl rfl (Nat.le_of_ble_eq_true rfl) (Nat.zero_add _).symm (Nat.zero_add _).symm rfl (c_X5_enter hT hP3 hB3 (c := A.tn) (p := p) (k := (j + 1)) (by omega) hk58 hl58 hp hno58 ?_)
  intro M4 hP4 hf4
  have hB4 : YB8 ((((A.setA 3 ((A.ch A.tn).getD j 0) (tird (A.att 3 ((A.ch A.tn).getD j 0)))).setA 3 ((A.ch A.tn).getD (j + 1) 0) (tird ((A.setA 3 ((A.ch A.tn).getD j 0) (tird (A.att 3 ((A.ch A.tn).getD j 0)))).att 3 ((A.ch A.tn).getD (j + 1) 0)))).setC (1 - A.tn) (lv_ (((A.setA 3 ((A.ch A.tn).getD j 0) (tird (A.att 3 ((A.ch A.tn).getD j 0)))).setA 3 ((A.ch A.tn).getD (j + 1) 0) (tird ((A.setA 3 ((A.ch A.tn).getD j 0) (tird (A.att 3 ((A.ch A.tn).getD j 0)))).att 3 ((A.ch A.tn).getD (j + 1) 0)))).ch (1 - A.tn)) p)).setC A.tn (insAt ((((A.setA 3 ((A.ch A.tn).getD j 0) (tird (A.att 3 ((A.ch A.tn).getD j 0)))).setA 3 ((A.ch A.tn).getD (j + 1) 0) (tird ((A.setA 3 ((A.ch A.tn).getD j 0) (tird (A.att 3 ((A.ch A.tn).getD j 0)))).att 3 ((A.ch A.tn).getD (j + 1) 0)))).setC (1 - A.tn) (lv_ (((A.setA 3 ((A.ch A.tn).getD j 0) (tird (A.att 3 ((A.ch A.tn).getD j 0)))).setA 3 ((A.ch A.tn).getD (j + 1) 0) (tird ((A.setA 3 ((A.ch A.tn).getD j 0) (tird (A.att 3 ((A.ch A.tn).getD j 0)))).att 3 ((A.ch A.tn).getD (j + 1) 0)))).ch (1 - A.tn)) p)).ch A.tn) (j + 1) p)) := hB3.setC (Nat.le_trans (Nat.le_of_eq (insAt_len hk58)) hl58) (fun q9 hq9 => (insAt_mem.mp hq9).elim (fun e9 => e9 ▸ hp) (fun h9 => hB3.2.2 _ (by omega) q9 h9))
  have hF4 := hF3.tr hf4
  refine J_goto (tgt := 121) hx dX5_comeToPass_61 (by decide) ?_
  refine J_aload_n hx dX5_comeToPass_121 (i := 0) rfl rfl ?_
  refine J_iconst (v := 1) hx dX5_comeToPass_122 (by decide) ?_
  refine J_aload_n hx dX5_comeToPass_123 (i := 0) rfl rfl ?_
  refine J_getI2 (v := ((A.tn : Nat) : Int)) hx fl_X5_63 cl_X5 dX5_comeToPass_124 hT.o (by decide) rfl (hP4.tnx hW rfl) ?_
  have rg6 := hW.tn2
  refine J_isub (v := 1 - ((A.tn : Nat) : Int)) hx dX5_comeToPass_127 (w32_id (by omega) (by omega)) ?_
  refine J_putI hx fl_X5_63 cl_X5 dX5_comeToPass_128 hT.o (by decide) rfl (Or.inl rfl) (by decide) ?_
  have hP5 := hP4.setS (q := 5) (1 - ((A.tn : Nat) : Int)) (by decide)
  have hF5 := hF4.up (k := 0) (i := 13) (by decide) (1 - ((A.tn : Nat) : Int))
  generalize eM5 : up2 M4 r 13 (1 - ((A.tn : Nat) : Int)) = M5 at hP5 hF5 ⊢
  refine J_aload_n hx dX5_comeToPass_131 (i := 0) rfl rfl ?_
  refine J_dup hx dX5_comeToPass_132 rfl ?_
  refine J_getI2 (v := A.sc 6) hx fl_X5_66 cl_X5 dX5_comeToPass_133 hT.o (by decide) rfl (hP5.rnx (A := A) rfl) ?_
  refine J_iconst (v := 1) hx dX5_comeToPass_136 (by decide) ?_
  refine J_iadd (v := A.sc 6 + 1) hx dX5_comeToPass_137 (w32_id (by omega) (by omega)) ?_
  refine J_putI hx fl_X5_66 cl_X5 dX5_comeToPass_138 hT.o (by decide) rfl (Or.inl rfl) (by decide) ?_
  have hP6 := hP5.setS (q := 6) (A.sc 6 + 1) (by decide)
  have hF6 := hF5.up (k := 0) (i := 14) (by decide) (A.sc 6 + 1)
  generalize eM6 : up2 M5 r 14 (A.sc 6 + 1) = M6 at hP6 hF6 ⊢
  refine J_vret hx hr dX5_comeToPass_141 ?_
  exact hQ _ (hP6.toN (runH_wf hW hp hc hj ho)) hF6

set_option maxHeartbeats 4000000 in
theorem c_X5_comeToPass_torn1 {g : WG} {d : Nat} {T : TT} {M : MM} {r sz : Nat} {A : YA} {Q : MVal → TT → MM → Nat → Prop} (hT : YT T r) (hN : YN M r A) (hW : WFY A) {p j : Nat} (hp : p < A.n) (hc : A.co p ≠ A.tn) (hj : j + 1 < (A.ch A.tn).length) (ho : ¬ overY A) (hQ : ∀ M', YN M' r (runT A p j ((A.ch A.tn).getD j 0)) → FrY r M M' → Q vU T M' sz) : Ct g (d + 2) mX5_comeToPass [vR (r), vI (((p : Nat) : Int)), vI (((j : Nat) : Int)), vI (1)] T M sz 0 0 Q := by
  refine Ct_of2 (ls := [vR (r), vI (((p : Nat) : Int)), vI (((j : Nat) : Int)), vI (1), vU, vU, vU, vU]) okX5_comeToPass rfl (Nat.le_of_ble_eq_true rfl) rfl ?_
  intro x hx hr hnm
  have ht := hW.tn2
  have hm := hW.called hp hc
  have hL9 := hW.at (c := A.tn) (k := j) ht (by omega)
  have hR9 := hW.at (c := A.tn) (k := j + 1) ht hj
  have hn8 := hW.n8
  have hl8 := hW.len8 ht
  have hP := hN.toP hW
  have hB := hW.b8
  have hnv := not_over2 hW ho
  have hl2 := hW.len2
  have hs6 := hW.s6
  have hs4 := hW.s4
  have hlv := lv_len1 (hW.nd (show 1 - A.tn < 2 by omega)) hm
  have htk0 := hW.mem (c := A.tn) (k := j) ht (by omega)
  have hnt : p ∉ A.ch A.tn := fun q9 => hW.dj2 q9 hm
  have htn9 := hL9
  have e0 : (((tirB A ((A.ch A.tn).getD j 0) ((A.ch A.tn).getD (j + 1) 0)).setC (1 - A.tn) (lv_ (A.ch (1 - A.tn)) p))).ch (1 - A.tn) = lv_ (A.ch (1 - A.tn)) p := YA.ch_same _ _ _
  have hk97 : ((((tirB A ((A.ch A.tn).getD j 0) ((A.ch A.tn).getD (j + 1) 0)).setC (1 - A.tn) (lv_ (A.ch (1 - A.tn)) p))).ch (1 - A.tn)).length ≤ ((((tirB A ((A.ch A.tn).getD j 0) ((A.ch A.tn).getD (j + 1) 0)).setC (1 - A.tn) (lv_ (A.ch (1 - A.tn)) p))).ch (1 - A.tn)).length := Nat.le_refl _
  have hl97 : ((((tirB A ((A.ch A.tn).getD j 0) ((A.ch A.tn).getD (j + 1) 0)).setC (1 - A.tn) (lv_ (A.ch (1 - A.tn)) p))).ch (1 - A.tn)).length < 8 := by rw [e0]; omega
  have hno97 : ∀ c9, c9 < 2 → p ∉ (((tirB A ((A.ch A.tn).getD j 0) ((A.ch A.tn).getD (j + 1) 0)).setC (1 - A.tn) (lv_ (A.ch (1 - A.tn)) p))).ch c9 := fun c9 hc9 q9 => by
    by_cases e9 : c9 = 1 - A.tn
    · subst e9; rw [YA.ch_same] at q9; exact (lv_mem.mp q9).2 rfl
    · rw [YA.ch_ne _ _ e9] at q9; rw [show c9 = A.tn by omega] at q9; exact hnt q9
  have e1 : (runTB A p j).ch A.tn = A.ch A.tn := by
    show (YA.setC _ (1 - A.tn) _).ch A.tn = _
    rw [YA.ch_ne _ _ (by omega), YA.ch_ne _ _ (by omega)]; rfl
  have e2 : (runTB A p j).ch (1 - A.tn) = lv_ (A.ch (1 - A.tn)) p ++ [p] := by
    show (YA.setC _ (1 - A.tn) _).ch (1 - A.tn) = _
    rw [YA.ch_same, e0, insAt_end]
  have htk9 : ((A.ch A.tn).getD j 0) ∈ (runTB A p j).ch A.tn := by rw [e1]; exact htk0
  have e3 : ((runTB A p j).setC A.tn (lv_ ((runTB A p j).ch A.tn) ((A.ch A.tn).getD j 0))).ch (1 - A.tn) = lv_ (A.ch (1 - A.tn)) p ++ [p] := by rw [YA.ch_ne _ _ (by omega), e2]
  have hk118 : (((runTB A p j).setC A.tn (lv_ ((runTB A p j).ch A.tn) ((A.ch A.tn).getD j 0))).ch (1 - A.tn)).length ≤ (((runTB A p j).setC A.tn (lv_ ((runTB A p j).ch A.tn) ((A.ch A.tn).getD j 0))).ch (1 - A.tn)).length := Nat.le_refl _
  have hl118 : (((runTB A p j).setC A.tn (lv_ ((runTB A p j).ch A.tn) ((A.ch A.tn).getD j 0))).ch (1 - A.tn)).length < 8 := by rw [e3, List.length_append]; simp only [List.length_cons, List.length_nil]; omega
  have hno118 : ∀ c9, c9 < 2 → ((A.ch A.tn).getD j 0) ∉ ((runTB A p j).setC A.tn (lv_ ((runTB A p j).ch A.tn) ((A.ch A.tn).getD j 0))).ch c9 := fun c9 hc9 q9 => by
    by_cases e9 : c9 = A.tn
    · subst e9; rw [YA.ch_same] at q9; exact (lv_mem.mp q9).2 rfl
    · rw [show c9 = 1 - A.tn by omega, e3] at q9
      simp only [List.mem_append, List.mem_singleton] at q9
      rcases q9 with q9 | q9
      · exact hW.dj2 htk0 (lv_mem.mp q9).1
      · exact hnt (q9 ▸ htk0)
  refine J_aload_n hx dX5_comeToPass_0 (i := 0) rfl rfl ?_
  refine J_getR (b := r + 7) hx fl_X5_32 cl_X5 dX5_comeToPass_1 hT.o (by decide) rfl hT.r6 ?_
  refine J_aload_n hx dX5_comeToPass_4 (i := 0) rfl rfl ?_
  refine J_getI2 (v := ((A.tn : Nat) : Int)) hx fl_X5_63 cl_X5 dX5_comeToPass_5 hT.o (by decide) rfl (hP.tnx hW rfl) ?_
  have rg1 := hW.tn2
  refine J_aald (b := r + 8 + A.tn) hx A.tn dX5_comeToPass_8 hT.k7 (by decide) (by omega) (hT.l7 (by omega)) (hT.f7 (by omega)) ?_
  refine J_iload_n hx dX5_comeToPass_9 (i := 2) rfl rfl ?_
  refine J_iald2 (v := (((A.ch A.tn).getD j 0 : Nat) : Int)) hx j dX5_comeToPass_10 (hT.kl (by omega)) (by omega) (hT.ll (by omega) (by omega)) (hP.ln (by omega) (by omega)) ?_
  have rg2 := hW.at (c := A.tn) (k := j) (by omega) (by omega)
  refine J_istore (lsn := [vR (r), vI (((p : Nat) : Int)), vI (((j : Nat) : Int)), vI (1), vI ((((A.ch A.tn).getD j 0 : Nat) : Int)), vU, vU, vU]) hx dX5_comeToPass_11 (Nat.le_of_ble_eq_true rfl) rfl rfl ?_
  refine J_aload_n hx dX5_comeToPass_13 (i := 0) rfl rfl ?_
  refine J_getR (b := r + 7) hx fl_X5_32 cl_X5 dX5_comeToPass_14 hT.o (by decide) rfl hT.r6 ?_
  refine J_aload_n hx dX5_comeToPass_17 (i := 0) rfl rfl ?_
  refine J_getI2 (v := ((A.tn : Nat) : Int)) hx fl_X5_63 cl_X5 dX5_comeToPass_18 hT.o (by decide) rfl (hP.tnx hW rfl) ?_
  have rg3 := hW.tn2
  refine J_aald (b := r + 8 + A.tn) hx A.tn dX5_comeToPass_21 hT.k7 (by decide) (by omega) (hT.l7 (by omega)) (hT.f7 (by omega)) ?_
  refine J_iload_n hx dX5_comeToPass_22 (i := 2) rfl rfl ?_
  refine J_iconst (v := 1) hx dX5_comeToPass_23 (by decide) ?_
  refine J_iadd (v := ((j : Nat) : Int) + 1) hx dX5_comeToPass_24 (w32_id (by omega) (by omega)) ?_
  refine J_iald2 (v := (((A.ch A.tn).getD (j + 1) 0 : Nat) : Int)) hx (j + 1) dX5_comeToPass_25 (hT.kl (by omega)) (by omega) (hT.ll (by omega) (by omega)) (hP.ln (by omega) (by omega)) ?_
  have rg4 := hW.at (c := A.tn) (k := j + 1) (by omega) (by omega)
  refine J_istore (lsn := [vR (r), vI (((p : Nat) : Int)), vI (((j : Nat) : Int)), vI (1), vI ((((A.ch A.tn).getD j 0 : Nat) : Int)), vI ((((A.ch A.tn).getD (j + 1) 0 : Nat) : Int)), vU, vU]) hx dX5_comeToPass_26 (Nat.le_of_ble_eq_true rfl) rfl rfl ?_
  refine J_aload_n hx dX5_comeToPass_28 (i := 0) rfl rfl ?_
  refine J_iload hx dX5_comeToPass_29 rfl ?_
  refine J_invVv (As := [vI ((((A.ch A.tn).getD j 0 : Nat) : Int))]) (st := []) hx lk_X5_123 okX5_tire dX5_comeToPass_31 hT.o (by decide) rfl rfl rfl (Nat.le_of_ble_eq_true rfl) (Nat.zero_add _).symm (Nat.zero_add _).symm rfl (c_X5_tire hT hP hB (p := (A.ch A.tn).getD j 0) (hL9) (hW.ti hL9) ?_)
  intro M1 hP1 hf1
  have hB1 : YB8 (A.setA 3 ((A.ch A.tn).getD j 0) (tird (A.att 3 ((A.ch A.tn).getD j 0)))) := hB
  have hF1 := FrY.rf.tr hf1
  refine J_aload_n hx dX5_comeToPass_34 (i := 0) rfl rfl ?_
  refine J_iload hx dX5_comeToPass_35 rfl ?_
  refine J_invVv (As := [vI ((((A.ch A.tn).getD (j + 1) 0 : Nat) : Int))]) (st := []) hx lk_X5_123 okX5_tire dX5_comeToPass_37 hT.o (by decide) rfl rfl rfl (Nat.le_of_ble_eq_true rfl) (Nat.zero_add _).symm (Nat.zero_add _).symm rfl (c_X5_tire hT hP1 hB1 (p := (A.ch A.tn).getD (j + 1) 0) (hR9) (tir1_rg hW hL9 hR9) ?_)
  intro M2 hP2 hf2
  have hB2 : YB8 ((A.setA 3 ((A.ch A.tn).getD j 0) (tird (A.att 3 ((A.ch A.tn).getD j 0)))).setA 3 ((A.ch A.tn).getD (j + 1) 0) (tird ((A.setA 3 ((A.ch A.tn).getD j 0) (tird (A.att 3 ((A.ch A.tn).getD j 0)))).att 3 ((A.ch A.tn).getD (j + 1) 0)))) := hB1
  have hF2 := hF1.tr hf2
  refine J_aload_n hx dX5_comeToPass_40 (i := 0) rfl rfl ?_
  refine J_iload_n hx dX5_comeToPass_41 (i := 1) rfl rfl ?_
  refine J_invVv (As := [vI (((p : Nat) : Int))]) (st := []) hx lk_X5_127 okX5_leave dX5_comeToPass_42 hT.o (by decide) rfl rfl rfl (Nat.le_of_ble_eq_true rfl) (Nat.zero_add _).symm (Nat.zero_add _).symm rfl (c_X5_leave hT hP2 hB2 (c := (1 - A.tn)) (p := p) (by omega) (hm) ?_)
  intro M3 hP3 hf3
  have hB3 : YB8 (((A.setA 3 ((A.ch A.tn).getD j 0) (tird (A.att 3 ((A.ch A.tn).getD j 0)))).setA 3 ((A.ch A.tn).getD (j + 1) 0) (tird ((A.setA 3 ((A.ch A.tn).getD j 0) (tird (A.att 3 ((A.ch A.tn).getD j 0)))).att 3 ((A.ch A.tn).getD (j + 1) 0)))).setC (1 - A.tn) (lv_ (((A.setA 3 ((A.ch A.tn).getD j 0) (tird (A.att 3 ((A.ch A.tn).getD j 0)))).setA 3 ((A.ch A.tn).getD (j + 1) 0) (tird ((A.setA 3 ((A.ch A.tn).getD j 0) (tird (A.att 3 ((A.ch A.tn).getD j 0)))).att 3 ((A.ch A.tn).getD (j + 1) 0)))).ch (1 - A.tn)) p)) := hB2.setC (Nat.le_trans lv_le (hB2.2.1 _ (by omega))) (fun q9 hq9 => hB2.2.2 _ (by omega) q9 (lv_mem.mp hq9).1)
  have hF3 := hF2.tr hf3
  refine J_iload_n hx dX5_comeToPass_45 (i := 3) rfl rfl ?_
  refine J_if_ne (tgt := 64) hx dX5_comeToPass_46 (by decide) (fun _ => ?_) (fun c9 => absurd c9 (by decide))
  refine J_iconst (v := 1) hx dX5_comeToPass_64 (by decide) ?_
  refine J_aload_n hx dX5_comeToPass_65 (i := 0) rfl rfl ?_
  refine J_getI2 (v := ((A.tn : Nat) : Int)) hx fl_X5_63 cl_X5 dX5_comeToPass_66 hT.o (by decide) rfl (hP3.tnx hW rfl) ?_
  have rg5 := hW.tn2
  refine J_isub (v := ((1 - A.tn : Nat) : Int)) hx dX5_comeToPass_69 (by rw [w32_id (by omega) (by omega)]; omega) ?_
  refine J_istore (lsn := [vR (r), vI (((p : Nat) : Int)), vI (((j : Nat) : Int)), vI (1), vI ((((A.ch A.tn).getD j 0 : Nat) : Int)), vI ((((A.ch A.tn).getD (j + 1) 0 : Nat) : Int)), vI (((1 - A.tn : Nat) : Int)), vU]) hx dX5_comeToPass_70 (Nat.le_of_ble_eq_true rfl) rfl rfl ?_
  refine J_iload_n hx dX5_comeToPass_72 (i := 3) rfl rfl ?_
  refine J_iconst (v := 1) hx dX5_comeToPass_73 (by decide) ?_
  refine J_icmp_ne (tgt := 82) hx dX5_comeToPass_74 (by decide) (fun c9 => absurd rfl c9) (fun _ => ?_)
  refine J_iload hx dX5_comeToPass_77 rfl ?_
  refine J_goto (tgt := 84) hx dX5_comeToPass_79 (by decide) ?_
  refine J_istore (lsn := [vR (r), vI (((p : Nat) : Int)), vI (((j : Nat) : Int)), vI (1), vI ((((A.ch A.tn).getD j 0 : Nat) : Int)), vI ((((A.ch A.tn).getD (j + 1) 0 : Nat) : Int)), vI (((1 - A.tn : Nat) : Int)), vI ((((A.ch A.tn).getD j 0 : Nat) : Int))]) hx dX5_comeToPass_84 (Nat.le_of_ble_eq_true rfl) rfl rfl ?_
  refine J_aload_n hx dX5_comeToPass_86 (i := 0) rfl rfl ?_
  refine J_iload_n hx dX5_comeToPass_87 (i := 1) rfl rfl ?_
  refine J_iload hx dX5_comeToPass_88 rfl ?_
  refine J_aload_n hx dX5_comeToPass_90 (i := 0) rfl rfl ?_
  refine J_getR (b := r + 10) hx fl_X5_35 cl_X5 dX5_comeToPass_91 hT.o (by decide) rfl hT.r7 ?_
  refine J_iload hx dX5_comeToPass_94 rfl ?_
  refine J_iald2 (v := ((((((A.setA 3 ((A.ch A.tn).getD j 0) (tird (A.att 3 ((A.ch A.tn).getD j 0)))).setA 3 ((A.ch A.tn).getD (j + 1) 0) (tird ((A.setA 3 ((A.ch A.tn).getD j 0) (tird (A.att 3 ((A.ch A.tn).getD j 0)))).att 3 ((A.ch A.tn).getD (j + 1) 0)))).setC (1 - A.tn) (lv_ (((A.setA 3 ((A.ch A.tn).getD j 0) (tird (A.att 3 ((A.ch A.tn).getD j 0)))).setA 3 ((A.ch A.tn).getD (j + 1) 0) (tird ((A.setA 3 ((A.ch A.tn).getD j 0) (tird (A.att 3 ((A.ch A.tn).getD j 0)))).att 3 ((A.ch A.tn).getD (j + 1) 0)))).ch (1 - A.tn)) p)).ch (1 - A.tn)).length : Nat) : Int)) hx (1 - A.tn) dX5_comeToPass_96 hT.k10 (by omega) (hT.l10 (by omega)) (hP3.sz (by omega)) ?_
  refine J_invVv (As := [vI (((p : Nat) : Int)), vI (((1 - A.tn : Nat) : Int)), vI (((((((A.setA 3 ((A.ch A.tn).getD j 0) (tird (A.att 3 ((A.ch A.tn).getD j 0)))).setA 3 ((A.ch A.tn).getD (j + 1) 0) (tird ((A.setA 3 ((A.ch A.tn).getD j 0) (tird (A.att 3 ((A.ch A.tn).getD j 0)))).att 3 ((A.ch A.tn).getD (j + 1) 0)))).setC (1 - A.tn) (lv_ (((A.setA 3 ((A.ch A.tn).getD j 0) (tird (A.att 3 ((A.ch A.tn).getD j 0)))).setA 3 ((A.ch A.tn).getD (j + 1) 0) (tird ((A.setA 3 ((A.ch A.tn).getD j 0) (tird (A.att 3 ((A.ch A.tn).getD j 0)))).att 3 ((A.ch A.tn).getD (j + 1) 0)))).ch (1 - A.tn)) p)).ch (1 - A.tn)).length : Nat) : Int))]) (st := []) hx lk_X5_69 okX5_enter dX5_comeToPass_97 hT.o (by decide) rfl rfl rfl (Nat.le_of_ble_eq_true rfl) (Nat.zero_add _).symm (Nat.zero_add _).symm rfl (c_X5_enter hT hP3 hB3 (c := (1 - A.tn)) (p := p) (k := (((((A.setA 3 ((A.ch A.tn).getD j 0) (tird (A.att 3 ((A.ch A.tn).getD j 0)))).setA 3 ((A.ch A.tn).getD (j + 1) 0) (tird ((A.setA 3 ((A.ch A.tn).getD j 0) (tird (A.att 3 ((A.ch A.tn).getD j 0)))).att 3 ((A.ch A.tn).getD (j + 1) 0)))).setC (1 - A.tn) (lv_ (((A.setA 3 ((A.ch A.tn).getD j 0) (tird (A.att 3 ((A.ch A.tn).getD j 0)))).setA 3 ((A.ch A.tn).getD (j + 1) 0) (tird ((A.setA 3 ((A.ch A.tn).getD j 0) (tird (A.att 3 ((A.ch A.tn).getD j 0)))).att 3 ((A.ch A.tn).getD (j + 1) 0)))).ch (1 - A.tn)) p)).ch (1 - A.tn)).length)) (by omega) hk97 hl97 hp hno97 ?_)
  intro M4 hP4 hf4
  have hB4 : YB8 ((((A.setA 3 ((A.ch A.tn).getD j 0) (tird (A.att 3 ((A.ch A.tn).getD j 0)))).setA 3 ((A.ch A.tn).getD (j + 1) 0) (tird ((A.setA 3 ((A.ch A.tn).getD j 0) (tird (A.att 3 ((A.ch A.tn).getD j 0)))).att 3 ((A.ch A.tn).getD (j + 1) 0)))).setC (1 - A.tn) (lv_ (((A.setA 3 ((A.ch A.tn).getD j 0) (tird (A.att 3 ((A.ch A.tn).getD j 0)))).setA 3 ((A.ch A.tn).getD (j + 1) 0) (tird ((A.setA 3 ((A.ch A.tn).getD j 0) (tird (A.att 3 ((A.ch A.tn).getD j 0)))).att 3 ((A.ch A.tn).getD (j + 1) 0)))).ch (1 - A.tn)) p)).setC (1 - A.tn) (insAt ((((A.setA 3 ((A.ch A.tn).getD j 0) (tird (A.att 3 ((A.ch A.tn).getD j 0)))).setA 3 ((A.ch A.tn).getD (j + 1) 0) (tird ((A.setA 3 ((A.ch A.tn).getD j 0) (tird (A.att 3 ((A.ch A.tn).getD j 0)))).att 3 ((A.ch A.tn).getD (j + 1) 0)))).setC (1 - A.tn) (lv_ (((A.setA 3 ((A.ch A.tn).getD j 0) (tird (A.att 3 ((A.ch A.tn).getD j 0)))).setA 3 ((A.ch A.tn).getD (j + 1) 0) (tird ((A.setA 3 ((A.ch A.tn).getD j 0) (tird (A.att 3 ((A.ch A.tn).getD j 0)))).att 3 ((A.ch A.tn).getD (j + 1) 0)))).ch (1 - A.tn)) p)).ch (1 - A.tn)) (((((A.setA 3 ((A.ch A.tn).getD j 0) (tird (A.att 3 ((A.ch A.tn).getD j 0)))).setA 3 ((A.ch A.tn).getD (j + 1) 0) (tird ((A.setA 3 ((A.ch A.tn).getD j 0) (tird (A.att 3 ((A.ch A.tn).getD j 0)))).att 3 ((A.ch A.tn).getD (j + 1) 0)))).setC (1 - A.tn) (lv_ (((A.setA 3 ((A.ch A.tn).getD j 0) (tird (A.att 3 ((A.ch A.tn).getD j 0)))).setA 3 ((A.ch A.tn).getD (j + 1) 0) (tird ((A.setA 3 ((A.ch A.tn).getD j 0) (tird (A.att 3 ((A.ch A.tn).getD j 0)))).att 3 ((A.ch A.tn).getD (j + 1) 0)))).ch (1 - A.tn)) p)).ch (1 - A.tn)).length) p)) := hB3.setC (Nat.le_trans (Nat.le_of_eq (insAt_len hk97)) hl97) (fun q9 hq9 => (insAt_mem.mp hq9).elim (fun e9 => e9 ▸ hp) (fun h9 => hB3.2.2 _ (by omega) q9 h9))
  have hF4 := hF3.tr hf4
  refine J_aload_n hx dX5_comeToPass_100 (i := 0) rfl rfl ?_
  refine J_iload hx dX5_comeToPass_101 rfl ?_
  refine J_invVv (As := [vI ((((A.ch A.tn).getD j 0 : Nat) : Int))]) (st := []) hx lk_X5_127 okX5_leave dX5_comeToPass_103 hT.o (by decide) rfl rfl rfl (Nat.le_of_ble_eq_true rfl) (Nat.zero_add _).symm (Nat.zero_add _).symm rfl (c_X5_leave hT hP4 hB4 (c := A.tn) (p := ((A.ch A.tn).getD j 0)) (by omega) (htk9) ?_)
  intro M5 hP5 hf5
  have hB5 : YB8 (((((A.setA 3 ((A.ch A.tn).getD j 0) (tird (A.att 3 ((A.ch A.tn).getD j 0)))).setA 3 ((A.ch A.tn).getD (j + 1) 0) (tird ((A.setA 3 ((A.ch A.tn).getD j 0) (tird (A.att 3 ((A.ch A.tn).getD j 0)))).att 3 ((A.ch A.tn).getD (j + 1) 0)))).setC (1 - A.tn) (lv_ (((A.setA 3 ((A.ch A.tn).getD j 0) (tird (A.att 3 ((A.ch A.tn).getD j 0)))).setA 3 ((A.ch A.tn).getD (j + 1) 0) (tird ((A.setA 3 ((A.ch A.tn).getD j 0) (tird (A.att 3 ((A.ch A.tn).getD j 0)))).att 3 ((A.ch A.tn).getD (j + 1) 0)))).ch (1 - A.tn)) p)).setC (1 - A.tn) (insAt ((((A.setA 3 ((A.ch A.tn).getD j 0) (tird (A.att 3 ((A.ch A.tn).getD j 0)))).setA 3 ((A.ch A.tn).getD (j + 1) 0) (tird ((A.setA 3 ((A.ch A.tn).getD j 0) (tird (A.att 3 ((A.ch A.tn).getD j 0)))).att 3 ((A.ch A.tn).getD (j + 1) 0)))).setC (1 - A.tn) (lv_ (((A.setA 3 ((A.ch A.tn).getD j 0) (tird (A.att 3 ((A.ch A.tn).getD j 0)))).setA 3 ((A.ch A.tn).getD (j + 1) 0) (tird ((A.setA 3 ((A.ch A.tn).getD j 0) (tird (A.att 3 ((A.ch A.tn).getD j 0)))).att 3 ((A.ch A.tn).getD (j + 1) 0)))).ch (1 - A.tn)) p)).ch (1 - A.tn)) (((((A.setA 3 ((A.ch A.tn).getD j 0) (tird (A.att 3 ((A.ch A.tn).getD j 0)))).setA 3 ((A.ch A.tn).getD (j + 1) 0) (tird ((A.setA 3 ((A.ch A.tn).getD j 0) (tird (A.att 3 ((A.ch A.tn).getD j 0)))).att 3 ((A.ch A.tn).getD (j + 1) 0)))).setC (1 - A.tn) (lv_ (((A.setA 3 ((A.ch A.tn).getD j 0) (tird (A.att 3 ((A.ch A.tn).getD j 0)))).setA 3 ((A.ch A.tn).getD (j + 1) 0) (tird ((A.setA 3 ((A.ch A.tn).getD j 0) (tird (A.att 3 ((A.ch A.tn).getD j 0)))).att 3 ((A.ch A.tn).getD (j + 1) 0)))).ch (1 - A.tn)) p)).ch (1 - A.tn)).length) p)).setC A.tn (lv_ (((((A.setA 3 ((A.ch A.tn).getD j 0) (tird (A.att 3 ((A.ch A.tn).getD j 0)))).setA 3 ((A.ch A.tn).getD (j + 1) 0) (tird ((A.setA 3 ((A.ch A.tn).getD j 0) (tird (A.att 3 ((A.ch A.tn).getD j 0)))).att 3 ((A.ch A.tn).getD (j + 1) 0)))).setC (1 - A.tn) (lv_ (((A.setA 3 ((A.ch A.tn).getD j 0) (tird (A.att 3 ((A.ch A.tn).getD j 0)))).setA 3 ((A.ch A.tn).getD (j + 1) 0) (tird ((A.setA 3 ((A.ch A.tn).getD j 0) (tird (A.att 3 ((A.ch A.tn).getD j 0)))).att 3 ((A.ch A.tn).getD (j + 1) 0)))).ch (1 - A.tn)) p)).setC (1 - A.tn) (insAt ((((A.setA 3 ((A.ch A.tn).getD j 0) (tird (A.att 3 ((A.ch A.tn).getD j 0)))).setA 3 ((A.ch A.tn).getD (j + 1) 0) (tird ((A.setA 3 ((A.ch A.tn).getD j 0) (tird (A.att 3 ((A.ch A.tn).getD j 0)))).att 3 ((A.ch A.tn).getD (j + 1) 0)))).setC (1 - A.tn) (lv_ (((A.setA 3 ((A.ch A.tn).getD j 0) (tird (A.att 3 ((A.ch A.tn).getD j 0)))).setA 3 ((A.ch A.tn).getD (j + 1) 0) (tird ((A.setA 3 ((A.ch A.tn).getD j 0) (tird (A.att 3 ((A.ch A.tn).getD j 0)))).att 3 ((A.ch A.tn).getD (j + 1) 0)))).ch (1 - A.tn)) p)).ch (1 - A.tn)) (((((A.setA 3 ((A.ch A.tn).getD j 0) (tird (A.att 3 ((A.ch A.tn).getD j 0)))).setA 3 ((A.ch A.tn).getD (j + 1) 0) (tird ((A.setA 3 ((A.ch A.tn).getD j 0) (tird (A.att 3 ((A.ch A.tn).getD j 0)))).att 3 ((A.ch A.tn).getD (j + 1) 0)))).setC (1 - A.tn) (lv_ (((A.setA 3 ((A.ch A.tn).getD j 0) (tird (A.att 3 ((A.ch A.tn).getD j 0)))).setA 3 ((A.ch A.tn).getD (j + 1) 0) (tird ((A.setA 3 ((A.ch A.tn).getD j 0) (tird (A.att 3 ((A.ch A.tn).getD j 0)))).att 3 ((A.ch A.tn).getD (j + 1) 0)))).ch (1 - A.tn)) p)).ch (1 - A.tn)).length) p)).ch A.tn) ((A.ch A.tn).getD j 0))) := hB4.setC (Nat.le_trans lv_le (hB4.2.1 _ (by omega))) (fun q9 hq9 => hB4.2.2 _ (by omega) q9 (lv_mem.mp hq9).1)
  have hF5 := hF4.tr hf5
  refine J_aload_n hx dX5_comeToPass_106 (i := 0) rfl rfl ?_
  refine J_iload hx dX5_comeToPass_107 rfl ?_
  refine J_iload hx dX5_comeToPass_109 rfl ?_
  refine J_aload_n hx dX5_comeToPass_111 (i := 0) rfl rfl ?_
  refine J_getR (b := r + 10) hx fl_X5_35 cl_X5 dX5_comeToPass_112 hT.o (by decide) rfl hT.r7 ?_
  refine J_iload hx dX5_comeToPass_115 rfl ?_
  refine J_iald2 (v := ((((((((A.setA 3 ((A.ch A.tn).getD j 0) (tird (A.att 3 ((A.ch A.tn).getD j 0)))).setA 3 ((A.ch A.tn).getD (j + 1) 0) (tird ((A.setA 3 ((A.ch A.tn).getD j 0) (tird (A.att 3 ((A.ch A.tn).getD j 0)))).att 3 ((A.ch A.tn).getD (j + 1) 0)))).setC (1 - A.tn) (lv_ (((A.setA 3 ((A.ch A.tn).getD j 0) (tird (A.att 3 ((A.ch A.tn).getD j 0)))).setA 3 ((A.ch A.tn).getD (j + 1) 0) (tird ((A.setA 3 ((A.ch A.tn).getD j 0) (tird (A.att 3 ((A.ch A.tn).getD j 0)))).att 3 ((A.ch A.tn).getD (j + 1) 0)))).ch (1 - A.tn)) p)).setC (1 - A.tn) (insAt ((((A.setA 3 ((A.ch A.tn).getD j 0) (tird (A.att 3 ((A.ch A.tn).getD j 0)))).setA 3 ((A.ch A.tn).getD (j + 1) 0) (tird ((A.setA 3 ((A.ch A.tn).getD j 0) (tird (A.att 3 ((A.ch A.tn).getD j 0)))).att 3 ((A.ch A.tn).getD (j + 1) 0)))).setC (1 - A.tn) (lv_ (((A.setA 3 ((A.ch A.tn).getD j 0) (tird (A.att 3 ((A.ch A.tn).getD j 0)))).setA 3 ((A.ch A.tn).getD (j + 1) 0) (tird ((A.setA 3 ((A.ch A.tn).getD j 0) (tird (A.att 3 ((A.ch A.tn).getD j 0)))).att 3 ((A.ch A.tn).getD (j + 1) 0)))).ch (1 - A.tn)) p)).ch (1 - A.tn)) (((((A.setA 3 ((A.ch A.tn).getD j 0) (tird (A.att 3 ((A.ch A.tn).getD j 0)))).setA 3 ((A.ch A.tn).getD (j + 1) 0) (tird ((A.setA 3 ((A.ch A.tn).getD j 0) (tird (A.att 3 ((A.ch A.tn).getD j 0)))).att 3 ((A.ch A.tn).getD (j + 1) 0)))).setC (1 - A.tn) (lv_ (((A.setA 3 ((A.ch A.tn).getD j 0) (tird (A.att 3 ((A.ch A.tn).getD j 0)))).setA 3 ((A.ch A.tn).getD (j + 1) 0) (tird ((A.setA 3 ((A.ch A.tn).getD j 0) (tird (A.att 3 ((A.ch A.tn).getD j 0)))).att 3 ((A.ch A.tn).getD (j + 1) 0)))).ch (1 - A.tn)) p)).ch (1 - A.tn)).length) p)).setC A.tn (lv_ (((((A.setA 3 ((A.ch A.tn).getD j 0) (tird (A.att 3 ((A.ch A.tn).getD j 0)))).setA 3 ((A.ch A.tn).getD (j + 1) 0) (tird ((A.setA 3 ((A.ch A.tn).getD j 0) (tird (A.att 3 ((A.ch A.tn).getD j 0)))).att 3 ((A.ch A.tn).getD (j + 1) 0)))).setC (1 - A.tn) (lv_ (((A.setA 3 ((A.ch A.tn).getD j 0) (tird (A.att 3 ((A.ch A.tn).getD j 0)))).setA 3 ((A.ch A.tn).getD (j + 1) 0) (tird ((A.setA 3 ((A.ch A.tn).getD j 0) (tird (A.att 3 ((A.ch A.tn).getD j 0)))).att 3 ((A.ch A.tn).getD (j + 1) 0)))).ch (1 - A.tn)) p)).setC (1 - A.tn) (insAt ((((A.setA 3 ((A.ch A.tn).getD j 0) (tird (A.att 3 ((A.ch A.tn).getD j 0)))).setA 3 ((A.ch A.tn).getD (j + 1) 0) (tird ((A.setA 3 ((A.ch A.tn).getD j 0) (tird (A.att 3 ((A.ch A.tn).getD j 0)))).att 3 ((A.ch A.tn).getD (j + 1) 0)))).setC (1 - A.tn) (lv_ (((A.setA 3 ((A.ch A.tn).getD j 0) (tird (A.att 3 ((A.ch A.tn).getD j 0)))).setA 3 ((A.ch A.tn).getD (j + 1) 0) (tird ((A.setA 3 ((A.ch A.tn).getD j 0) (tird (A.att 3 ((A.ch A.tn).getD j 0)))).att 3 ((A.ch A.tn).getD (j + 1) 0)))).ch (1 - A.tn)) p)).ch (1 - A.tn)) (((((A.setA 3 ((A.ch A.tn).getD j 0) (tird (A.att 3 ((A.ch A.tn).getD j 0)))).setA 3 ((A.ch A.tn).getD (j + 1) 0) (tird ((A.setA 3 ((A.ch A.tn).getD j 0) (tird (A.att 3 ((A.ch A.tn).getD j 0)))).att 3 ((A.ch A.tn).getD (j + 1) 0)))).setC (1 - A.tn) (lv_ (((A.setA 3 ((A.ch A.tn).getD j 0) (tird (A.att 3 ((A.ch A.tn).getD j 0)))).setA 3 ((A.ch A.tn).getD (j + 1) 0) (tird ((A.setA 3 ((A.ch A.tn).getD j 0) (tird (A.att 3 ((A.ch A.tn).getD j 0)))).att 3 ((A.ch A.tn).getD (j + 1) 0)))).ch (1 - A.tn)) p)).ch (1 - A.tn)).length) p)).ch A.tn) ((A.ch A.tn).getD j 0))).ch (1 - A.tn)).length : Nat) : Int)) hx (1 - A.tn) dX5_comeToPass_117 hT.k10 (by omega) (hT.l10 (by omega)) (hP5.sz (by omega)) ?_
  refine J_invVv (As := [vI ((((A.ch A.tn).getD j 0 : Nat) : Int)), vI (((1 - A.tn : Nat) : Int)), vI (((((((((A.setA 3 ((A.ch A.tn).getD j 0) (tird (A.att 3 ((A.ch A.tn).getD j 0)))).setA 3 ((A.ch A.tn).getD (j + 1) 0) (tird ((A.setA 3 ((A.ch A.tn).getD j 0) (tird (A.att 3 ((A.ch A.tn).getD j 0)))).att 3 ((A.ch A.tn).getD (j + 1) 0)))).setC (1 - A.tn) (lv_ (((A.setA 3 ((A.ch A.tn).getD j 0) (tird (A.att 3 ((A.ch A.tn).getD j 0)))).setA 3 ((A.ch A.tn).getD (j + 1) 0) (tird ((A.setA 3 ((A.ch A.tn).getD j 0) (tird (A.att 3 ((A.ch A.tn).getD j 0)))).att 3 ((A.ch A.tn).getD (j + 1) 0)))).ch (1 - A.tn)) p)).setC (1 - A.tn) (insAt ((((A.setA 3 ((A.ch A.tn).getD j 0) (tird (A.att 3 ((A.ch A.tn).getD j 0)))).setA 3 ((A.ch A.tn).getD (j + 1) 0) (tird ((A.setA 3 ((A.ch A.tn).getD j 0) (tird (A.att 3 ((A.ch A.tn).getD j 0)))).att 3 ((A.ch A.tn).getD (j + 1) 0)))).setC (1 - A.tn) (lv_ (((A.setA 3 ((A.ch A.tn).getD j 0) (tird (A.att 3 ((A.ch A.tn).getD j 0)))).setA 3 ((A.ch A.tn).getD (j + 1) 0) (tird ((A.setA 3 ((A.ch A.tn).getD j 0) (tird (A.att 3 ((A.ch A.tn).getD j 0)))).att 3 ((A.ch A.tn).getD (j + 1) 0)))).ch (1 - A.tn)) p)).ch (1 - A.tn)) (((((A.setA 3 ((A.ch A.tn).getD j 0) (tird (A.att 3 ((A.ch A.tn).getD j 0)))).setA 3 ((A.ch A.tn).getD (j + 1) 0) (tird ((A.setA 3 ((A.ch A.tn).getD j 0) (tird (A.att 3 ((A.ch A.tn).getD j 0)))).att 3 ((A.ch A.tn).getD (j + 1) 0)))).setC (1 - A.tn) (lv_ (((A.setA 3 ((A.ch A.tn).getD j 0) (tird (A.att 3 ((A.ch A.tn).getD j 0)))).setA 3 ((A.ch A.tn).getD (j + 1) 0) (tird ((A.setA 3 ((A.ch A.tn).getD j 0) (tird (A.att 3 ((A.ch A.tn).getD j 0)))).att 3 ((A.ch A.tn).getD (j + 1) 0)))).ch (1 - A.tn)) p)).ch (1 - A.tn)).length) p)).setC A.tn (lv_ (((((A.setA 3 ((A.ch A.tn).getD j 0) (tird (A.att 3 ((A.ch A.tn).getD j 0)))).setA 3 ((A.ch A.tn).getD (j + 1) 0) (tird ((A.setA 3 ((A.ch A.tn).getD j 0) (tird (A.att 3 ((A.ch A.tn).getD j 0)))).att 3 ((A.ch A.tn).getD (j + 1) 0)))).setC (1 - A.tn) (lv_ (((A.setA 3 ((A.ch A.tn).getD j 0) (tird (A.att 3 ((A.ch A.tn).getD j 0)))).setA 3 ((A.ch A.tn).getD (j + 1) 0) (tird ((A.setA 3 ((A.ch A.tn).getD j 0) (tird (A.att 3 ((A.ch A.tn).getD j 0)))).att 3 ((A.ch A.tn).getD (j + 1) 0)))).ch (1 - A.tn)) p)).setC (1 - A.tn) (insAt ((((A.setA 3 ((A.ch A.tn).getD j 0) (tird (A.att 3 ((A.ch A.tn).getD j 0)))).setA 3 ((A.ch A.tn).getD (j + 1) 0) (tird ((A.setA 3 ((A.ch A.tn).getD j 0) (tird (A.att 3 ((A.ch A.tn).getD j 0)))).att 3 ((A.ch A.tn).getD (j + 1) 0)))).setC (1 - A.tn) (lv_ (((A.setA 3 ((A.ch A.tn).getD j 0) (tird (A.att 3 ((A.ch A.tn).getD j 0)))).setA 3 ((A.ch A.tn).getD (j + 1) 0) (tird ((A.setA 3 ((A.ch A.tn).getD j 0) (tird (A.att 3 ((A.ch A.tn).getD j 0)))).att 3 ((A.ch A.tn).getD (j + 1) 0)))).ch (1 - A.tn)) p)).ch (1 - A.tn)) (((((A.setA 3 ((A.ch A.tn).getD j 0) (tird (A.att 3 ((A.ch A.tn).getD j 0)))).setA 3 ((A.ch A.tn).getD (j + 1) 0) (tird ((A.setA 3 ((A.ch A.tn).getD j 0) (tird (A.att 3 ((A.ch A.tn).getD j 0)))).att 3 ((A.ch A.tn).getD (j + 1) 0)))).setC (1 - A.tn) (lv_ (((A.setA 3 ((A.ch A.tn).getD j 0) (tird (A.att 3 ((A.ch A.tn).getD j 0)))).setA 3 ((A.ch A.tn).getD (j + 1) 0) (tird ((A.setA 3 ((A.ch A.tn).getD j 0) (tird (A.att 3 ((A.ch A.tn).getD j 0)))).att 3 ((A.ch A.tn).getD (j + 1) 0)))).ch (1 - A.tn)) p)).ch (1 - A.tn)).length) p)).ch A.tn) ((A.ch A.tn).getD j 0))).ch (1 - A.tn)).length : Nat) : Int))]) (st := []) hx lk_X5_69 okX5_enter dX5_comeToPass_118 hT.o (by decide) rfl rfl rfl (Nat.le_of_ble_eq_true rfl) (Nat.zero_add _).symm (Nat.zero_add _).symm rfl (c_X5_enter hT hP5 hB5 (c := (1 - A.tn)) (p := ((A.ch A.tn).getD j 0)) (k := (((((((A.setA 3 ((A.ch A.tn).getD j 0) (tird (A.att 3 ((A.ch A.tn).getD j 0)))).setA 3 ((A.ch A.tn).getD (j + 1) 0) (tird ((A.setA 3 ((A.ch A.tn).getD j 0) (tird (A.att 3 ((A.ch A.tn).getD j 0)))).att 3 ((A.ch A.tn).getD (j + 1) 0)))).setC (1 - A.tn) (lv_ (((A.setA 3 ((A.ch A.tn).getD j 0) (tird (A.att 3 ((A.ch A.tn).getD j 0)))).setA 3 ((A.ch A.tn).getD (j + 1) 0) (tird ((A.setA 3 ((A.ch A.tn).getD j 0) (tird (A.att 3 ((A.ch A.tn).getD j 0)))).att 3 ((A.ch A.tn).getD (j + 1) 0)))).ch (1 - A.tn)) p)).setC (1 - A.tn) (insAt ((((A.setA 3 ((A.ch A.tn).getD j 0) (tird (A.att 3 ((A.ch A.tn).getD j 0)))).setA 3 ((A.ch A.tn).getD (j + 1) 0) (tird ((A.setA 3 ((A.ch A.tn).getD j 0) (tird (A.att 3 ((A.ch A.tn).getD j 0)))).att 3 ((A.ch A.tn).getD (j + 1) 0)))).setC (1 - A.tn) (lv_ (((A.setA 3 ((A.ch A.tn).getD j 0) (tird (A.att 3 ((A.ch A.tn).getD j 0)))).setA 3 ((A.ch A.tn).getD (j + 1) 0) (tird ((A.setA 3 ((A.ch A.tn).getD j 0) (tird (A.att 3 ((A.ch A.tn).getD j 0)))).att 3 ((A.ch A.tn).getD (j + 1) 0)))).ch (1 - A.tn)) p)).ch (1 - A.tn)) (((((A.setA 3 ((A.ch A.tn).getD j 0) (tird (A.att 3 ((A.ch A.tn).getD j 0)))).setA 3 ((A.ch A.tn).getD (j + 1) 0) (tird ((A.setA 3 ((A.ch A.tn).getD j 0) (tird (A.att 3 ((A.ch A.tn).getD j 0)))).att 3 ((A.ch A.tn).getD (j + 1) 0)))).setC (1 - A.tn) (lv_ (((A.setA 3 ((A.ch A.tn).getD j 0) (tird (A.att 3 ((A.ch A.tn).getD j 0)))).setA 3 ((A.ch A.tn).getD (j + 1) 0) (tird ((A.setA 3 ((A.ch A.tn).getD j 0) (tird (A.att 3 ((A.ch A.tn).getD j 0)))).att 3 ((A.ch A.tn).getD (j + 1) 0)))).ch (1 - A.tn)) p)).ch (1 - A.tn)).length) p)).setC A.tn (lv_ (((((A.setA 3 ((A.ch A.tn).getD j 0) (tird (A.att 3 ((A.ch A.tn).getD j 0)))).setA 3 ((A.ch A.tn).getD (j + 1) 0) (tird ((A.setA 3 ((A.ch A.tn).getD j 0) (tird (A.att 3 ((A.ch A.tn).getD j 0)))).att 3 ((A.ch A.tn).getD (j + 1) 0)))).setC (1 - A.tn) (lv_ (((A.setA 3 ((A.ch A.tn).getD j 0) (tird (A.att 3 ((A.ch A.tn).getD j 0)))).setA 3 ((A.ch A.tn).getD (j + 1) 0) (tird ((A.setA 3 ((A.ch A.tn).getD j 0) (tird (A.att 3 ((A.ch A.tn).getD j 0)))).att 3 ((A.ch A.tn).getD (j + 1) 0)))).ch (1 - A.tn)) p)).setC (1 - A.tn) (insAt ((((A.setA 3 ((A.ch A.tn).getD j 0) (tird (A.att 3 ((A.ch A.tn).getD j 0)))).setA 3 ((A.ch A.tn).getD (j + 1) 0) (tird ((A.setA 3 ((A.ch A.tn).getD j 0) (tird (A.att 3 ((A.ch A.tn).getD j 0)))).att 3 ((A.ch A.tn).getD (j + 1) 0)))).setC (1 - A.tn) (lv_ (((A.setA 3 ((A.ch A.tn).getD j 0) (tird (A.att 3 ((A.ch A.tn).getD j 0)))).setA 3 ((A.ch A.tn).getD (j + 1) 0) (tird ((A.setA 3 ((A.ch A.tn).getD j 0) (tird (A.att 3 ((A.ch A.tn).getD j 0)))).att 3 ((A.ch A.tn).getD (j + 1) 0)))).ch (1 - A.tn)) p)).ch (1 - A.tn)) (((((A.setA 3 ((A.ch A.tn).getD j 0) (tird (A.att 3 ((A.ch A.tn).getD j 0)))).setA 3 ((A.ch A.tn).getD (j + 1) 0) (tird ((A.setA 3 ((A.ch A.tn).getD j 0) (tird (A.att 3 ((A.ch A.tn).getD j 0)))).att 3 ((A.ch A.tn).getD (j + 1) 0)))).setC (1 - A.tn) (lv_ (((A.setA 3 ((A.ch A.tn).getD j 0) (tird (A.att 3 ((A.ch A.tn).getD j 0)))).setA 3 ((A.ch A.tn).getD (j + 1) 0) (tird ((A.setA 3 ((A.ch A.tn).getD j 0) (tird (A.att 3 ((A.ch A.tn).getD j 0)))).att 3 ((A.ch A.tn).getD (j + 1) 0)))).ch (1 - A.tn)) p)).ch (1 - A.tn)).length) p)).ch A.tn) ((A.ch A.tn).getD j 0))).ch (1 - A.tn)).length)) (by omega) hk118 hl118 htn9 hno118 ?_)
  intro M6 hP6 hf6
  have hB6 : YB8 ((((((A.setA 3 ((A.ch A.tn).getD j 0) (tird (A.att 3 ((A.ch A.tn).getD j 0)))).setA 3 ((A.ch A.tn).getD (j + 1) 0) (tird ((A.setA 3 ((A.ch A.tn).getD j 0) (tird (A.att 3 ((A.ch A.tn).getD j 0)))).att 3 ((A.ch A.tn).getD (j + 1) 0)))).setC (1 - A.tn) (lv_ (((A.setA 3 ((A.ch A.tn).getD j 0) (tird (A.att 3 ((A.ch A.tn).getD j 0)))).setA 3 ((A.ch A.tn).getD (j + 1) 0) (tird ((A.setA 3 ((A.ch A.tn).getD j 0) (tird (A.att 3 ((A.ch A.tn).getD j 0)))).att 3 ((A.ch A.tn).getD (j + 1) 0)))).ch (1 - A.tn)) p)).setC (1 - A.tn) (insAt ((((A.setA 3 ((A.ch A.tn).getD j 0) (tird (A.att 3 ((A.ch A.tn).getD j 0)))).setA 3 ((A.ch A.tn).getD (j + 1) 0) (tird ((A.setA 3 ((A.ch A.tn).getD j 0) (tird (A.att 3 ((A.ch A.tn).getD j 0)))).att 3 ((A.ch A.tn).getD (j + 1) 0)))).setC (1 - A.tn) (lv_ (((A.setA 3 ((A.ch A.tn).getD j 0) (tird (A.att 3 ((A.ch A.tn).getD j 0)))).setA 3 ((A.ch A.tn).getD (j + 1) 0) (tird ((A.setA 3 ((A.ch A.tn).getD j 0) (tird (A.att 3 ((A.ch A.tn).getD j 0)))).att 3 ((A.ch A.tn).getD (j + 1) 0)))).ch (1 - A.tn)) p)).ch (1 - A.tn)) (((((A.setA 3 ((A.ch A.tn).getD j 0) (tird (A.att 3 ((A.ch A.tn).getD j 0)))).setA 3 ((A.ch A.tn).getD (j + 1) 0) (tird ((A.setA 3 ((A.ch A.tn).getD j 0) (tird (A.att 3 ((A.ch A.tn).getD j 0)))).att 3 ((A.ch A.tn).getD (j + 1) 0)))).setC (1 - A.tn) (lv_ (((A.setA 3 ((A.ch A.tn).getD j 0) (tird (A.att 3 ((A.ch A.tn).getD j 0)))).setA 3 ((A.ch A.tn).getD (j + 1) 0) (tird ((A.setA 3 ((A.ch A.tn).getD j 0) (tird (A.att 3 ((A.ch A.tn).getD j 0)))).att 3 ((A.ch A.tn).getD (j + 1) 0)))).ch (1 - A.tn)) p)).ch (1 - A.tn)).length) p)).setC A.tn (lv_ (((((A.setA 3 ((A.ch A.tn).getD j 0) (tird (A.att 3 ((A.ch A.tn).getD j 0)))).setA 3 ((A.ch A.tn).getD (j + 1) 0) (tird ((A.setA 3 ((A.ch A.tn).getD j 0) (tird (A.att 3 ((A.ch A.tn).getD j 0)))).att 3 ((A.ch A.tn).getD (j + 1) 0)))).setC (1 - A.tn) (lv_ (((A.setA 3 ((A.ch A.tn).getD j 0) (tird (A.att 3 ((A.ch A.tn).getD j 0)))).setA 3 ((A.ch A.tn).getD (j + 1) 0) (tird ((A.setA 3 ((A.ch A.tn).getD j 0) (tird (A.att 3 ((A.ch A.tn).getD j 0)))).att 3 ((A.ch A.tn).getD (j + 1) 0)))).ch (1 - A.tn)) p)).setC (1 - A.tn) (insAt ((((A.setA 3 ((A.ch A.tn).getD j 0) (tird (A.att 3 ((A.ch A.tn).getD j 0)))).setA 3 ((A.ch A.tn).getD (j + 1) 0) (tird ((A.setA 3 ((A.ch A.tn).getD j 0) (tird (A.att 3 ((A.ch A.tn).getD j 0)))).att 3 ((A.ch A.tn).getD (j + 1) 0)))).setC (1 - A.tn) (lv_ (((A.setA 3 ((A.ch A.tn).getD j 0) (tird (A.att 3 ((A.ch A.tn).getD j 0)))).setA 3 ((A.ch A.tn).getD (j + 1) 0) (tird ((A.setA 3 ((A.ch A.tn).getD j 0) (tird (A.att 3 ((A.ch A.tn).getD j 0)))).att 3 ((A.ch A.tn).getD (j + 1) 0)))).ch (1 - A.tn)) p)).ch (1 - A.tn)) (((((A.setA 3 ((A.ch A.tn).getD j 0) (tird (A.att 3 ((A.ch A.tn).getD j 0)))).setA 3 ((A.ch A.tn).getD (j + 1) 0) (tird ((A.setA 3 ((A.ch A.tn).getD j 0) (tird (A.att 3 ((A.ch A.tn).getD j 0)))).att 3 ((A.ch A.tn).getD (j + 1) 0)))).setC (1 - A.tn) (lv_ (((A.setA 3 ((A.ch A.tn).getD j 0) (tird (A.att 3 ((A.ch A.tn).getD j 0)))).setA 3 ((A.ch A.tn).getD (j + 1) 0) (tird ((A.setA 3 ((A.ch A.tn).getD j 0) (tird (A.att 3 ((A.ch A.tn).getD j 0)))).att 3 ((A.ch A.tn).getD (j + 1) 0)))).ch (1 - A.tn)) p)).ch (1 - A.tn)).length) p)).ch A.tn) ((A.ch A.tn).getD j 0))).setC (1 - A.tn) (insAt ((((((A.setA 3 ((A.ch A.tn).getD j 0) (tird (A.att 3 ((A.ch A.tn).getD j 0)))).setA 3 ((A.ch A.tn).getD (j + 1) 0) (tird ((A.setA 3 ((A.ch A.tn).getD j 0) (tird (A.att 3 ((A.ch A.tn).getD j 0)))).att 3 ((A.ch A.tn).getD (j + 1) 0)))).setC (1 - A.tn) (lv_ (((A.setA 3 ((A.ch A.tn).getD j 0) (tird (A.att 3 ((A.ch A.tn).getD j 0)))).setA 3 ((A.ch A.tn).getD (j + 1) 0) (tird ((A.setA 3 ((A.ch A.tn).getD j 0) (tird (A.att 3 ((A.ch A.tn).getD j 0)))).att 3 ((A.ch A.tn).getD (j + 1) 0)))).ch (1 - A.tn)) p)).setC (1 - A.tn) (insAt ((((A.setA 3 ((A.ch A.tn).getD j 0) (tird (A.att 3 ((A.ch A.tn).getD j 0)))).setA 3 ((A.ch A.tn).getD (j + 1) 0) (tird ((A.setA 3 ((A.ch A.tn).getD j 0) (tird (A.att 3 ((A.ch A.tn).getD j 0)))).att 3 ((A.ch A.tn).getD (j + 1) 0)))).setC (1 - A.tn) (lv_ (((A.setA 3 ((A.ch A.tn).getD j 0) (tird (A.att 3 ((A.ch A.tn).getD j 0)))).setA 3 ((A.ch A.tn).getD (j + 1) 0) (tird ((A.setA 3 ((A.ch A.tn).getD j 0) (tird (A.att 3 ((A.ch A.tn).getD j 0)))).att 3 ((A.ch A.tn).getD (j + 1) 0)))).ch (1 - A.tn)) p)).ch (1 - A.tn)) (((((A.setA 3 ((A.ch A.tn).getD j 0) (tird (A.att 3 ((A.ch A.tn).getD j 0)))).setA 3 ((A.ch A.tn).getD (j + 1) 0) (tird ((A.setA 3 ((A.ch A.tn).getD j 0) (tird (A.att 3 ((A.ch A.tn).getD j 0)))).att 3 ((A.ch A.tn).getD (j + 1) 0)))).setC (1 - A.tn) (lv_ (((A.setA 3 ((A.ch A.tn).getD j 0) (tird (A.att 3 ((A.ch A.tn).getD j 0)))).setA 3 ((A.ch A.tn).getD (j + 1) 0) (tird ((A.setA 3 ((A.ch A.tn).getD j 0) (tird (A.att 3 ((A.ch A.tn).getD j 0)))).att 3 ((A.ch A.tn).getD (j + 1) 0)))).ch (1 - A.tn)) p)).ch (1 - A.tn)).length) p)).setC A.tn (lv_ (((((A.setA 3 ((A.ch A.tn).getD j 0) (tird (A.att 3 ((A.ch A.tn).getD j 0)))).setA 3 ((A.ch A.tn).getD (j + 1) 0) (tird ((A.setA 3 ((A.ch A.tn).getD j 0) (tird (A.att 3 ((A.ch A.tn).getD j 0)))).att 3 ((A.ch A.tn).getD (j + 1) 0)))).setC (1 - A.tn) (lv_ (((A.setA 3 ((A.ch A.tn).getD j 0) (tird (A.att 3 ((A.ch A.tn).getD j 0)))).setA 3 ((A.ch A.tn).getD (j + 1) 0) (tird ((A.setA 3 ((A.ch A.tn).getD j 0) (tird (A.att 3 ((A.ch A.tn).getD j 0)))).att 3 ((A.ch A.tn).getD (j + 1) 0)))).ch (1 - A.tn)) p)).setC (1 - A.tn) (insAt ((((A.setA 3 ((A.ch A.tn).getD j 0) (tird (A.att 3 ((A.ch A.tn).getD j 0)))).setA 3 ((A.ch A.tn).getD (j + 1) 0) (tird ((A.setA 3 ((A.ch A.tn).getD j 0) (tird (A.att 3 ((A.ch A.tn).getD j 0)))).att 3 ((A.ch A.tn).getD (j + 1) 0)))).setC (1 - A.tn) (lv_ (((A.setA 3 ((A.ch A.tn).getD j 0) (tird (A.att 3 ((A.ch A.tn).getD j 0)))).setA 3 ((A.ch A.tn).getD (j + 1) 0) (tird ((A.setA 3 ((A.ch A.tn).getD j 0) (tird (A.att 3 ((A.ch A.tn).getD j 0)))).att 3 ((A.ch A.tn).getD (j + 1) 0)))).ch (1 - A.tn)) p)).ch (1 - A.tn)) (((((A.setA 3 ((A.ch A.tn).getD j 0) (tird (A.att 3 ((A.ch A.tn).getD j 0)))).setA 3 ((A.ch A.tn).getD (j + 1) 0) (tird ((A.setA 3 ((A.ch A.tn).getD j 0) (tird (A.att 3 ((A.ch A.tn).getD j 0)))).att 3 ((A.ch A.tn).getD (j + 1) 0)))).setC (1 - A.tn) (lv_ (((A.setA 3 ((A.ch A.tn).getD j 0) (tird (A.att 3 ((A.ch A.tn).getD j 0)))).setA 3 ((A.ch A.tn).getD (j + 1) 0) (tird ((A.setA 3 ((A.ch A.tn).getD j 0) (tird (A.att 3 ((A.ch A.tn).getD j 0)))).att 3 ((A.ch A.tn).getD (j + 1) 0)))).ch (1 - A.tn)) p)).ch (1 - A.tn)).length) p)).ch A.tn) ((A.ch A.tn).getD j 0))).ch (1 - A.tn)) (((((((A.setA 3 ((A.ch A.tn).getD j 0) (tird (A.att 3 ((A.ch A.tn).getD j 0)))).setA 3 ((A.ch A.tn).getD (j + 1) 0) (tird ((A.setA 3 ((A.ch A.tn).getD j 0) (tird (A.att 3 ((A.ch A.tn).getD j 0)))).att 3 ((A.ch A.tn).getD (j + 1) 0)))).setC (1 - A.tn) (lv_ (((A.setA 3 ((A.ch A.tn).getD j 0) (tird (A.att 3 ((A.ch A.tn).getD j 0)))).setA 3 ((A.ch A.tn).getD (j + 1) 0) (tird ((A.setA 3 ((A.ch A.tn).getD j 0) (tird (A.att 3 ((A.ch A.tn).getD j 0)))).att 3 ((A.ch A.tn).getD (j + 1) 0)))).ch (1 - A.tn)) p)).setC (1 - A.tn) (insAt ((((A.setA 3 ((A.ch A.tn).getD j 0) (tird (A.att 3 ((A.ch A.tn).getD j 0)))).setA 3 ((A.ch A.tn).getD (j + 1) 0) (tird ((A.setA 3 ((A.ch A.tn).getD j 0) (tird (A.att 3 ((A.ch A.tn).getD j 0)))).att 3 ((A.ch A.tn).getD (j + 1) 0)))).setC (1 - A.tn) (lv_ (((A.setA 3 ((A.ch A.tn).getD j 0) (tird (A.att 3 ((A.ch A.tn).getD j 0)))).setA 3 ((A.ch A.tn).getD (j + 1) 0) (tird ((A.setA 3 ((A.ch A.tn).getD j 0) (tird (A.att 3 ((A.ch A.tn).getD j 0)))).att 3 ((A.ch A.tn).getD (j + 1) 0)))).ch (1 - A.tn)) p)).ch (1 - A.tn)) (((((A.setA 3 ((A.ch A.tn).getD j 0) (tird (A.att 3 ((A.ch A.tn).getD j 0)))).setA 3 ((A.ch A.tn).getD (j + 1) 0) (tird ((A.setA 3 ((A.ch A.tn).getD j 0) (tird (A.att 3 ((A.ch A.tn).getD j 0)))).att 3 ((A.ch A.tn).getD (j + 1) 0)))).setC (1 - A.tn) (lv_ (((A.setA 3 ((A.ch A.tn).getD j 0) (tird (A.att 3 ((A.ch A.tn).getD j 0)))).setA 3 ((A.ch A.tn).getD (j + 1) 0) (tird ((A.setA 3 ((A.ch A.tn).getD j 0) (tird (A.att 3 ((A.ch A.tn).getD j 0)))).att 3 ((A.ch A.tn).getD (j + 1) 0)))).ch (1 - A.tn)) p)).ch (1 - A.tn)).length) p)).setC A.tn (lv_ (((((A.setA 3 ((A.ch A.tn).getD j 0) (tird (A.att 3 ((A.ch A.tn).getD j 0)))).setA 3 ((A.ch A.tn).getD (j + 1) 0) (tird ((A.setA 3 ((A.ch A.tn).getD j 0) (tird (A.att 3 ((A.ch A.tn).getD j 0)))).att 3 ((A.ch A.tn).getD (j + 1) 0)))).setC (1 - A.tn) (lv_ (((A.setA 3 ((A.ch A.tn).getD j 0) (tird (A.att 3 ((A.ch A.tn).getD j 0)))).setA 3 ((A.ch A.tn).getD (j + 1) 0) (tird ((A.setA 3 ((A.ch A.tn).getD j 0) (tird (A.att 3 ((A.ch A.tn).getD j 0)))).att 3 ((A.ch A.tn).getD (j + 1) 0)))).ch (1 - A.tn)) p)).setC (1 - A.tn) (insAt ((((A.setA 3 ((A.ch A.tn).getD j 0) (tird (A.att 3 ((A.ch A.tn).getD j 0)))).setA 3 ((A.ch A.tn).getD (j + 1) 0) (tird ((A.setA 3 ((A.ch A.tn).getD j 0) (tird (A.att 3 ((A.ch A.tn).getD j 0)))).att 3 ((A.ch A.tn).getD (j + 1) 0)))).setC (1 - A.tn) (lv_ (((A.setA 3 ((A.ch A.tn).getD j 0) (tird (A.att 3 ((A.ch A.tn).getD j 0)))).setA 3 ((A.ch A.tn).getD (j + 1) 0) (tird ((A.setA 3 ((A.ch A.tn).getD j 0) (tird (A.att 3 ((A.ch A.tn).getD j 0)))).att 3 ((A.ch A.tn).getD (j + 1) 0)))).ch (1 - A.tn)) p)).ch (1 - A.tn)) (((((A.setA 3 ((A.ch A.tn).getD j 0) (tird (A.att 3 ((A.ch A.tn).getD j 0)))).setA 3 ((A.ch A.tn).getD (j + 1) 0) (tird ((A.setA 3 ((A.ch A.tn).getD j 0) (tird (A.att 3 ((A.ch A.tn).getD j 0)))).att 3 ((A.ch A.tn).getD (j + 1) 0)))).setC (1 - A.tn) (lv_ (((A.setA 3 ((A.ch A.tn).getD j 0) (tird (A.att 3 ((A.ch A.tn).getD j 0)))).setA 3 ((A.ch A.tn).getD (j + 1) 0) (tird ((A.setA 3 ((A.ch A.tn).getD j 0) (tird (A.att 3 ((A.ch A.tn).getD j 0)))).att 3 ((A.ch A.tn).getD (j + 1) 0)))).ch (1 - A.tn)) p)).ch (1 - A.tn)).length) p)).ch A.tn) ((A.ch A.tn).getD j 0))).ch (1 - A.tn)).length) ((A.ch A.tn).getD j 0))) := hB5.setC (Nat.le_trans (Nat.le_of_eq (insAt_len hk118)) hl118) (fun q9 hq9 => (insAt_mem.mp hq9).elim (fun e9 => e9 ▸ htn9) (fun h9 => hB5.2.2 _ (by omega) q9 h9))
  have hF6 := hF5.tr hf6
  refine J_aload_n hx dX5_comeToPass_121 (i := 0) rfl rfl ?_
  refine J_iconst (v := 1) hx dX5_comeToPass_122 (by decide) ?_
  refine J_aload_n hx dX5_comeToPass_123 (i := 0) rfl rfl ?_
  refine J_getI2 (v := ((A.tn : Nat) : Int)) hx fl_X5_63 cl_X5 dX5_comeToPass_124 hT.o (by decide) rfl (hP6.tnx hW rfl) ?_
  have rg6 := hW.tn2
  refine J_isub (v := 1 - ((A.tn : Nat) : Int)) hx dX5_comeToPass_127 (w32_id (by omega) (by omega)) ?_
  refine J_putI hx fl_X5_63 cl_X5 dX5_comeToPass_128 hT.o (by decide) rfl (Or.inl rfl) (by decide) ?_
  have hP7 := hP6.setS (q := 5) (1 - ((A.tn : Nat) : Int)) (by decide)
  have hF7 := hF6.up (k := 0) (i := 13) (by decide) (1 - ((A.tn : Nat) : Int))
  generalize eM7 : up2 M6 r 13 (1 - ((A.tn : Nat) : Int)) = M7 at hP7 hF7 ⊢
  refine J_aload_n hx dX5_comeToPass_131 (i := 0) rfl rfl ?_
  refine J_dup hx dX5_comeToPass_132 rfl ?_
  refine J_getI2 (v := A.sc 6) hx fl_X5_66 cl_X5 dX5_comeToPass_133 hT.o (by decide) rfl (hP7.rnx (A := A) rfl) ?_
  refine J_iconst (v := 1) hx dX5_comeToPass_136 (by decide) ?_
  refine J_iadd (v := A.sc 6 + 1) hx dX5_comeToPass_137 (w32_id (by omega) (by omega)) ?_
  refine J_putI hx fl_X5_66 cl_X5 dX5_comeToPass_138 hT.o (by decide) rfl (Or.inl rfl) (by decide) ?_
  have hP8 := hP7.setS (q := 6) (A.sc 6 + 1) (by decide)
  have hF8 := hF7.up (k := 0) (i := 14) (by decide) (A.sc 6 + 1)
  generalize eM8 : up2 M7 r 14 (A.sc 6 + 1) = M8 at hP8 hF8 ⊢
  refine J_vret hx hr dX5_comeToPass_141 ?_
  exact hQ _ (hP8.toN (runT_wf hW hp hc hj ho htk0)) hF8

set_option maxHeartbeats 4000000 in
theorem c_X5_comeToPass_torn2 {g : WG} {d : Nat} {T : TT} {M : MM} {r sz : Nat} {A : YA} {Q : MVal → TT → MM → Nat → Prop} (hT : YT T r) (hN : YN M r A) (hW : WFY A) {p j : Nat} (hp : p < A.n) (hc : A.co p ≠ A.tn) (hj : j + 1 < (A.ch A.tn).length) (ho : ¬ overY A) (hQ : ∀ M', YN M' r (runT A p j ((A.ch A.tn).getD (j + 1) 0)) → FrY r M M' → Q vU T M' sz) : Ct g (d + 2) mX5_comeToPass [vR (r), vI (((p : Nat) : Int)), vI (((j : Nat) : Int)), vI (2)] T M sz 0 0 Q := by
  refine Ct_of2 (ls := [vR (r), vI (((p : Nat) : Int)), vI (((j : Nat) : Int)), vI (2), vU, vU, vU, vU]) okX5_comeToPass rfl (Nat.le_of_ble_eq_true rfl) rfl ?_
  intro x hx hr hnm
  have ht := hW.tn2
  have hm := hW.called hp hc
  have hL9 := hW.at (c := A.tn) (k := j) ht (by omega)
  have hR9 := hW.at (c := A.tn) (k := j + 1) ht hj
  have hn8 := hW.n8
  have hl8 := hW.len8 ht
  have hP := hN.toP hW
  have hB := hW.b8
  have hnv := not_over2 hW ho
  have hl2 := hW.len2
  have hs6 := hW.s6
  have hs4 := hW.s4
  have hlv := lv_len1 (hW.nd (show 1 - A.tn < 2 by omega)) hm
  have htk0 := hW.mem (c := A.tn) (k := j + 1) ht (by omega)
  have hnt : p ∉ A.ch A.tn := fun q9 => hW.dj2 q9 hm
  have htn9 := hR9
  have e0 : (((tirB A ((A.ch A.tn).getD j 0) ((A.ch A.tn).getD (j + 1) 0)).setC (1 - A.tn) (lv_ (A.ch (1 - A.tn)) p))).ch (1 - A.tn) = lv_ (A.ch (1 - A.tn)) p := YA.ch_same _ _ _
  have hk97 : ((((tirB A ((A.ch A.tn).getD j 0) ((A.ch A.tn).getD (j + 1) 0)).setC (1 - A.tn) (lv_ (A.ch (1 - A.tn)) p))).ch (1 - A.tn)).length ≤ ((((tirB A ((A.ch A.tn).getD j 0) ((A.ch A.tn).getD (j + 1) 0)).setC (1 - A.tn) (lv_ (A.ch (1 - A.tn)) p))).ch (1 - A.tn)).length := Nat.le_refl _
  have hl97 : ((((tirB A ((A.ch A.tn).getD j 0) ((A.ch A.tn).getD (j + 1) 0)).setC (1 - A.tn) (lv_ (A.ch (1 - A.tn)) p))).ch (1 - A.tn)).length < 8 := by rw [e0]; omega
  have hno97 : ∀ c9, c9 < 2 → p ∉ (((tirB A ((A.ch A.tn).getD j 0) ((A.ch A.tn).getD (j + 1) 0)).setC (1 - A.tn) (lv_ (A.ch (1 - A.tn)) p))).ch c9 := fun c9 hc9 q9 => by
    by_cases e9 : c9 = 1 - A.tn
    · subst e9; rw [YA.ch_same] at q9; exact (lv_mem.mp q9).2 rfl
    · rw [YA.ch_ne _ _ e9] at q9; rw [show c9 = A.tn by omega] at q9; exact hnt q9
  have e1 : (runTB A p j).ch A.tn = A.ch A.tn := by
    show (YA.setC _ (1 - A.tn) _).ch A.tn = _
    rw [YA.ch_ne _ _ (by omega), YA.ch_ne _ _ (by omega)]; rfl
  have e2 : (runTB A p j).ch (1 - A.tn) = lv_ (A.ch (1 - A.tn)) p ++ [p] := by
    show (YA.setC _ (1 - A.tn) _).ch (1 - A.tn) = _
    rw [YA.ch_same, e0, insAt_end]
  have htk9 : ((A.ch A.tn).getD (j + 1) 0) ∈ (runTB A p j).ch A.tn := by rw [e1]; exact htk0
  have e3 : ((runTB A p j).setC A.tn (lv_ ((runTB A p j).ch A.tn) ((A.ch A.tn).getD (j + 1) 0))).ch (1 - A.tn) = lv_ (A.ch (1 - A.tn)) p ++ [p] := by rw [YA.ch_ne _ _ (by omega), e2]
  have hk118 : (((runTB A p j).setC A.tn (lv_ ((runTB A p j).ch A.tn) ((A.ch A.tn).getD (j + 1) 0))).ch (1 - A.tn)).length ≤ (((runTB A p j).setC A.tn (lv_ ((runTB A p j).ch A.tn) ((A.ch A.tn).getD (j + 1) 0))).ch (1 - A.tn)).length := Nat.le_refl _
  have hl118 : (((runTB A p j).setC A.tn (lv_ ((runTB A p j).ch A.tn) ((A.ch A.tn).getD (j + 1) 0))).ch (1 - A.tn)).length < 8 := by rw [e3, List.length_append]; simp only [List.length_cons, List.length_nil]; omega
  have hno118 : ∀ c9, c9 < 2 → ((A.ch A.tn).getD (j + 1) 0) ∉ ((runTB A p j).setC A.tn (lv_ ((runTB A p j).ch A.tn) ((A.ch A.tn).getD (j + 1) 0))).ch c9 := fun c9 hc9 q9 => by
    by_cases e9 : c9 = A.tn
    · subst e9; rw [YA.ch_same] at q9; exact (lv_mem.mp q9).2 rfl
    · rw [show c9 = 1 - A.tn by omega, e3] at q9
      simp only [List.mem_append, List.mem_singleton] at q9
      rcases q9 with q9 | q9
      · exact hW.dj2 htk0 (lv_mem.mp q9).1
      · exact hnt (q9 ▸ htk0)
  refine J_aload_n hx dX5_comeToPass_0 (i := 0) rfl rfl ?_
  refine J_getR (b := r + 7) hx fl_X5_32 cl_X5 dX5_comeToPass_1 hT.o (by decide) rfl hT.r6 ?_
  refine J_aload_n hx dX5_comeToPass_4 (i := 0) rfl rfl ?_
  refine J_getI2 (v := ((A.tn : Nat) : Int)) hx fl_X5_63 cl_X5 dX5_comeToPass_5 hT.o (by decide) rfl (hP.tnx hW rfl) ?_
  have rg1 := hW.tn2
  refine J_aald (b := r + 8 + A.tn) hx A.tn dX5_comeToPass_8 hT.k7 (by decide) (by omega) (hT.l7 (by omega)) (hT.f7 (by omega)) ?_
  refine J_iload_n hx dX5_comeToPass_9 (i := 2) rfl rfl ?_
  refine J_iald2 (v := (((A.ch A.tn).getD j 0 : Nat) : Int)) hx j dX5_comeToPass_10 (hT.kl (by omega)) (by omega) (hT.ll (by omega) (by omega)) (hP.ln (by omega) (by omega)) ?_
  have rg2 := hW.at (c := A.tn) (k := j) (by omega) (by omega)
  refine J_istore (lsn := [vR (r), vI (((p : Nat) : Int)), vI (((j : Nat) : Int)), vI (2), vI ((((A.ch A.tn).getD j 0 : Nat) : Int)), vU, vU, vU]) hx dX5_comeToPass_11 (Nat.le_of_ble_eq_true rfl) rfl rfl ?_
  refine J_aload_n hx dX5_comeToPass_13 (i := 0) rfl rfl ?_
  refine J_getR (b := r + 7) hx fl_X5_32 cl_X5 dX5_comeToPass_14 hT.o (by decide) rfl hT.r6 ?_
  refine J_aload_n hx dX5_comeToPass_17 (i := 0) rfl rfl ?_
  refine J_getI2 (v := ((A.tn : Nat) : Int)) hx fl_X5_63 cl_X5 dX5_comeToPass_18 hT.o (by decide) rfl (hP.tnx hW rfl) ?_
  have rg3 := hW.tn2
  refine J_aald (b := r + 8 + A.tn) hx A.tn dX5_comeToPass_21 hT.k7 (by decide) (by omega) (hT.l7 (by omega)) (hT.f7 (by omega)) ?_
  refine J_iload_n hx dX5_comeToPass_22 (i := 2) rfl rfl ?_
  refine J_iconst (v := 1) hx dX5_comeToPass_23 (by decide) ?_
  refine J_iadd (v := ((j : Nat) : Int) + 1) hx dX5_comeToPass_24 (w32_id (by omega) (by omega)) ?_
  refine J_iald2 (v := (((A.ch A.tn).getD (j + 1) 0 : Nat) : Int)) hx (j + 1) dX5_comeToPass_25 (hT.kl (by omega)) (by omega) (hT.ll (by omega) (by omega)) (hP.ln (by omega) (by omega)) ?_
  have rg4 := hW.at (c := A.tn) (k := j + 1) (by omega) (by omega)
  refine J_istore (lsn := [vR (r), vI (((p : Nat) : Int)), vI (((j : Nat) : Int)), vI (2), vI ((((A.ch A.tn).getD j 0 : Nat) : Int)), vI ((((A.ch A.tn).getD (j + 1) 0 : Nat) : Int)), vU, vU]) hx dX5_comeToPass_26 (Nat.le_of_ble_eq_true rfl) rfl rfl ?_
  refine J_aload_n hx dX5_comeToPass_28 (i := 0) rfl rfl ?_
  refine J_iload hx dX5_comeToPass_29 rfl ?_
  refine J_invVv (As := [vI ((((A.ch A.tn).getD j 0 : Nat) : Int))]) (st := []) hx lk_X5_123 okX5_tire dX5_comeToPass_31 hT.o (by decide) rfl rfl rfl (Nat.le_of_ble_eq_true rfl) (Nat.zero_add _).symm (Nat.zero_add _).symm rfl (c_X5_tire hT hP hB (p := (A.ch A.tn).getD j 0) (hL9) (hW.ti hL9) ?_)
  intro M1 hP1 hf1
  have hB1 : YB8 (A.setA 3 ((A.ch A.tn).getD j 0) (tird (A.att 3 ((A.ch A.tn).getD j 0)))) := hB
  have hF1 := FrY.rf.tr hf1
  refine J_aload_n hx dX5_comeToPass_34 (i := 0) rfl rfl ?_
  refine J_iload hx dX5_comeToPass_35 rfl ?_
  refine J_invVv (As := [vI ((((A.ch A.tn).getD (j + 1) 0 : Nat) : Int))]) (st := []) hx lk_X5_123 okX5_tire dX5_comeToPass_37 hT.o (by decide) rfl rfl rfl (Nat.le_of_ble_eq_true rfl) (Nat.zero_add _).symm (Nat.zero_add _).symm rfl (c_X5_tire hT hP1 hB1 (p := (A.ch A.tn).getD (j + 1) 0) (hR9) (tir1_rg hW hL9 hR9) ?_)
  intro M2 hP2 hf2
  have hB2 : YB8 ((A.setA 3 ((A.ch A.tn).getD j 0) (tird (A.att 3 ((A.ch A.tn).getD j 0)))).setA 3 ((A.ch A.tn).getD (j + 1) 0) (tird ((A.setA 3 ((A.ch A.tn).getD j 0) (tird (A.att 3 ((A.ch A.tn).getD j 0)))).att 3 ((A.ch A.tn).getD (j + 1) 0)))) := hB1
  have hF2 := hF1.tr hf2
  refine J_aload_n hx dX5_comeToPass_40 (i := 0) rfl rfl ?_
  refine J_iload_n hx dX5_comeToPass_41 (i := 1) rfl rfl ?_
  refine J_invVv (As := [vI (((p : Nat) : Int))]) (st := []) hx lk_X5_127 okX5_leave dX5_comeToPass_42 hT.o (by decide) rfl rfl rfl (Nat.le_of_ble_eq_true rfl) (Nat.zero_add _).symm (Nat.zero_add _).symm rfl (c_X5_leave hT hP2 hB2 (c := (1 - A.tn)) (p := p) (by omega) (hm) ?_)
  intro M3 hP3 hf3
  have hB3 : YB8 (((A.setA 3 ((A.ch A.tn).getD j 0) (tird (A.att 3 ((A.ch A.tn).getD j 0)))).setA 3 ((A.ch A.tn).getD (j + 1) 0) (tird ((A.setA 3 ((A.ch A.tn).getD j 0) (tird (A.att 3 ((A.ch A.tn).getD j 0)))).att 3 ((A.ch A.tn).getD (j + 1) 0)))).setC (1 - A.tn) (lv_ (((A.setA 3 ((A.ch A.tn).getD j 0) (tird (A.att 3 ((A.ch A.tn).getD j 0)))).setA 3 ((A.ch A.tn).getD (j + 1) 0) (tird ((A.setA 3 ((A.ch A.tn).getD j 0) (tird (A.att 3 ((A.ch A.tn).getD j 0)))).att 3 ((A.ch A.tn).getD (j + 1) 0)))).ch (1 - A.tn)) p)) := hB2.setC (Nat.le_trans lv_le (hB2.2.1 _ (by omega))) (fun q9 hq9 => hB2.2.2 _ (by omega) q9 (lv_mem.mp hq9).1)
  have hF3 := hF2.tr hf3
  refine J_iload_n hx dX5_comeToPass_45 (i := 3) rfl rfl ?_
  refine J_if_ne (tgt := 64) hx dX5_comeToPass_46 (by decide) (fun _ => ?_) (fun c9 => absurd c9 (by decide))
  refine J_iconst (v := 1) hx dX5_comeToPass_64 (by decide) ?_
  refine J_aload_n hx dX5_comeToPass_65 (i := 0) rfl rfl ?_
  refine J_getI2 (v := ((A.tn : Nat) : Int)) hx fl_X5_63 cl_X5 dX5_comeToPass_66 hT.o (by decide) rfl (hP3.tnx hW rfl) ?_
  have rg5 := hW.tn2
  refine J_isub (v := ((1 - A.tn : Nat) : Int)) hx dX5_comeToPass_69 (by rw [w32_id (by omega) (by omega)]; omega) ?_
  refine J_istore (lsn := [vR (r), vI (((p : Nat) : Int)), vI (((j : Nat) : Int)), vI (2), vI ((((A.ch A.tn).getD j 0 : Nat) : Int)), vI ((((A.ch A.tn).getD (j + 1) 0 : Nat) : Int)), vI (((1 - A.tn : Nat) : Int)), vU]) hx dX5_comeToPass_70 (Nat.le_of_ble_eq_true rfl) rfl rfl ?_
  refine J_iload_n hx dX5_comeToPass_72 (i := 3) rfl rfl ?_
  refine J_iconst (v := 1) hx dX5_comeToPass_73 (by decide) ?_
  refine J_icmp_ne (tgt := 82) hx dX5_comeToPass_74 (by decide) (fun _ => ?_) (fun c9 => absurd c9 (by decide))
  refine J_iload hx dX5_comeToPass_82 rfl ?_
  refine J_istore (lsn := [vR (r), vI (((p : Nat) : Int)), vI (((j : Nat) : Int)), vI (2), vI ((((A.ch A.tn).getD j 0 : Nat) : Int)), vI ((((A.ch A.tn).getD (j + 1) 0 : Nat) : Int)), vI (((1 - A.tn : Nat) : Int)), vI ((((A.ch A.tn).getD (j + 1) 0 : Nat) : Int))]) hx dX5_comeToPass_84 (Nat.le_of_ble_eq_true rfl) rfl rfl ?_
  refine J_aload_n hx dX5_comeToPass_86 (i := 0) rfl rfl ?_
  refine J_iload_n hx dX5_comeToPass_87 (i := 1) rfl rfl ?_
  refine J_iload hx dX5_comeToPass_88 rfl ?_
  refine J_aload_n hx dX5_comeToPass_90 (i := 0) rfl rfl ?_
  refine J_getR (b := r + 10) hx fl_X5_35 cl_X5 dX5_comeToPass_91 hT.o (by decide) rfl hT.r7 ?_
  refine J_iload hx dX5_comeToPass_94 rfl ?_
  refine J_iald2 (v := ((((((A.setA 3 ((A.ch A.tn).getD j 0) (tird (A.att 3 ((A.ch A.tn).getD j 0)))).setA 3 ((A.ch A.tn).getD (j + 1) 0) (tird ((A.setA 3 ((A.ch A.tn).getD j 0) (tird (A.att 3 ((A.ch A.tn).getD j 0)))).att 3 ((A.ch A.tn).getD (j + 1) 0)))).setC (1 - A.tn) (lv_ (((A.setA 3 ((A.ch A.tn).getD j 0) (tird (A.att 3 ((A.ch A.tn).getD j 0)))).setA 3 ((A.ch A.tn).getD (j + 1) 0) (tird ((A.setA 3 ((A.ch A.tn).getD j 0) (tird (A.att 3 ((A.ch A.tn).getD j 0)))).att 3 ((A.ch A.tn).getD (j + 1) 0)))).ch (1 - A.tn)) p)).ch (1 - A.tn)).length : Nat) : Int)) hx (1 - A.tn) dX5_comeToPass_96 hT.k10 (by omega) (hT.l10 (by omega)) (hP3.sz (by omega)) ?_
  refine J_invVv (As := [vI (((p : Nat) : Int)), vI (((1 - A.tn : Nat) : Int)), vI (((((((A.setA 3 ((A.ch A.tn).getD j 0) (tird (A.att 3 ((A.ch A.tn).getD j 0)))).setA 3 ((A.ch A.tn).getD (j + 1) 0) (tird ((A.setA 3 ((A.ch A.tn).getD j 0) (tird (A.att 3 ((A.ch A.tn).getD j 0)))).att 3 ((A.ch A.tn).getD (j + 1) 0)))).setC (1 - A.tn) (lv_ (((A.setA 3 ((A.ch A.tn).getD j 0) (tird (A.att 3 ((A.ch A.tn).getD j 0)))).setA 3 ((A.ch A.tn).getD (j + 1) 0) (tird ((A.setA 3 ((A.ch A.tn).getD j 0) (tird (A.att 3 ((A.ch A.tn).getD j 0)))).att 3 ((A.ch A.tn).getD (j + 1) 0)))).ch (1 - A.tn)) p)).ch (1 - A.tn)).length : Nat) : Int))]) (st := []) hx lk_X5_69 okX5_enter dX5_comeToPass_97 hT.o (by decide) rfl rfl rfl (Nat.le_of_ble_eq_true rfl) (Nat.zero_add _).symm (Nat.zero_add _).symm rfl (c_X5_enter hT hP3 hB3 (c := (1 - A.tn)) (p := p) (k := (((((A.setA 3 ((A.ch A.tn).getD j 0) (tird (A.att 3 ((A.ch A.tn).getD j 0)))).setA 3 ((A.ch A.tn).getD (j + 1) 0) (tird ((A.setA 3 ((A.ch A.tn).getD j 0) (tird (A.att 3 ((A.ch A.tn).getD j 0)))).att 3 ((A.ch A.tn).getD (j + 1) 0)))).setC (1 - A.tn) (lv_ (((A.setA 3 ((A.ch A.tn).getD j 0) (tird (A.att 3 ((A.ch A.tn).getD j 0)))).setA 3 ((A.ch A.tn).getD (j + 1) 0) (tird ((A.setA 3 ((A.ch A.tn).getD j 0) (tird (A.att 3 ((A.ch A.tn).getD j 0)))).att 3 ((A.ch A.tn).getD (j + 1) 0)))).ch (1 - A.tn)) p)).ch (1 - A.tn)).length)) (by omega) hk97 hl97 hp hno97 ?_)
  intro M4 hP4 hf4
  have hB4 : YB8 ((((A.setA 3 ((A.ch A.tn).getD j 0) (tird (A.att 3 ((A.ch A.tn).getD j 0)))).setA 3 ((A.ch A.tn).getD (j + 1) 0) (tird ((A.setA 3 ((A.ch A.tn).getD j 0) (tird (A.att 3 ((A.ch A.tn).getD j 0)))).att 3 ((A.ch A.tn).getD (j + 1) 0)))).setC (1 - A.tn) (lv_ (((A.setA 3 ((A.ch A.tn).getD j 0) (tird (A.att 3 ((A.ch A.tn).getD j 0)))).setA 3 ((A.ch A.tn).getD (j + 1) 0) (tird ((A.setA 3 ((A.ch A.tn).getD j 0) (tird (A.att 3 ((A.ch A.tn).getD j 0)))).att 3 ((A.ch A.tn).getD (j + 1) 0)))).ch (1 - A.tn)) p)).setC (1 - A.tn) (insAt ((((A.setA 3 ((A.ch A.tn).getD j 0) (tird (A.att 3 ((A.ch A.tn).getD j 0)))).setA 3 ((A.ch A.tn).getD (j + 1) 0) (tird ((A.setA 3 ((A.ch A.tn).getD j 0) (tird (A.att 3 ((A.ch A.tn).getD j 0)))).att 3 ((A.ch A.tn).getD (j + 1) 0)))).setC (1 - A.tn) (lv_ (((A.setA 3 ((A.ch A.tn).getD j 0) (tird (A.att 3 ((A.ch A.tn).getD j 0)))).setA 3 ((A.ch A.tn).getD (j + 1) 0) (tird ((A.setA 3 ((A.ch A.tn).getD j 0) (tird (A.att 3 ((A.ch A.tn).getD j 0)))).att 3 ((A.ch A.tn).getD (j + 1) 0)))).ch (1 - A.tn)) p)).ch (1 - A.tn)) (((((A.setA 3 ((A.ch A.tn).getD j 0) (tird (A.att 3 ((A.ch A.tn).getD j 0)))).setA 3 ((A.ch A.tn).getD (j + 1) 0) (tird ((A.setA 3 ((A.ch A.tn).getD j 0) (tird (A.att 3 ((A.ch A.tn).getD j 0)))).att 3 ((A.ch A.tn).getD (j + 1) 0)))).setC (1 - A.tn) (lv_ (((A.setA 3 ((A.ch A.tn).getD j 0) (tird (A.att 3 ((A.ch A.tn).getD j 0)))).setA 3 ((A.ch A.tn).getD (j + 1) 0) (tird ((A.setA 3 ((A.ch A.tn).getD j 0) (tird (A.att 3 ((A.ch A.tn).getD j 0)))).att 3 ((A.ch A.tn).getD (j + 1) 0)))).ch (1 - A.tn)) p)).ch (1 - A.tn)).length) p)) := hB3.setC (Nat.le_trans (Nat.le_of_eq (insAt_len hk97)) hl97) (fun q9 hq9 => (insAt_mem.mp hq9).elim (fun e9 => e9 ▸ hp) (fun h9 => hB3.2.2 _ (by omega) q9 h9))
  have hF4 := hF3.tr hf4
  refine J_aload_n hx dX5_comeToPass_100 (i := 0) rfl rfl ?_
  refine J_iload hx dX5_comeToPass_101 rfl ?_
  refine J_invVv (As := [vI ((((A.ch A.tn).getD (j + 1) 0 : Nat) : Int))]) (st := []) hx lk_X5_127 okX5_leave dX5_comeToPass_103 hT.o (by decide) rfl rfl rfl (Nat.le_of_ble_eq_true rfl) (Nat.zero_add _).symm (Nat.zero_add _).symm rfl (c_X5_leave hT hP4 hB4 (c := A.tn) (p := ((A.ch A.tn).getD (j + 1) 0)) (by omega) (htk9) ?_)
  intro M5 hP5 hf5
  have hB5 : YB8 (((((A.setA 3 ((A.ch A.tn).getD j 0) (tird (A.att 3 ((A.ch A.tn).getD j 0)))).setA 3 ((A.ch A.tn).getD (j + 1) 0) (tird ((A.setA 3 ((A.ch A.tn).getD j 0) (tird (A.att 3 ((A.ch A.tn).getD j 0)))).att 3 ((A.ch A.tn).getD (j + 1) 0)))).setC (1 - A.tn) (lv_ (((A.setA 3 ((A.ch A.tn).getD j 0) (tird (A.att 3 ((A.ch A.tn).getD j 0)))).setA 3 ((A.ch A.tn).getD (j + 1) 0) (tird ((A.setA 3 ((A.ch A.tn).getD j 0) (tird (A.att 3 ((A.ch A.tn).getD j 0)))).att 3 ((A.ch A.tn).getD (j + 1) 0)))).ch (1 - A.tn)) p)).setC (1 - A.tn) (insAt ((((A.setA 3 ((A.ch A.tn).getD j 0) (tird (A.att 3 ((A.ch A.tn).getD j 0)))).setA 3 ((A.ch A.tn).getD (j + 1) 0) (tird ((A.setA 3 ((A.ch A.tn).getD j 0) (tird (A.att 3 ((A.ch A.tn).getD j 0)))).att 3 ((A.ch A.tn).getD (j + 1) 0)))).setC (1 - A.tn) (lv_ (((A.setA 3 ((A.ch A.tn).getD j 0) (tird (A.att 3 ((A.ch A.tn).getD j 0)))).setA 3 ((A.ch A.tn).getD (j + 1) 0) (tird ((A.setA 3 ((A.ch A.tn).getD j 0) (tird (A.att 3 ((A.ch A.tn).getD j 0)))).att 3 ((A.ch A.tn).getD (j + 1) 0)))).ch (1 - A.tn)) p)).ch (1 - A.tn)) (((((A.setA 3 ((A.ch A.tn).getD j 0) (tird (A.att 3 ((A.ch A.tn).getD j 0)))).setA 3 ((A.ch A.tn).getD (j + 1) 0) (tird ((A.setA 3 ((A.ch A.tn).getD j 0) (tird (A.att 3 ((A.ch A.tn).getD j 0)))).att 3 ((A.ch A.tn).getD (j + 1) 0)))).setC (1 - A.tn) (lv_ (((A.setA 3 ((A.ch A.tn).getD j 0) (tird (A.att 3 ((A.ch A.tn).getD j 0)))).setA 3 ((A.ch A.tn).getD (j + 1) 0) (tird ((A.setA 3 ((A.ch A.tn).getD j 0) (tird (A.att 3 ((A.ch A.tn).getD j 0)))).att 3 ((A.ch A.tn).getD (j + 1) 0)))).ch (1 - A.tn)) p)).ch (1 - A.tn)).length) p)).setC A.tn (lv_ (((((A.setA 3 ((A.ch A.tn).getD j 0) (tird (A.att 3 ((A.ch A.tn).getD j 0)))).setA 3 ((A.ch A.tn).getD (j + 1) 0) (tird ((A.setA 3 ((A.ch A.tn).getD j 0) (tird (A.att 3 ((A.ch A.tn).getD j 0)))).att 3 ((A.ch A.tn).getD (j + 1) 0)))).setC (1 - A.tn) (lv_ (((A.setA 3 ((A.ch A.tn).getD j 0) (tird (A.att 3 ((A.ch A.tn).getD j 0)))).setA 3 ((A.ch A.tn).getD (j + 1) 0) (tird ((A.setA 3 ((A.ch A.tn).getD j 0) (tird (A.att 3 ((A.ch A.tn).getD j 0)))).att 3 ((A.ch A.tn).getD (j + 1) 0)))).ch (1 - A.tn)) p)).setC (1 - A.tn) (insAt ((((A.setA 3 ((A.ch A.tn).getD j 0) (tird (A.att 3 ((A.ch A.tn).getD j 0)))).setA 3 ((A.ch A.tn).getD (j + 1) 0) (tird ((A.setA 3 ((A.ch A.tn).getD j 0) (tird (A.att 3 ((A.ch A.tn).getD j 0)))).att 3 ((A.ch A.tn).getD (j + 1) 0)))).setC (1 - A.tn) (lv_ (((A.setA 3 ((A.ch A.tn).getD j 0) (tird (A.att 3 ((A.ch A.tn).getD j 0)))).setA 3 ((A.ch A.tn).getD (j + 1) 0) (tird ((A.setA 3 ((A.ch A.tn).getD j 0) (tird (A.att 3 ((A.ch A.tn).getD j 0)))).att 3 ((A.ch A.tn).getD (j + 1) 0)))).ch (1 - A.tn)) p)).ch (1 - A.tn)) (((((A.setA 3 ((A.ch A.tn).getD j 0) (tird (A.att 3 ((A.ch A.tn).getD j 0)))).setA 3 ((A.ch A.tn).getD (j + 1) 0) (tird ((A.setA 3 ((A.ch A.tn).getD j 0) (tird (A.att 3 ((A.ch A.tn).getD j 0)))).att 3 ((A.ch A.tn).getD (j + 1) 0)))).setC (1 - A.tn) (lv_ (((A.setA 3 ((A.ch A.tn).getD j 0) (tird (A.att 3 ((A.ch A.tn).getD j 0)))).setA 3 ((A.ch A.tn).getD (j + 1) 0) (tird ((A.setA 3 ((A.ch A.tn).getD j 0) (tird (A.att 3 ((A.ch A.tn).getD j 0)))).att 3 ((A.ch A.tn).getD (j + 1) 0)))).ch (1 - A.tn)) p)).ch (1 - A.tn)).length) p)).ch A.tn) ((A.ch A.tn).getD (j + 1) 0))) := hB4.setC (Nat.le_trans lv_le (hB4.2.1 _ (by omega))) (fun q9 hq9 => hB4.2.2 _ (by omega) q9 (lv_mem.mp hq9).1)
  have hF5 := hF4.tr hf5
  refine J_aload_n hx dX5_comeToPass_106 (i := 0) rfl rfl ?_
  refine J_iload hx dX5_comeToPass_107 rfl ?_
  refine J_iload hx dX5_comeToPass_109 rfl ?_
  refine J_aload_n hx dX5_comeToPass_111 (i := 0) rfl rfl ?_
  refine J_getR (b := r + 10) hx fl_X5_35 cl_X5 dX5_comeToPass_112 hT.o (by decide) rfl hT.r7 ?_
  refine J_iload hx dX5_comeToPass_115 rfl ?_
  refine J_iald2 (v := ((((((((A.setA 3 ((A.ch A.tn).getD j 0) (tird (A.att 3 ((A.ch A.tn).getD j 0)))).setA 3 ((A.ch A.tn).getD (j + 1) 0) (tird ((A.setA 3 ((A.ch A.tn).getD j 0) (tird (A.att 3 ((A.ch A.tn).getD j 0)))).att 3 ((A.ch A.tn).getD (j + 1) 0)))).setC (1 - A.tn) (lv_ (((A.setA 3 ((A.ch A.tn).getD j 0) (tird (A.att 3 ((A.ch A.tn).getD j 0)))).setA 3 ((A.ch A.tn).getD (j + 1) 0) (tird ((A.setA 3 ((A.ch A.tn).getD j 0) (tird (A.att 3 ((A.ch A.tn).getD j 0)))).att 3 ((A.ch A.tn).getD (j + 1) 0)))).ch (1 - A.tn)) p)).setC (1 - A.tn) (insAt ((((A.setA 3 ((A.ch A.tn).getD j 0) (tird (A.att 3 ((A.ch A.tn).getD j 0)))).setA 3 ((A.ch A.tn).getD (j + 1) 0) (tird ((A.setA 3 ((A.ch A.tn).getD j 0) (tird (A.att 3 ((A.ch A.tn).getD j 0)))).att 3 ((A.ch A.tn).getD (j + 1) 0)))).setC (1 - A.tn) (lv_ (((A.setA 3 ((A.ch A.tn).getD j 0) (tird (A.att 3 ((A.ch A.tn).getD j 0)))).setA 3 ((A.ch A.tn).getD (j + 1) 0) (tird ((A.setA 3 ((A.ch A.tn).getD j 0) (tird (A.att 3 ((A.ch A.tn).getD j 0)))).att 3 ((A.ch A.tn).getD (j + 1) 0)))).ch (1 - A.tn)) p)).ch (1 - A.tn)) (((((A.setA 3 ((A.ch A.tn).getD j 0) (tird (A.att 3 ((A.ch A.tn).getD j 0)))).setA 3 ((A.ch A.tn).getD (j + 1) 0) (tird ((A.setA 3 ((A.ch A.tn).getD j 0) (tird (A.att 3 ((A.ch A.tn).getD j 0)))).att 3 ((A.ch A.tn).getD (j + 1) 0)))).setC (1 - A.tn) (lv_ (((A.setA 3 ((A.ch A.tn).getD j 0) (tird (A.att 3 ((A.ch A.tn).getD j 0)))).setA 3 ((A.ch A.tn).getD (j + 1) 0) (tird ((A.setA 3 ((A.ch A.tn).getD j 0) (tird (A.att 3 ((A.ch A.tn).getD j 0)))).att 3 ((A.ch A.tn).getD (j + 1) 0)))).ch (1 - A.tn)) p)).ch (1 - A.tn)).length) p)).setC A.tn (lv_ (((((A.setA 3 ((A.ch A.tn).getD j 0) (tird (A.att 3 ((A.ch A.tn).getD j 0)))).setA 3 ((A.ch A.tn).getD (j + 1) 0) (tird ((A.setA 3 ((A.ch A.tn).getD j 0) (tird (A.att 3 ((A.ch A.tn).getD j 0)))).att 3 ((A.ch A.tn).getD (j + 1) 0)))).setC (1 - A.tn) (lv_ (((A.setA 3 ((A.ch A.tn).getD j 0) (tird (A.att 3 ((A.ch A.tn).getD j 0)))).setA 3 ((A.ch A.tn).getD (j + 1) 0) (tird ((A.setA 3 ((A.ch A.tn).getD j 0) (tird (A.att 3 ((A.ch A.tn).getD j 0)))).att 3 ((A.ch A.tn).getD (j + 1) 0)))).ch (1 - A.tn)) p)).setC (1 - A.tn) (insAt ((((A.setA 3 ((A.ch A.tn).getD j 0) (tird (A.att 3 ((A.ch A.tn).getD j 0)))).setA 3 ((A.ch A.tn).getD (j + 1) 0) (tird ((A.setA 3 ((A.ch A.tn).getD j 0) (tird (A.att 3 ((A.ch A.tn).getD j 0)))).att 3 ((A.ch A.tn).getD (j + 1) 0)))).setC (1 - A.tn) (lv_ (((A.setA 3 ((A.ch A.tn).getD j 0) (tird (A.att 3 ((A.ch A.tn).getD j 0)))).setA 3 ((A.ch A.tn).getD (j + 1) 0) (tird ((A.setA 3 ((A.ch A.tn).getD j 0) (tird (A.att 3 ((A.ch A.tn).getD j 0)))).att 3 ((A.ch A.tn).getD (j + 1) 0)))).ch (1 - A.tn)) p)).ch (1 - A.tn)) (((((A.setA 3 ((A.ch A.tn).getD j 0) (tird (A.att 3 ((A.ch A.tn).getD j 0)))).setA 3 ((A.ch A.tn).getD (j + 1) 0) (tird ((A.setA 3 ((A.ch A.tn).getD j 0) (tird (A.att 3 ((A.ch A.tn).getD j 0)))).att 3 ((A.ch A.tn).getD (j + 1) 0)))).setC (1 - A.tn) (lv_ (((A.setA 3 ((A.ch A.tn).getD j 0) (tird (A.att 3 ((A.ch A.tn).getD j 0)))).setA 3 ((A.ch A.tn).getD (j + 1) 0) (tird ((A.setA 3 ((A.ch A.tn).getD j 0) (tird (A.att 3 ((A.ch A.tn).getD j 0)))).att 3 ((A.ch A.tn).getD (j + 1) 0)))).ch (1 - A.tn)) p)).ch (1 - A.tn)).length) p)).ch A.tn) ((A.ch A.tn).getD (j + 1) 0))).ch (1 - A.tn)).length : Nat) : Int)) hx (1 - A.tn) dX5_comeToPass_117 hT.k10 (by omega) (hT.l10 (by omega)) (hP5.sz (by omega)) ?_
  refine J_invVv (As := [vI ((((A.ch A.tn).getD (j + 1) 0 : Nat) : Int)), vI (((1 - A.tn : Nat) : Int)), vI (((((((((A.setA 3 ((A.ch A.tn).getD j 0) (tird (A.att 3 ((A.ch A.tn).getD j 0)))).setA 3 ((A.ch A.tn).getD (j + 1) 0) (tird ((A.setA 3 ((A.ch A.tn).getD j 0) (tird (A.att 3 ((A.ch A.tn).getD j 0)))).att 3 ((A.ch A.tn).getD (j + 1) 0)))).setC (1 - A.tn) (lv_ (((A.setA 3 ((A.ch A.tn).getD j 0) (tird (A.att 3 ((A.ch A.tn).getD j 0)))).setA 3 ((A.ch A.tn).getD (j + 1) 0) (tird ((A.setA 3 ((A.ch A.tn).getD j 0) (tird (A.att 3 ((A.ch A.tn).getD j 0)))).att 3 ((A.ch A.tn).getD (j + 1) 0)))).ch (1 - A.tn)) p)).setC (1 - A.tn) (insAt ((((A.setA 3 ((A.ch A.tn).getD j 0) (tird (A.att 3 ((A.ch A.tn).getD j 0)))).setA 3 ((A.ch A.tn).getD (j + 1) 0) (tird ((A.setA 3 ((A.ch A.tn).getD j 0) (tird (A.att 3 ((A.ch A.tn).getD j 0)))).att 3 ((A.ch A.tn).getD (j + 1) 0)))).setC (1 - A.tn) (lv_ (((A.setA 3 ((A.ch A.tn).getD j 0) (tird (A.att 3 ((A.ch A.tn).getD j 0)))).setA 3 ((A.ch A.tn).getD (j + 1) 0) (tird ((A.setA 3 ((A.ch A.tn).getD j 0) (tird (A.att 3 ((A.ch A.tn).getD j 0)))).att 3 ((A.ch A.tn).getD (j + 1) 0)))).ch (1 - A.tn)) p)).ch (1 - A.tn)) (((((A.setA 3 ((A.ch A.tn).getD j 0) (tird (A.att 3 ((A.ch A.tn).getD j 0)))).setA 3 ((A.ch A.tn).getD (j + 1) 0) (tird ((A.setA 3 ((A.ch A.tn).getD j 0) (tird (A.att 3 ((A.ch A.tn).getD j 0)))).att 3 ((A.ch A.tn).getD (j + 1) 0)))).setC (1 - A.tn) (lv_ (((A.setA 3 ((A.ch A.tn).getD j 0) (tird (A.att 3 ((A.ch A.tn).getD j 0)))).setA 3 ((A.ch A.tn).getD (j + 1) 0) (tird ((A.setA 3 ((A.ch A.tn).getD j 0) (tird (A.att 3 ((A.ch A.tn).getD j 0)))).att 3 ((A.ch A.tn).getD (j + 1) 0)))).ch (1 - A.tn)) p)).ch (1 - A.tn)).length) p)).setC A.tn (lv_ (((((A.setA 3 ((A.ch A.tn).getD j 0) (tird (A.att 3 ((A.ch A.tn).getD j 0)))).setA 3 ((A.ch A.tn).getD (j + 1) 0) (tird ((A.setA 3 ((A.ch A.tn).getD j 0) (tird (A.att 3 ((A.ch A.tn).getD j 0)))).att 3 ((A.ch A.tn).getD (j + 1) 0)))).setC (1 - A.tn) (lv_ (((A.setA 3 ((A.ch A.tn).getD j 0) (tird (A.att 3 ((A.ch A.tn).getD j 0)))).setA 3 ((A.ch A.tn).getD (j + 1) 0) (tird ((A.setA 3 ((A.ch A.tn).getD j 0) (tird (A.att 3 ((A.ch A.tn).getD j 0)))).att 3 ((A.ch A.tn).getD (j + 1) 0)))).ch (1 - A.tn)) p)).setC (1 - A.tn) (insAt ((((A.setA 3 ((A.ch A.tn).getD j 0) (tird (A.att 3 ((A.ch A.tn).getD j 0)))).setA 3 ((A.ch A.tn).getD (j + 1) 0) (tird ((A.setA 3 ((A.ch A.tn).getD j 0) (tird (A.att 3 ((A.ch A.tn).getD j 0)))).att 3 ((A.ch A.tn).getD (j + 1) 0)))).setC (1 - A.tn) (lv_ (((A.setA 3 ((A.ch A.tn).getD j 0) (tird (A.att 3 ((A.ch A.tn).getD j 0)))).setA 3 ((A.ch A.tn).getD (j + 1) 0) (tird ((A.setA 3 ((A.ch A.tn).getD j 0) (tird (A.att 3 ((A.ch A.tn).getD j 0)))).att 3 ((A.ch A.tn).getD (j + 1) 0)))).ch (1 - A.tn)) p)).ch (1 - A.tn)) (((((A.setA 3 ((A.ch A.tn).getD j 0) (tird (A.att 3 ((A.ch A.tn).getD j 0)))).setA 3 ((A.ch A.tn).getD (j + 1) 0) (tird ((A.setA 3 ((A.ch A.tn).getD j 0) (tird (A.att 3 ((A.ch A.tn).getD j 0)))).att 3 ((A.ch A.tn).getD (j + 1) 0)))).setC (1 - A.tn) (lv_ (((A.setA 3 ((A.ch A.tn).getD j 0) (tird (A.att 3 ((A.ch A.tn).getD j 0)))).setA 3 ((A.ch A.tn).getD (j + 1) 0) (tird ((A.setA 3 ((A.ch A.tn).getD j 0) (tird (A.att 3 ((A.ch A.tn).getD j 0)))).att 3 ((A.ch A.tn).getD (j + 1) 0)))).ch (1 - A.tn)) p)).ch (1 - A.tn)).length) p)).ch A.tn) ((A.ch A.tn).getD (j + 1) 0))).ch (1 - A.tn)).length : Nat) : Int))]) (st := []) hx lk_X5_69 okX5_enter dX5_comeToPass_118 hT.o (by decide) rfl rfl rfl (Nat.le_of_ble_eq_true rfl) (Nat.zero_add _).symm (Nat.zero_add _).symm rfl (c_X5_enter hT hP5 hB5 (c := (1 - A.tn)) (p := ((A.ch A.tn).getD (j + 1) 0)) (k := (((((((A.setA 3 ((A.ch A.tn).getD j 0) (tird (A.att 3 ((A.ch A.tn).getD j 0)))).setA 3 ((A.ch A.tn).getD (j + 1) 0) (tird ((A.setA 3 ((A.ch A.tn).getD j 0) (tird (A.att 3 ((A.ch A.tn).getD j 0)))).att 3 ((A.ch A.tn).getD (j + 1) 0)))).setC (1 - A.tn) (lv_ (((A.setA 3 ((A.ch A.tn).getD j 0) (tird (A.att 3 ((A.ch A.tn).getD j 0)))).setA 3 ((A.ch A.tn).getD (j + 1) 0) (tird ((A.setA 3 ((A.ch A.tn).getD j 0) (tird (A.att 3 ((A.ch A.tn).getD j 0)))).att 3 ((A.ch A.tn).getD (j + 1) 0)))).ch (1 - A.tn)) p)).setC (1 - A.tn) (insAt ((((A.setA 3 ((A.ch A.tn).getD j 0) (tird (A.att 3 ((A.ch A.tn).getD j 0)))).setA 3 ((A.ch A.tn).getD (j + 1) 0) (tird ((A.setA 3 ((A.ch A.tn).getD j 0) (tird (A.att 3 ((A.ch A.tn).getD j 0)))).att 3 ((A.ch A.tn).getD (j + 1) 0)))).setC (1 - A.tn) (lv_ (((A.setA 3 ((A.ch A.tn).getD j 0) (tird (A.att 3 ((A.ch A.tn).getD j 0)))).setA 3 ((A.ch A.tn).getD (j + 1) 0) (tird ((A.setA 3 ((A.ch A.tn).getD j 0) (tird (A.att 3 ((A.ch A.tn).getD j 0)))).att 3 ((A.ch A.tn).getD (j + 1) 0)))).ch (1 - A.tn)) p)).ch (1 - A.tn)) (((((A.setA 3 ((A.ch A.tn).getD j 0) (tird (A.att 3 ((A.ch A.tn).getD j 0)))).setA 3 ((A.ch A.tn).getD (j + 1) 0) (tird ((A.setA 3 ((A.ch A.tn).getD j 0) (tird (A.att 3 ((A.ch A.tn).getD j 0)))).att 3 ((A.ch A.tn).getD (j + 1) 0)))).setC (1 - A.tn) (lv_ (((A.setA 3 ((A.ch A.tn).getD j 0) (tird (A.att 3 ((A.ch A.tn).getD j 0)))).setA 3 ((A.ch A.tn).getD (j + 1) 0) (tird ((A.setA 3 ((A.ch A.tn).getD j 0) (tird (A.att 3 ((A.ch A.tn).getD j 0)))).att 3 ((A.ch A.tn).getD (j + 1) 0)))).ch (1 - A.tn)) p)).ch (1 - A.tn)).length) p)).setC A.tn (lv_ (((((A.setA 3 ((A.ch A.tn).getD j 0) (tird (A.att 3 ((A.ch A.tn).getD j 0)))).setA 3 ((A.ch A.tn).getD (j + 1) 0) (tird ((A.setA 3 ((A.ch A.tn).getD j 0) (tird (A.att 3 ((A.ch A.tn).getD j 0)))).att 3 ((A.ch A.tn).getD (j + 1) 0)))).setC (1 - A.tn) (lv_ (((A.setA 3 ((A.ch A.tn).getD j 0) (tird (A.att 3 ((A.ch A.tn).getD j 0)))).setA 3 ((A.ch A.tn).getD (j + 1) 0) (tird ((A.setA 3 ((A.ch A.tn).getD j 0) (tird (A.att 3 ((A.ch A.tn).getD j 0)))).att 3 ((A.ch A.tn).getD (j + 1) 0)))).ch (1 - A.tn)) p)).setC (1 - A.tn) (insAt ((((A.setA 3 ((A.ch A.tn).getD j 0) (tird (A.att 3 ((A.ch A.tn).getD j 0)))).setA 3 ((A.ch A.tn).getD (j + 1) 0) (tird ((A.setA 3 ((A.ch A.tn).getD j 0) (tird (A.att 3 ((A.ch A.tn).getD j 0)))).att 3 ((A.ch A.tn).getD (j + 1) 0)))).setC (1 - A.tn) (lv_ (((A.setA 3 ((A.ch A.tn).getD j 0) (tird (A.att 3 ((A.ch A.tn).getD j 0)))).setA 3 ((A.ch A.tn).getD (j + 1) 0) (tird ((A.setA 3 ((A.ch A.tn).getD j 0) (tird (A.att 3 ((A.ch A.tn).getD j 0)))).att 3 ((A.ch A.tn).getD (j + 1) 0)))).ch (1 - A.tn)) p)).ch (1 - A.tn)) (((((A.setA 3 ((A.ch A.tn).getD j 0) (tird (A.att 3 ((A.ch A.tn).getD j 0)))).setA 3 ((A.ch A.tn).getD (j + 1) 0) (tird ((A.setA 3 ((A.ch A.tn).getD j 0) (tird (A.att 3 ((A.ch A.tn).getD j 0)))).att 3 ((A.ch A.tn).getD (j + 1) 0)))).setC (1 - A.tn) (lv_ (((A.setA 3 ((A.ch A.tn).getD j 0) (tird (A.att 3 ((A.ch A.tn).getD j 0)))).setA 3 ((A.ch A.tn).getD (j + 1) 0) (tird ((A.setA 3 ((A.ch A.tn).getD j 0) (tird (A.att 3 ((A.ch A.tn).getD j 0)))).att 3 ((A.ch A.tn).getD (j + 1) 0)))).ch (1 - A.tn)) p)).ch (1 - A.tn)).length) p)).ch A.tn) ((A.ch A.tn).getD (j + 1) 0))).ch (1 - A.tn)).length)) (by omega) hk118 hl118 htn9 hno118 ?_)
  intro M6 hP6 hf6
  have hB6 : YB8 ((((((A.setA 3 ((A.ch A.tn).getD j 0) (tird (A.att 3 ((A.ch A.tn).getD j 0)))).setA 3 ((A.ch A.tn).getD (j + 1) 0) (tird ((A.setA 3 ((A.ch A.tn).getD j 0) (tird (A.att 3 ((A.ch A.tn).getD j 0)))).att 3 ((A.ch A.tn).getD (j + 1) 0)))).setC (1 - A.tn) (lv_ (((A.setA 3 ((A.ch A.tn).getD j 0) (tird (A.att 3 ((A.ch A.tn).getD j 0)))).setA 3 ((A.ch A.tn).getD (j + 1) 0) (tird ((A.setA 3 ((A.ch A.tn).getD j 0) (tird (A.att 3 ((A.ch A.tn).getD j 0)))).att 3 ((A.ch A.tn).getD (j + 1) 0)))).ch (1 - A.tn)) p)).setC (1 - A.tn) (insAt ((((A.setA 3 ((A.ch A.tn).getD j 0) (tird (A.att 3 ((A.ch A.tn).getD j 0)))).setA 3 ((A.ch A.tn).getD (j + 1) 0) (tird ((A.setA 3 ((A.ch A.tn).getD j 0) (tird (A.att 3 ((A.ch A.tn).getD j 0)))).att 3 ((A.ch A.tn).getD (j + 1) 0)))).setC (1 - A.tn) (lv_ (((A.setA 3 ((A.ch A.tn).getD j 0) (tird (A.att 3 ((A.ch A.tn).getD j 0)))).setA 3 ((A.ch A.tn).getD (j + 1) 0) (tird ((A.setA 3 ((A.ch A.tn).getD j 0) (tird (A.att 3 ((A.ch A.tn).getD j 0)))).att 3 ((A.ch A.tn).getD (j + 1) 0)))).ch (1 - A.tn)) p)).ch (1 - A.tn)) (((((A.setA 3 ((A.ch A.tn).getD j 0) (tird (A.att 3 ((A.ch A.tn).getD j 0)))).setA 3 ((A.ch A.tn).getD (j + 1) 0) (tird ((A.setA 3 ((A.ch A.tn).getD j 0) (tird (A.att 3 ((A.ch A.tn).getD j 0)))).att 3 ((A.ch A.tn).getD (j + 1) 0)))).setC (1 - A.tn) (lv_ (((A.setA 3 ((A.ch A.tn).getD j 0) (tird (A.att 3 ((A.ch A.tn).getD j 0)))).setA 3 ((A.ch A.tn).getD (j + 1) 0) (tird ((A.setA 3 ((A.ch A.tn).getD j 0) (tird (A.att 3 ((A.ch A.tn).getD j 0)))).att 3 ((A.ch A.tn).getD (j + 1) 0)))).ch (1 - A.tn)) p)).ch (1 - A.tn)).length) p)).setC A.tn (lv_ (((((A.setA 3 ((A.ch A.tn).getD j 0) (tird (A.att 3 ((A.ch A.tn).getD j 0)))).setA 3 ((A.ch A.tn).getD (j + 1) 0) (tird ((A.setA 3 ((A.ch A.tn).getD j 0) (tird (A.att 3 ((A.ch A.tn).getD j 0)))).att 3 ((A.ch A.tn).getD (j + 1) 0)))).setC (1 - A.tn) (lv_ (((A.setA 3 ((A.ch A.tn).getD j 0) (tird (A.att 3 ((A.ch A.tn).getD j 0)))).setA 3 ((A.ch A.tn).getD (j + 1) 0) (tird ((A.setA 3 ((A.ch A.tn).getD j 0) (tird (A.att 3 ((A.ch A.tn).getD j 0)))).att 3 ((A.ch A.tn).getD (j + 1) 0)))).ch (1 - A.tn)) p)).setC (1 - A.tn) (insAt ((((A.setA 3 ((A.ch A.tn).getD j 0) (tird (A.att 3 ((A.ch A.tn).getD j 0)))).setA 3 ((A.ch A.tn).getD (j + 1) 0) (tird ((A.setA 3 ((A.ch A.tn).getD j 0) (tird (A.att 3 ((A.ch A.tn).getD j 0)))).att 3 ((A.ch A.tn).getD (j + 1) 0)))).setC (1 - A.tn) (lv_ (((A.setA 3 ((A.ch A.tn).getD j 0) (tird (A.att 3 ((A.ch A.tn).getD j 0)))).setA 3 ((A.ch A.tn).getD (j + 1) 0) (tird ((A.setA 3 ((A.ch A.tn).getD j 0) (tird (A.att 3 ((A.ch A.tn).getD j 0)))).att 3 ((A.ch A.tn).getD (j + 1) 0)))).ch (1 - A.tn)) p)).ch (1 - A.tn)) (((((A.setA 3 ((A.ch A.tn).getD j 0) (tird (A.att 3 ((A.ch A.tn).getD j 0)))).setA 3 ((A.ch A.tn).getD (j + 1) 0) (tird ((A.setA 3 ((A.ch A.tn).getD j 0) (tird (A.att 3 ((A.ch A.tn).getD j 0)))).att 3 ((A.ch A.tn).getD (j + 1) 0)))).setC (1 - A.tn) (lv_ (((A.setA 3 ((A.ch A.tn).getD j 0) (tird (A.att 3 ((A.ch A.tn).getD j 0)))).setA 3 ((A.ch A.tn).getD (j + 1) 0) (tird ((A.setA 3 ((A.ch A.tn).getD j 0) (tird (A.att 3 ((A.ch A.tn).getD j 0)))).att 3 ((A.ch A.tn).getD (j + 1) 0)))).ch (1 - A.tn)) p)).ch (1 - A.tn)).length) p)).ch A.tn) ((A.ch A.tn).getD (j + 1) 0))).setC (1 - A.tn) (insAt ((((((A.setA 3 ((A.ch A.tn).getD j 0) (tird (A.att 3 ((A.ch A.tn).getD j 0)))).setA 3 ((A.ch A.tn).getD (j + 1) 0) (tird ((A.setA 3 ((A.ch A.tn).getD j 0) (tird (A.att 3 ((A.ch A.tn).getD j 0)))).att 3 ((A.ch A.tn).getD (j + 1) 0)))).setC (1 - A.tn) (lv_ (((A.setA 3 ((A.ch A.tn).getD j 0) (tird (A.att 3 ((A.ch A.tn).getD j 0)))).setA 3 ((A.ch A.tn).getD (j + 1) 0) (tird ((A.setA 3 ((A.ch A.tn).getD j 0) (tird (A.att 3 ((A.ch A.tn).getD j 0)))).att 3 ((A.ch A.tn).getD (j + 1) 0)))).ch (1 - A.tn)) p)).setC (1 - A.tn) (insAt ((((A.setA 3 ((A.ch A.tn).getD j 0) (tird (A.att 3 ((A.ch A.tn).getD j 0)))).setA 3 ((A.ch A.tn).getD (j + 1) 0) (tird ((A.setA 3 ((A.ch A.tn).getD j 0) (tird (A.att 3 ((A.ch A.tn).getD j 0)))).att 3 ((A.ch A.tn).getD (j + 1) 0)))).setC (1 - A.tn) (lv_ (((A.setA 3 ((A.ch A.tn).getD j 0) (tird (A.att 3 ((A.ch A.tn).getD j 0)))).setA 3 ((A.ch A.tn).getD (j + 1) 0) (tird ((A.setA 3 ((A.ch A.tn).getD j 0) (tird (A.att 3 ((A.ch A.tn).getD j 0)))).att 3 ((A.ch A.tn).getD (j + 1) 0)))).ch (1 - A.tn)) p)).ch (1 - A.tn)) (((((A.setA 3 ((A.ch A.tn).getD j 0) (tird (A.att 3 ((A.ch A.tn).getD j 0)))).setA 3 ((A.ch A.tn).getD (j + 1) 0) (tird ((A.setA 3 ((A.ch A.tn).getD j 0) (tird (A.att 3 ((A.ch A.tn).getD j 0)))).att 3 ((A.ch A.tn).getD (j + 1) 0)))).setC (1 - A.tn) (lv_ (((A.setA 3 ((A.ch A.tn).getD j 0) (tird (A.att 3 ((A.ch A.tn).getD j 0)))).setA 3 ((A.ch A.tn).getD (j + 1) 0) (tird ((A.setA 3 ((A.ch A.tn).getD j 0) (tird (A.att 3 ((A.ch A.tn).getD j 0)))).att 3 ((A.ch A.tn).getD (j + 1) 0)))).ch (1 - A.tn)) p)).ch (1 - A.tn)).length) p)).setC A.tn (lv_ (((((A.setA 3 ((A.ch A.tn).getD j 0) (tird (A.att 3 ((A.ch A.tn).getD j 0)))).setA 3 ((A.ch A.tn).getD (j + 1) 0) (tird ((A.setA 3 ((A.ch A.tn).getD j 0) (tird (A.att 3 ((A.ch A.tn).getD j 0)))).att 3 ((A.ch A.tn).getD (j + 1) 0)))).setC (1 - A.tn) (lv_ (((A.setA 3 ((A.ch A.tn).getD j 0) (tird (A.att 3 ((A.ch A.tn).getD j 0)))).setA 3 ((A.ch A.tn).getD (j + 1) 0) (tird ((A.setA 3 ((A.ch A.tn).getD j 0) (tird (A.att 3 ((A.ch A.tn).getD j 0)))).att 3 ((A.ch A.tn).getD (j + 1) 0)))).ch (1 - A.tn)) p)).setC (1 - A.tn) (insAt ((((A.setA 3 ((A.ch A.tn).getD j 0) (tird (A.att 3 ((A.ch A.tn).getD j 0)))).setA 3 ((A.ch A.tn).getD (j + 1) 0) (tird ((A.setA 3 ((A.ch A.tn).getD j 0) (tird (A.att 3 ((A.ch A.tn).getD j 0)))).att 3 ((A.ch A.tn).getD (j + 1) 0)))).setC (1 - A.tn) (lv_ (((A.setA 3 ((A.ch A.tn).getD j 0) (tird (A.att 3 ((A.ch A.tn).getD j 0)))).setA 3 ((A.ch A.tn).getD (j + 1) 0) (tird ((A.setA 3 ((A.ch A.tn).getD j 0) (tird (A.att 3 ((A.ch A.tn).getD j 0)))).att 3 ((A.ch A.tn).getD (j + 1) 0)))).ch (1 - A.tn)) p)).ch (1 - A.tn)) (((((A.setA 3 ((A.ch A.tn).getD j 0) (tird (A.att 3 ((A.ch A.tn).getD j 0)))).setA 3 ((A.ch A.tn).getD (j + 1) 0) (tird ((A.setA 3 ((A.ch A.tn).getD j 0) (tird (A.att 3 ((A.ch A.tn).getD j 0)))).att 3 ((A.ch A.tn).getD (j + 1) 0)))).setC (1 - A.tn) (lv_ (((A.setA 3 ((A.ch A.tn).getD j 0) (tird (A.att 3 ((A.ch A.tn).getD j 0)))).setA 3 ((A.ch A.tn).getD (j + 1) 0) (tird ((A.setA 3 ((A.ch A.tn).getD j 0) (tird (A.att 3 ((A.ch A.tn).getD j 0)))).att 3 ((A.ch A.tn).getD (j + 1) 0)))).ch (1 - A.tn)) p)).ch (1 - A.tn)).length) p)).ch A.tn) ((A.ch A.tn).getD (j + 1) 0))).ch (1 - A.tn)) (((((((A.setA 3 ((A.ch A.tn).getD j 0) (tird (A.att 3 ((A.ch A.tn).getD j 0)))).setA 3 ((A.ch A.tn).getD (j + 1) 0) (tird ((A.setA 3 ((A.ch A.tn).getD j 0) (tird (A.att 3 ((A.ch A.tn).getD j 0)))).att 3 ((A.ch A.tn).getD (j + 1) 0)))).setC (1 - A.tn) (lv_ (((A.setA 3 ((A.ch A.tn).getD j 0) (tird (A.att 3 ((A.ch A.tn).getD j 0)))).setA 3 ((A.ch A.tn).getD (j + 1) 0) (tird ((A.setA 3 ((A.ch A.tn).getD j 0) (tird (A.att 3 ((A.ch A.tn).getD j 0)))).att 3 ((A.ch A.tn).getD (j + 1) 0)))).ch (1 - A.tn)) p)).setC (1 - A.tn) (insAt ((((A.setA 3 ((A.ch A.tn).getD j 0) (tird (A.att 3 ((A.ch A.tn).getD j 0)))).setA 3 ((A.ch A.tn).getD (j + 1) 0) (tird ((A.setA 3 ((A.ch A.tn).getD j 0) (tird (A.att 3 ((A.ch A.tn).getD j 0)))).att 3 ((A.ch A.tn).getD (j + 1) 0)))).setC (1 - A.tn) (lv_ (((A.setA 3 ((A.ch A.tn).getD j 0) (tird (A.att 3 ((A.ch A.tn).getD j 0)))).setA 3 ((A.ch A.tn).getD (j + 1) 0) (tird ((A.setA 3 ((A.ch A.tn).getD j 0) (tird (A.att 3 ((A.ch A.tn).getD j 0)))).att 3 ((A.ch A.tn).getD (j + 1) 0)))).ch (1 - A.tn)) p)).ch (1 - A.tn)) (((((A.setA 3 ((A.ch A.tn).getD j 0) (tird (A.att 3 ((A.ch A.tn).getD j 0)))).setA 3 ((A.ch A.tn).getD (j + 1) 0) (tird ((A.setA 3 ((A.ch A.tn).getD j 0) (tird (A.att 3 ((A.ch A.tn).getD j 0)))).att 3 ((A.ch A.tn).getD (j + 1) 0)))).setC (1 - A.tn) (lv_ (((A.setA 3 ((A.ch A.tn).getD j 0) (tird (A.att 3 ((A.ch A.tn).getD j 0)))).setA 3 ((A.ch A.tn).getD (j + 1) 0) (tird ((A.setA 3 ((A.ch A.tn).getD j 0) (tird (A.att 3 ((A.ch A.tn).getD j 0)))).att 3 ((A.ch A.tn).getD (j + 1) 0)))).ch (1 - A.tn)) p)).ch (1 - A.tn)).length) p)).setC A.tn (lv_ (((((A.setA 3 ((A.ch A.tn).getD j 0) (tird (A.att 3 ((A.ch A.tn).getD j 0)))).setA 3 ((A.ch A.tn).getD (j + 1) 0) (tird ((A.setA 3 ((A.ch A.tn).getD j 0) (tird (A.att 3 ((A.ch A.tn).getD j 0)))).att 3 ((A.ch A.tn).getD (j + 1) 0)))).setC (1 - A.tn) (lv_ (((A.setA 3 ((A.ch A.tn).getD j 0) (tird (A.att 3 ((A.ch A.tn).getD j 0)))).setA 3 ((A.ch A.tn).getD (j + 1) 0) (tird ((A.setA 3 ((A.ch A.tn).getD j 0) (tird (A.att 3 ((A.ch A.tn).getD j 0)))).att 3 ((A.ch A.tn).getD (j + 1) 0)))).ch (1 - A.tn)) p)).setC (1 - A.tn) (insAt ((((A.setA 3 ((A.ch A.tn).getD j 0) (tird (A.att 3 ((A.ch A.tn).getD j 0)))).setA 3 ((A.ch A.tn).getD (j + 1) 0) (tird ((A.setA 3 ((A.ch A.tn).getD j 0) (tird (A.att 3 ((A.ch A.tn).getD j 0)))).att 3 ((A.ch A.tn).getD (j + 1) 0)))).setC (1 - A.tn) (lv_ (((A.setA 3 ((A.ch A.tn).getD j 0) (tird (A.att 3 ((A.ch A.tn).getD j 0)))).setA 3 ((A.ch A.tn).getD (j + 1) 0) (tird ((A.setA 3 ((A.ch A.tn).getD j 0) (tird (A.att 3 ((A.ch A.tn).getD j 0)))).att 3 ((A.ch A.tn).getD (j + 1) 0)))).ch (1 - A.tn)) p)).ch (1 - A.tn)) (((((A.setA 3 ((A.ch A.tn).getD j 0) (tird (A.att 3 ((A.ch A.tn).getD j 0)))).setA 3 ((A.ch A.tn).getD (j + 1) 0) (tird ((A.setA 3 ((A.ch A.tn).getD j 0) (tird (A.att 3 ((A.ch A.tn).getD j 0)))).att 3 ((A.ch A.tn).getD (j + 1) 0)))).setC (1 - A.tn) (lv_ (((A.setA 3 ((A.ch A.tn).getD j 0) (tird (A.att 3 ((A.ch A.tn).getD j 0)))).setA 3 ((A.ch A.tn).getD (j + 1) 0) (tird ((A.setA 3 ((A.ch A.tn).getD j 0) (tird (A.att 3 ((A.ch A.tn).getD j 0)))).att 3 ((A.ch A.tn).getD (j + 1) 0)))).ch (1 - A.tn)) p)).ch (1 - A.tn)).length) p)).ch A.tn) ((A.ch A.tn).getD (j + 1) 0))).ch (1 - A.tn)).length) ((A.ch A.tn).getD (j + 1) 0))) := hB5.setC (Nat.le_trans (Nat.le_of_eq (insAt_len hk118)) hl118) (fun q9 hq9 => (insAt_mem.mp hq9).elim (fun e9 => e9 ▸ htn9) (fun h9 => hB5.2.2 _ (by omega) q9 h9))
  have hF6 := hF5.tr hf6
  refine J_aload_n hx dX5_comeToPass_121 (i := 0) rfl rfl ?_
  refine J_iconst (v := 1) hx dX5_comeToPass_122 (by decide) ?_
  refine J_aload_n hx dX5_comeToPass_123 (i := 0) rfl rfl ?_
  refine J_getI2 (v := ((A.tn : Nat) : Int)) hx fl_X5_63 cl_X5 dX5_comeToPass_124 hT.o (by decide) rfl (hP6.tnx hW rfl) ?_
  have rg6 := hW.tn2
  refine J_isub (v := 1 - ((A.tn : Nat) : Int)) hx dX5_comeToPass_127 (w32_id (by omega) (by omega)) ?_
  refine J_putI hx fl_X5_63 cl_X5 dX5_comeToPass_128 hT.o (by decide) rfl (Or.inl rfl) (by decide) ?_
  have hP7 := hP6.setS (q := 5) (1 - ((A.tn : Nat) : Int)) (by decide)
  have hF7 := hF6.up (k := 0) (i := 13) (by decide) (1 - ((A.tn : Nat) : Int))
  generalize eM7 : up2 M6 r 13 (1 - ((A.tn : Nat) : Int)) = M7 at hP7 hF7 ⊢
  refine J_aload_n hx dX5_comeToPass_131 (i := 0) rfl rfl ?_
  refine J_dup hx dX5_comeToPass_132 rfl ?_
  refine J_getI2 (v := A.sc 6) hx fl_X5_66 cl_X5 dX5_comeToPass_133 hT.o (by decide) rfl (hP7.rnx (A := A) rfl) ?_
  refine J_iconst (v := 1) hx dX5_comeToPass_136 (by decide) ?_
  refine J_iadd (v := A.sc 6 + 1) hx dX5_comeToPass_137 (w32_id (by omega) (by omega)) ?_
  refine J_putI hx fl_X5_66 cl_X5 dX5_comeToPass_138 hT.o (by decide) rfl (Or.inl rfl) (by decide) ?_
  have hP8 := hP7.setS (q := 6) (A.sc 6 + 1) (by decide)
  have hF8 := hF7.up (k := 0) (i := 14) (by decide) (A.sc 6 + 1)
  generalize eM8 : up2 M7 r 14 (A.sc 6 + 1) = M8 at hP8 hF8 ⊢
  refine J_vret hx hr dX5_comeToPass_141 ?_
  exact hQ _ (hP8.toN (runT_wf hW hp hc hj ho htk0)) hF8
