theorem MT.up {T T' : TT} {r : Nat} (h : MT T r) (e : ∀ a, r ≤ a → a < r + 29 → (T' a).1 = (T a).1 ∧ (T' a).2.1 = (T a).2.1 ∧ ∀ i, i ≠ 24 → i ≠ 25 → i ≠ 26 → (T' a).2.2 i = (T a).2.2 i) : MT T' r := ⟨by rw [(e _ (by omega) (by omega)).1]; exact h.o, by rw [(e _ (by omega) (by omega)).2.2 0 (by decide) (by decide) (by decide)]; exact h.r0, by rw [(e _ (by omega) (by omega)).1]; exact h.k1, by rw [(e _ (by omega) (by omega)).2.1]; exact h.n1, by rw [(e _ (by omega) (by omega)).2.2 1 (by decide) (by decide) (by decide)]; exact h.r1, by rw [(e _ (by omega) (by omega)).1]; exact h.k2, by rw [(e _ (by omega) (by omega)).2.1]; exact h.n2, by rw [(e _ (by omega) (by omega)).2.2 2 (by decide) (by decide) (by decide)]; exact h.r2, by rw [(e _ (by omega) (by omega)).1]; exact h.k3, by rw [(e _ (by omega) (by omega)).2.1]; exact h.n3, by rw [(e _ (by omega) (by omega)).2.2 5 (by decide) (by decide) (by decide)]; exact h.r5, by rw [(e _ (by omega) (by omega)).1]; exact h.k14, by rw [(e _ (by omega) (by omega)).2.1]; exact h.n14, by rw [(e _ (by omega) (by omega)).2.2 6 (by decide) (by decide) (by decide)]; exact h.r6, by rw [(e _ (by omega) (by omega)).1]; exact h.k15, by rw [(e _ (by omega) (by omega)).2.1]; exact h.n15, by rw [(e _ (by omega) (by omega)).2.2 8 (by decide) (by decide) (by decide)]; exact h.r8, by rw [(e _ (by omega) (by omega)).1]; exact h.k16, by rw [(e _ (by omega) (by omega)).2.1]; exact h.n16, by rw [(e _ (by omega) (by omega)).2.2 10 (by decide) (by decide) (by decide)]; exact h.r10, by rw [(e _ (by omega) (by omega)).1]; exact h.k17, by rw [(e _ (by omega) (by omega)).2.1]; exact h.n17, by rw [(e _ (by omega) (by omega)).2.2 11 (by decide) (by decide) (by decide)]; exact h.r11, by rw [(e _ (by omega) (by omega)).1]; exact h.k18, by rw [(e _ (by omega) (by omega)).2.1]; exact h.n18, by rw [(e _ (by omega) (by omega)).2.2 12 (by decide) (by decide) (by decide)]; exact h.r12, by rw [(e _ (by omega) (by omega)).1]; exact h.k19, by rw [(e _ (by omega) (by omega)).2.1]; exact h.n19, by rw [(e _ (by omega) (by omega)).2.2 13 (by decide) (by decide) (by decide)]; exact h.r13, by rw [(e _ (by omega) (by omega)).1]; exact h.k20, by rw [(e _ (by omega) (by omega)).2.1]; exact h.n20, by rw [(e _ (by omega) (by omega)).2.2 14 (by decide) (by decide) (by decide)]; exact h.r14, by rw [(e _ (by omega) (by omega)).1]; exact h.k21, by rw [(e _ (by omega) (by omega)).2.1]; exact h.n21, by rw [(e _ (by omega) (by omega)).2.2 16 (by decide) (by decide) (by decide)]; exact h.r16, by rw [(e _ (by omega) (by omega)).1]; exact h.k25, by rw [(e _ (by omega) (by omega)).2.1]; exact h.n25, by rw [(e _ (by omega) (by omega)).2.2 32 (by decide) (by decide) (by decide)]; exact h.r32, by rw [(e _ (by omega) (by omega)).1]; exact h.k26, by rw [(e _ (by omega) (by omega)).2.1]; exact h.n26, by rw [(e _ (by omega) (by omega)).2.2 34 (by decide) (by decide) (by decide)]; exact h.r34, by rw [(e _ (by omega) (by omega)).1]; exact h.k27, by rw [(e _ (by omega) (by omega)).2.1]; exact h.n27, by rw [(e _ (by omega) (by omega)).2.2 35 (by decide) (by decide) (by decide)]; exact h.r35, by rw [(e _ (by omega) (by omega)).1]; exact h.k28, by rw [(e _ (by omega) (by omega)).2.1]; exact h.n28, by rw [(e _ (by omega) (by omega)).2.2 3 (by decide) (by decide) (by decide)]; exact h.r3, by rw [(e _ (by omega) (by omega)).1]; exact h.k4, by rw [(e _ (by omega) (by omega)).2.1]; exact h.n4, fun s hs => ⟨by rw [(e _ (by omega) (by omega)).2.2 s (by omega) (by omega) (by omega)]; exact (h.rw s hs).1, by rw [(e _ (by omega) (by omega)).1]; exact (h.rw s hs).2.1, by rw [(e _ (by omega) (by omega)).2.1]; exact (h.rw s hs).2.2⟩, by rw [(e _ (by omega) (by omega)).2.2 4 (by decide) (by decide) (by decide)]; exact h.r4, by rw [(e _ (by omega) (by omega)).1]; exact h.k13, by rw [(e _ (by omega) (by omega)).2.1]; exact h.n13, by rw [(e _ (by omega) (by omega)).2.2 15 (by decide) (by decide) (by decide)]; exact h.r15, by rw [(e _ (by omega) (by omega)).1]; exact h.k22, by rw [(e _ (by omega) (by omega)).2.1]; exact h.n22, fun c hc => ⟨by rw [(e _ (by omega) (by omega)).2.2 c (by omega) (by omega) (by omega)]; exact (h.cc c hc).1, by rw [(e _ (by omega) (by omega)).1]; exact (h.cc c hc).2.1, by rw [(e _ (by omega) (by omega)).2.1]; exact (h.cc c hc).2.2⟩⟩
def ap (a b : Nat) : Prop := a + 29 ≤ b ∨ b + 29 ≤ a
def apO (x y : Option Nat) : Prop := ∀ a b, x = some a → y = some b → ap a b
def BK (T : TT) (r sz : Nat) (x : Option Nat) : Prop := ∀ b, x = some b → MT T b ∧ r + 29 ≤ b ∧ b + 29 ≤ sz
def KC (M : MM) (K : Option YA) (x : Option Nat) : Prop := (K = none ∧ x = none) ∨ ∃ A b, K = some A ∧ x = some b ∧ MN M b A
/-- the reference's objects: itself at r, what is kept, tried, one deeper, two deeper -/
def RT (T : TT) (r sz : Nat) (kp tr de dd : Option Nat) : Prop := MT T r ∧ r + 29 ≤ sz ∧ ((T r).2.2 24 = kp ∧ (T r).2.2 25 = tr ∧ (T r).2.2 26 = de) ∧ (BK T r sz kp ∧ BK T r sz tr ∧ BK T r sz de ∧ BK T r sz dd) ∧ ((∀ b, de = some b → (T b).2.2 26 = dd) ∧ (de = none → dd = none)) ∧ apO kp tr ∧ apO kp de ∧ apO kp dd ∧ apO de dd
def RX (T : TT) (M : MM) (r sz : Nat) (S : ST) : Prop := RN M r S ∧ ∃ kp tr de dd, RT T r sz kp tr de dd ∧ KC M S.K kp
theorem RX.t {T : TT} {M : MM} {r sz : Nat} {S : ST} (h : RX T M r sz S) : MT T r := by obtain ⟨-, _, _, _, _, h, -⟩ := h; exact h.1
theorem RX.n {T : TT} {M : MM} {r sz : Nat} {S : ST} (h : RX T M r sz S) : RN M r S := h.1
theorem KC.keep {M M' : MM} {K : Option YA} {x : Option Nat} (h : KC M K x) (hF : ∀ b, x = some b → ∀ a, b ≤ a → a < b + 29 → M' a = M a) : KC M' K x := by
  rcases h with h | ⟨A, b, h1, h2, h3⟩
  · exact Or.inl h
  · exact Or.inr ⟨A, b, h1, h2, h3.same (fun a j ha => by rw [hF b h2 a (by omega) (by omega)])⟩
/-- a call that makes nothing and changes the main block alone -/
theorem RX.rq {T : TT} {M M' : MM} {r sz : Nat} {S S' : ST} (h : RX T M r sz S) (hK : S'.K = S.K) (hN : RN M' r S') (hF : ∀ b, (b < r ∨ r + 29 ≤ b) → M' b = M b) : RX T M' r sz S' := by
  obtain ⟨h1, kp, tr, de, dd, h2, h3⟩ := h
  refine ⟨hN, kp, tr, de, dd, h2, ?_⟩
  rw [hK]
  exact h3.keep (fun b hb a h4 h5 => hF a (by have := (h2.2.2.2.1.1 b hb).2; omega))
/-- something changed outside the main block, away from what is kept -/
theorem RX.away {T : TT} {M M' : MM} {r sz : Nat} {S : ST} (h : RX T M r sz S) {t : Nat} (ht : r + 29 ≤ t) (hk : ∀ b, (T r).2.2 24 = some b → ap b t) (hF : ∀ a, (a < t ∨ t + 29 ≤ a) → M' a = M a) : RX T M' r sz S := by
  obtain ⟨h1, kp, tr, de, dd, h2, h3⟩ := h
  refine ⟨?_, kp, tr, de, dd, h2, h3.keep (fun b hb a h4 h5 => hF a (by have := hk b (h2.2.2.1.1.trans hb); unfold ap at this; omega))⟩
  have hm : ∀ a, r ≤ a → a < r + 29 → M' a = M a := fun a ha hb => hF a (by omega)
  obtain ⟨k2, k4, ⟨k5, k6⟩, k7⟩ := h1
  refine ⟨k2.same (fun a j h8 => by rw [hm _ (by omega) (by omega)]), fun s hs => ?_, ⟨by rw [hm _ (by omega) (by omega)]; exact k5, fun j hj => by rw [hm _ (by omega) (by omega)]; exact k6 j hj⟩, fun j hj => by rw [hm _ (by omega) (by omega)]; exact k7 j hj⟩
  rw [hm _ (by omega) (by omega), hm _ (by omega) (by omega), hm _ (by omega) (by omega), hm _ (by omega) (by omega), hm _ (by omega) (by omega)]
  exact k4 s hs
/-- what is tried -/
def TRD (T : TT) (r t : Nat) : Prop := (T r).2.2 25 = some t ∧ MT T t ∧ r + 29 ≤ t ∧ ∀ b, (T r).2.2 24 = some b → ap b t
theorem RX.trd {T : TT} {M : MM} {r sz t : Nat} {S : ST} (h : RX T M r sz S) (e : (T r).2.2 25 = some t) : TRD T r t := by
  obtain ⟨h1, kp, tr, de, dd, ⟨a1, a2, ⟨b1, b2, b3⟩, ⟨c1, c2, c3, c4⟩, d1, e1, e2, e3, e4⟩, h3⟩ := h
  have ht : tr = some t := b2.symm.trans e
  exact ⟨e, (c2 t ht).1, (c2 t ht).2.1, fun b hb => e1 b t (b1.symm.trans hb) ht⟩
theorem RX.tr {T : TT} {M M' : MM} {r sz t : Nat} {S : ST} (h : RX T M r sz S) (ht : TRD T r t) (hF : FrN t M M') : RX T M' r sz S := h.away ht.2.2.1 ht.2.2.2 (fun a ha => hF.out ha)
def RQX (r : Nat) (T : TT) (M : MM) (sz : Nat) (Q : MVal → TT → MM → Nat → Prop) (a : Int × ST) : Prop := ∀ T' M' sz', RX T' M' r sz' a.2 → (∀ b, b < r → T' b = T b ∧ M' b = M b) → Q (vI a.1) T' M' sz'
theorem RQX.to {r : Nat} {T T' : TT} {M M' : MM} {sz sz' : Nat} {Q : MVal → TT → MM → Nat → Prop} {a : Int × ST} {v : Int} {S : ST} (h : RQX r T M sz Q a) (e : a = (v, S)) (hX : RX T' M' r sz' S) (hF : ∀ b, b < r → T' b = T b ∧ M' b = M b) : Q (vI v) T' M' sz' := by subst e; exact h T' M' sz' hX hF
/-- a new block behind all: field J of a (the main one, or the deeper) holds it -/
def NB (T T' : TT) (M M' : MM) (a J sz : Nat) : Prop := MT T' sz ∧ ((T' sz).2.2 24 = none ∧ (T' sz).2.2 25 = none ∧ (T' sz).2.2 26 = none) ∧ (T' a).2.2 J = some sz ∧ (∀ b, b < sz → M' b = M b ∧ (T' b).1 = (T b).1 ∧ (T' b).2.1 = (T b).2.1 ∧ (∀ i, (b ≠ a ∨ i ≠ J) → (T' b).2.2 i = (T b).2.2 i)) ∧ ∀ b, b < sz → b ≠ a → T' b = T b
theorem NB.mt {T T' : TT} {M M' : MM} {a J sz b : Nat} (h : NB T T' M M' a J sz) (hJ : J = 24 ∨ J = 25 ∨ J = 26) (hb : MT T b) (hz : b + 29 ≤ sz) : MT T' b := hb.up (fun q h1 h2 => ⟨(h.2.2.2.1 q (by omega)).2.1, (h.2.2.2.1 q (by omega)).2.2.1, fun i h3 h4 h5 => (h.2.2.2.1 q (by omega)).2.2.2 i (Or.inr (by omega))⟩)
theorem NB.bk {T T' : TT} {M M' : MM} {a J sz r : Nat} {x : Option Nat} (h : NB T T' M M' a J sz) (hJ : J = 24 ∨ J = 25 ∨ J = 26) (hb : BK T r sz x) : BK T' r (sz + 29) x := fun b e => ⟨h.mt hJ (hb b e).1 (hb b e).2.2, (hb b e).2.1, by have := (hb b e).2.2; omega⟩
theorem NB.bn {T T' : TT} {M M' : MM} {a J sz r : Nat} (h : NB T T' M M' a J sz) (hr : r + 29 ≤ sz) : BK T' r (sz + 29) (some sz) := fun b e => by cases e; exact ⟨h.1, hr, Nat.le_refl _⟩
theorem BK.ap {T : TT} {r sz : Nat} {x : Option Nat} (h : BK T r sz x) : apO x (some sz) := fun a b e1 e2 => by cases e2; exact Or.inl (h a e1).2.2
theorem apO.sy {x y : Option Nat} (h : apO x y) : apO y x := fun a b e1 e2 => (h b a e2 e1).symm
theorem NB.rn {T T' : TT} {M M' : MM} {a J sz r : Nat} {S : ST} (h : NB T T' M M' a J sz) (hr : r + 29 ≤ sz) (hN : RN M r S) : RN M' r S := by
  have hm : ∀ b, b < sz → M' b = M b := fun b hb => (h.2.2.2.1 b hb).1
  obtain ⟨k2, k4, ⟨k5, k6⟩, k7⟩ := hN
  refine ⟨k2.same (fun a j h8 => by rw [hm _ (by omega)]), fun s hs => ?_, ⟨by rw [hm _ (by omega)]; exact k5, fun j hj => by rw [hm _ (by omega)]; exact k6 j hj⟩, fun j hj => by rw [hm _ (by omega)]; exact k7 j hj⟩
  rw [hm _ (by omega), hm _ (by omega), hm _ (by omega), hm _ (by omega), hm _ (by omega)]
  exact k4 s hs
theorem NB.kc {T T' : TT} {M M' : MM} {a J sz r : Nat} {K : Option YA} {x : Option Nat} (h : NB T T' M M' a J sz) (hb : BK T r sz x) (hK : KC M K x) : KC M' K x := hK.keep (fun b e q h1 h2 => (h.2.2.2.1 q (by have := (hb b e).2.2; omega)).1)
/-- the tried one is made -/
theorem NB.tried {T T' : TT} {M M' : MM} {r sz : Nat} {S : ST} (h : NB T T' M M' r 25 sz) (hX : RX T M r sz S) : RX T' M' r (sz + 29) S := by
  obtain ⟨h1, kp, tr, de, dd, ⟨a1, a2, ⟨b1, b2, b3⟩, ⟨c1, c2, c3, c4⟩, ⟨d1, d2⟩, e1, e2, e3, e4⟩, h3⟩ := hX
  have hJ : (25 : Nat) = 24 ∨ (25 : Nat) = 25 ∨ (25 : Nat) = 26 := by decide
  refine ⟨h.rn a2 h1, kp, some sz, de, dd, ⟨h.mt hJ a1 a2, by omega, ⟨?_, h.2.2.1, ?_⟩, ⟨h.bk hJ c1, h.bn a2, h.bk hJ c3, h.bk hJ c4⟩, ⟨fun b e => ?_, d2⟩, c1.ap, e2, e3, e4⟩, h.kc c1 h3⟩
  · rw [(h.2.2.2.1 r (by omega)).2.2.2 24 (Or.inr (by decide))]; exact b1
  · rw [(h.2.2.2.1 r (by omega)).2.2.2 26 (Or.inr (by decide))]; exact b3
  · rw [(h.2.2.2.1 b (by have := (c3 b e).2.2; omega)).2.2.2 26 (Or.inr (by decide))]; exact d1 b e
theorem NB.lo {T T' : TT} {M M' : MM} {r J sz : Nat} (h : NB T T' M M' r J sz) (hr : r < sz) : ∀ b, b < r → T' b = T b ∧ M' b = M b := fun b hb => ⟨h.2.2.2.2 b (by omega) (by omega), (h.2.2.2.1 b (by omega)).1⟩
theorem nb_X7_fresh {g : WG} {d : Nat} {T : TT} {M : MM} {a sz nc ns : Nat} {x : CX} {uu : MVal} (hx : OKx g x RX7 cX7_fresh (d + 2)) (hk : (T a).1 = 7) (ha : a < sz)
    (k : ∀ T' M', NB T T' M M' a 25 sz → Jd g x 18 [vR a] [] T' M' (sz + 29) nc ns) : Jd g x 7 [vR a] [] T M sz (29 + nc) (777 + ns) := by
  refine J_aload_n hx dX7_fresh_7 (i := 0) rfl rfl ?_
  refine J_new (N := 38) (nc' := 28 + nc) (ns' := 739 + ns) hx cl_X7 ⟨_, rfl, rfl, rfl⟩ cl_X7_8 (by decide +kernel) dX7_fresh_8 (by decide) (by omega) (by omega) ?_
  refine J_dup hx dX7_fresh_11 rfl ?_
  refine J_invI (As := []) (st := [vR sz, vR a]) (mc := 28) (ms := 739) (nc' := nc) (ns' := ns) hx lk_X7_303 okX7_init dX7_fresh_12 rfl rfl (Nat.le_of_ble_eq_true rfl) rfl rfl rfl (c_X7_init (r := sz) (by rw [newT_at]) (fun j => by rw [newT_at]) (fun j => newM_at) ?_)
  intro T1 M1 h0 hl
  have hk1 : (T1 a).1 = 7 := by rw [(hl a ha).1, newT_ne (by omega)]; exact hk
  refine J_putR hx fl_X7_299 cl_X7 dX7_fresh_15 hk1 (by decide) rfl ⟨rfl, rfl⟩ (by decide) ?_
  refine k _ M1 ⟨h0.1.up (fun q h1 h2 => ⟨upT_k, upT_n, fun i h3 h4 h5 => by rw [upT_ne (by omega)]⟩), ⟨?_, ?_, ?_⟩, upT_r_at, fun b hb => ⟨?_, ?_, ?_, fun i hi => ?_⟩, fun b hb hne => ?_⟩
  · rw [upT_ne (by omega)]; exact h0.2.1.1
  · rw [upT_ne (by omega)]; exact h0.2.1.2.1
  · rw [upT_ne (by omega)]; exact h0.2.1.2.2
  · rw [(hl b hb).2, newM_ne (by omega)]
  · rw [upT_k, (hl b hb).1, newT_ne (by omega)]
  · rw [upT_n, (hl b hb).1, newT_ne (by omega)]
  · rw [upT_r_ne hi, (hl b hb).1, newT_ne (by omega)]
  · rw [upT_ne hne, (hl b hb).1, newT_ne (by omega)]
theorem nb_X7_image {g : WG} {d : Nat} {T : TT} {M : MM} {a sz nc ns : Nat} {x : CX} {uu : MVal} (hx : OKx g x RX7 cX7_image (d + 2)) (hk : (T a).1 = 7) (ha : a < sz)
    (k : ∀ T' M', NB T T' M M' a 24 sz → Jd g x 18 [vR a] [] T' M' (sz + 29) nc ns) : Jd g x 7 [vR a] [] T M sz (29 + nc) (777 + ns) := by
  refine J_aload_n hx dX7_image_7 (i := 0) rfl rfl ?_
  refine J_new (N := 38) (nc' := 28 + nc) (ns' := 739 + ns) hx cl_X7 ⟨_, rfl, rfl, rfl⟩ cl_X7_8 (by decide +kernel) dX7_image_8 (by decide) (by omega) (by omega) ?_
  refine J_dup hx dX7_image_11 rfl ?_
  refine J_invI (As := []) (st := [vR sz, vR a]) (mc := 28) (ms := 739) (nc' := nc) (ns' := ns) hx lk_X7_303 okX7_init dX7_image_12 rfl rfl (Nat.le_of_ble_eq_true rfl) rfl rfl rfl (c_X7_init (r := sz) (by rw [newT_at]) (fun j => by rw [newT_at]) (fun j => newM_at) ?_)
  intro T1 M1 h0 hl
  have hk1 : (T1 a).1 = 7 := by rw [(hl a ha).1, newT_ne (by omega)]; exact hk
  refine J_putR hx fl_X7_364 cl_X7 dX7_image_15 hk1 (by decide) rfl ⟨rfl, rfl⟩ (by decide) ?_
  refine k _ M1 ⟨h0.1.up (fun q h1 h2 => ⟨upT_k, upT_n, fun i h3 h4 h5 => by rw [upT_ne (by omega)]⟩), ⟨?_, ?_, ?_⟩, upT_r_at, fun b hb => ⟨?_, ?_, ?_, fun i hi => ?_⟩, fun b hb hne => ?_⟩
  · rw [upT_ne (by omega)]; exact h0.2.1.1
  · rw [upT_ne (by omega)]; exact h0.2.1.2.1
  · rw [upT_ne (by omega)]; exact h0.2.1.2.2
  · rw [(hl b hb).2, newM_ne (by omega)]
  · rw [upT_k, (hl b hb).1, newT_ne (by omega)]
  · rw [upT_n, (hl b hb).1, newT_ne (by omega)]
  · rw [upT_r_ne hi, (hl b hb).1, newT_ne (by omega)]
  · rw [upT_ne hne, (hl b hb).1, newT_ne (by omega)]
theorem nb_X7_gameOf {g : WG} {d : Nat} {T : TT} {M : MM} {a sz nc ns : Nat} {x : CX} {u1 u2 u3 u4 u5 : MVal} (hx : OKx g x RX7 cX7_gameOf (d + 2)) (hk : (T a).1 = 7) (ha : a < sz)
    (k : ∀ T' M', NB T T' M M' a 26 sz → Jd g x 51 [vR a, u1, u2, u3, u4, u5] [] T' M' (sz + 29) nc ns) : Jd g x 40 [vR a, u1, u2, u3, u4, u5] [] T M sz (29 + nc) (777 + ns) := by
  refine J_aload_n hx dX7_gameOf_40 (i := 0) rfl rfl ?_
  refine J_new (N := 38) (nc' := 28 + nc) (ns' := 739 + ns) hx cl_X7 ⟨_, rfl, rfl, rfl⟩ cl_X7_8 (by decide +kernel) dX7_gameOf_41 (by decide) (by omega) (by omega) ?_
  refine J_dup hx dX7_gameOf_44 rfl ?_
  refine J_invI (As := []) (st := [vR sz, vR a]) (mc := 28) (ms := 739) (nc' := nc) (ns' := ns) hx lk_X7_303 okX7_init dX7_gameOf_45 rfl rfl (Nat.le_of_ble_eq_true rfl) rfl rfl rfl (c_X7_init (r := sz) (by rw [newT_at]) (fun j => by rw [newT_at]) (fun j => newM_at) ?_)
  intro T1 M1 h0 hl
  have hk1 : (T1 a).1 = 7 := by rw [(hl a ha).1, newT_ne (by omega)]; exact hk
  refine J_putR hx fl_X7_324 cl_X7 dX7_gameOf_48 hk1 (by decide) rfl ⟨rfl, rfl⟩ (by decide) ?_
  refine k _ M1 ⟨h0.1.up (fun q h1 h2 => ⟨upT_k, upT_n, fun i h3 h4 h5 => by rw [upT_ne (by omega)]⟩), ⟨?_, ?_, ?_⟩, upT_r_at, fun b hb => ⟨?_, ?_, ?_, fun i hi => ?_⟩, fun b hb hne => ?_⟩
  · rw [upT_ne (by omega)]; exact h0.2.1.1
  · rw [upT_ne (by omega)]; exact h0.2.1.2.1
  · rw [upT_ne (by omega)]; exact h0.2.1.2.2
  · rw [(hl b hb).2, newM_ne (by omega)]
  · rw [upT_k, (hl b hb).1, newT_ne (by omega)]
  · rw [upT_n, (hl b hb).1, newT_ne (by omega)]
  · rw [upT_r_ne hi, (hl b hb).1, newT_ne (by omega)]
  · rw [upT_ne hne, (hl b hb).1, newT_ne (by omega)]
theorem t_X7_fresh {g : WG} {d : Nat} {T : TT} {M : MM} {r sz : Nat} {S : ST} {Q : MVal → TT → MM → Nat → Prop} {x : CX} {t : Nat} (hx : OKx g x RX7 cX7_fresh (d + 3)) (hr : RTx g x (some (.object RX7)) Q) (hX : RX T M r sz S) (hW : WFS S) (ht : TRD T r t)
    (hQ : ∀ M', RX T M' r sz S → MN M' t S.1 → (∀ b, b < r → M' b = M b) → Q (vR t) T M' sz) : Jd g x 18 [vR r] [] T M sz 0 0 := by
  refine J_aload_n hx dX7_fresh_18 (i := 0) rfl rfl ?_
  refine J_getR (b := t) hx fl_X7_299 cl_X7 dX7_fresh_19 hX.t.o (by decide) rfl ht.1 ?_
  refine J_aload_n hx dX7_fresh_22 (i := 0) rfl rfl ?_
  refine J_invVv (As := [vR r]) (st := []) hx lk_X7_257 okX7_takeFrom dX7_fresh_23 ht.2.1.o (by decide) rfl rfl rfl (Nat.le_of_ble_eq_true rfl) (Nat.zero_add _).symm (Nat.zero_add _).symm rfl (c_X7_takeFrom ht.2.1 hX.t hX.n.y hW.y (by have := ht.2.2.1; omega) ?_)
  intro M1 hN1 hF1
  refine J_aload_n hx dX7_fresh_26 (i := 0) rfl rfl ?_
  refine J_getR (b := t) hx fl_X7_299 cl_X7 dX7_fresh_27 hX.t.o (by decide) rfl ht.1 ?_
  refine J_aret hx hr dX7_fresh_30 ?_
  exact hQ M1 (hX.tr ht hF1) hN1 (fun b hb => hF1.out (by have := ht.2.2.1; omega))
theorem c_X7_fresh {g : WG} {d : Nat} {T : TT} {M : MM} {r sz : Nat} {S : ST} {Q : MVal → TT → MM → Nat → Prop} (hX : RX T M r sz S) (hW : WFS S) (hQ : ∀ T' M' sz' t, RX T' M' r sz' S → TRD T' r t → MN M' t S.1 → (∀ b, b < r → T' b = T b ∧ M' b = M b) → Q (vR t) T' M' sz') : Ct g (d + 3) mX7_fresh [vR r] T M sz 29 777 Q := by
  refine Ct_of2 (ls := [vR r]) okX7_fresh rfl (Nat.le_of_ble_eq_true rfl) rfl ?_
  intro x hx hr hnm
  refine J_aload_n hx dX7_fresh_0 (i := 0) rfl rfl ?_
  refine J_getN (r := (T r).2.2 25) hx fl_X7_299 cl_X7 dX7_fresh_1 hX.t.o (by decide) rfl rfl ?_
  refine J_ifnonnull (tgt := 18) hx dX7_fresh_4 (by decide) (fun t ht => ?_) (fun _ => ?_)
  · exact J_weak (t_X7_fresh hx hr hX hW (hX.trd ht) (fun M1 h1 h2 h3 => hQ T M1 sz t h1 (h1.trd ht) h2 (fun b hb => ⟨rfl, h3 b hb⟩))) (by decide) (by decide)
  · have hsz : r + 29 ≤ sz := by obtain ⟨-, _, _, _, _, h, -⟩ := hX; exact h.2.1
    refine nb_X7_fresh (uu := vU) (nc := 0) (ns := 0) hx hX.t.o (by omega) (fun T1 M1 hB => ?_)
    have hX1 := hB.tried hX
    exact t_X7_fresh hx hr hX1 hW (hX1.trd hB.2.2.1) (fun M2 h1 h2 h3 => hQ T1 M2 (sz + 29) sz h1 (h1.trd hB.2.2.1) h2 (fun b hb => ⟨(hB.lo (by omega) b hb).1, by rw [h3 b hb, (hB.lo (by omega) b hb).2]⟩))
