def RXg (T : TT) (M : MM) (r sz : Nat) (S : ST) (b : Nat) (dd : Option Nat) : Prop := RN M r S ∧ ∃ kp tr, RT T r sz kp tr (some b) dd ∧ KC M S.K kp
theorem RXg.x {T : TT} {M : MM} {r sz : Nat} {S : ST} {b : Nat} {dd : Option Nat} (h : RXg T M r sz S b dd) : RX T M r sz S := by
  obtain ⟨h1, kp, tr, h2, h3⟩ := h; exact ⟨h1, kp, tr, some b, dd, h2, h3⟩
theorem RX.g {T : TT} {M : MM} {r sz : Nat} {S : ST} {b : Nat} (h : RX T M r sz S) (e : (T r).2.2 26 = some b) : ∃ dd, RXg T M r sz S b dd := by
  obtain ⟨h1, kp, tr, de, dd, h2, h3⟩ := h
  have : de = some b := h2.2.2.1.2.2.symm.trans e
  subst this
  exact ⟨dd, h1, kp, tr, h2, h3⟩
theorem RXg.t {T : TT} {M : MM} {r sz : Nat} {S : ST} {b : Nat} {dd : Option Nat} (h : RXg T M r sz S b dd) : MT T r := h.x.t
theorem RXg.n {T : TT} {M : MM} {r sz : Nat} {S : ST} {b : Nat} {dd : Option Nat} (h : RXg T M r sz S b dd) : RN M r S := h.1
theorem RXg.b {T : TT} {M : MM} {r sz : Nat} {S : ST} {b : Nat} {dd : Option Nat} (h : RXg T M r sz S b dd) : MT T b ∧ r + 29 ≤ b ∧ b + 29 ≤ sz ∧ (T r).2.2 26 = some b ∧ (T b).2.2 26 = dd := by
  obtain ⟨-, kp, tr, h2, -⟩ := h
  exact ⟨(h2.2.2.2.1.2.2.1 b rfl).1, (h2.2.2.2.1.2.2.1 b rfl).2.1, (h2.2.2.2.1.2.2.1 b rfl).2.2, h2.2.2.1.2.2, h2.2.2.2.2.1.1 b rfl⟩
theorem RXg.c {T : TT} {M : MM} {r sz : Nat} {S : ST} {b c : Nat} (h : RXg T M r sz S b (some c)) : MT T c ∧ r + 29 ≤ c ∧ c + 29 ≤ sz ∧ ap b c := by
  obtain ⟨-, kp, tr, h2, -⟩ := h
  exact ⟨(h2.2.2.2.1.2.2.2 c rfl).1, (h2.2.2.2.1.2.2.2 c rfl).2.1, (h2.2.2.2.1.2.2.2 c rfl).2.2, h2.2.2.2.2.2.2.2.2 b c rfl rfl⟩
/-- what a look ahead may change -/
def FrD (r b : Nat) (dd : Option Nat) (M M' : MM) : Prop := ∀ q j, ¬ (b ≤ q ∧ q < b + 29) → (∀ c, dd = some c → ¬ (c ≤ q ∧ q < c + 29)) → ¬ (q = r ∧ j = 37) → M' q j = M q j
theorem RXg.fr {T : TT} {M M' : MM} {r sz : Nat} {S : ST} {b : Nat} {dd : Option Nat} (h : RXg T M r sz S b dd) (hF : FrD r b dd M M') : RXg T M' r sz S b dd := by
  have hb := h.b
  have hc : ∀ c, dd = some c → r + 29 ≤ c := fun c e => by subst e; exact h.c.2.1
  obtain ⟨h1, kp, tr, h2, h3⟩ := h
  refine ⟨?_, kp, tr, h2, h3.keep (fun k hk a h4 h5 => funext fun j => hF a j ?_ ?_ ?_)⟩
  · have hm : ∀ a j, r ≤ a → a < r + 29 → ¬ (a = r ∧ j = 37) → M' a j = M a j := fun a j ha hb2 hn => hF a j (by omega) (fun c e => by have := hc c e; omega) hn
    obtain ⟨k2, k4, ⟨k5, k6⟩, k7⟩ := h1
    refine ⟨k2.same (fun a j h8 => hm _ _ (by omega) (by omega) (by omega)), fun s hs => ?_, ⟨by rw [hm _ _ (by omega) (by omega) (by omega)]; exact k5, fun j hj => by rw [hm _ _ (by omega) (by omega) (by omega)]; exact k6 j hj⟩, fun j hj => by rw [hm _ _ (by omega) (by omega) (by omega)]; exact k7 j hj⟩
    obtain ⟨l1, l2, l3⟩ := k4 s hs
    refine ⟨by rw [hm _ _ (by omega) (by omega) (by omega)]; exact l1, fun hr => ⟨by rw [hm _ _ (by omega) (by omega) (by omega)]; exact (l2 hr).1, by rw [hm _ _ (by omega) (by omega) (by omega)]; exact (l2 hr).2.1, fun j hj => by rw [hm _ _ (by omega) (by omega) (by omega)]; exact (l2 hr).2.2 j hj⟩, fun hr => by rw [hm _ _ (by omega) (by omega) (by omega)]; exact l3 hr⟩
  · have := h2.2.2.2.2.2.2.1 k b hk rfl; unfold ap at this; omega
  · intro c e; have := h2.2.2.2.2.2.2.2.1 k c hk e; unfold ap at this; omega
  · have := (h2.2.2.2.1.1 k hk).2.1; omega
theorem RXg.lo {T : TT} {M M' : MM} {r sz : Nat} {S : ST} {b : Nat} {dd : Option Nat} (h : RXg T M r sz S b dd) (hF : FrD r b dd M M') : ∀ q, q < r → M' q = M q := fun q hq => funext fun j => hF q j (by have := h.b; omega) (fun c e => by subst e; have := h.c; omega) (by omega)
theorem FrD.n {r b : Nat} {dd : Option Nat} {M M' : MM} (h : FrN b M M') : FrD r b dd M M' := fun q j h1 _ _ => h q j (by omega) (by omega)
theorem MN.far {M M' : MM} {r c : Nat} {A : YA} (h : MN M r A) (hF : ∀ q, (q < c ∨ c + 29 ≤ q) → M' q = M q) (ha : ap r c) : MN M' r A := h.same (fun a j hh => by rw [hF a (by unfold ap at ha; omega)])
theorem NB.deeper {T T' : TT} {M M' : MM} {r sz : Nat} {S : ST} (h : NB T T' M M' r 26 sz) (hX : RX T M r sz S) (e : (T r).2.2 26 = none) : RXg T' M' r (sz + 29) S sz none := by
  obtain ⟨h1, kp, tr, de, dd, ⟨a1, a2, ⟨b1, b2, b3⟩, ⟨c1, c2, c3, c4⟩, ⟨d1, d2⟩, e1, e2, e3, e4⟩, h3⟩ := hX
  have hJ : (26 : Nat) = 24 ∨ (26 : Nat) = 25 ∨ (26 : Nat) = 26 := by decide
  refine ⟨h.rn a2 h1, kp, tr, ⟨h.mt hJ a1 a2, by omega, ⟨?_, ?_, h.2.2.1⟩, ⟨h.bk hJ c1, h.bk hJ c2, h.bn a2, fun b e => by cases e⟩, ⟨fun b e => ?_, fun _ => rfl⟩, e1, c1.ap, fun a b _ e => (by cases e), fun a b _ e => (by cases e)⟩, h.kc c1 h3⟩
  · rw [(h.2.2.2.1 r (by omega)).2.2.2 24 (Or.inr (by decide))]; exact b1
  · rw [(h.2.2.2.1 r (by omega)).2.2.2 25 (Or.inr (by decide))]; exact b2
  · cases e; exact h.2.1.2.2
theorem NB.deep2 {T T' : TT} {M M' : MM} {r sz b : Nat} {S : ST} (h : NB T T' M M' b 26 sz) (hX : RXg T M r sz S b none) : RXg T' M' r (sz + 29) S b (some sz) := by
  have hb := hX.b
  obtain ⟨h1, kp, tr, ⟨a1, a2, ⟨b1, b2, b3⟩, ⟨c1, c2, c3, c4⟩, ⟨d1, d2⟩, e1, e2, e3, e4⟩, h3⟩ := hX
  have hJ : (26 : Nat) = 24 ∨ (26 : Nat) = 25 ∨ (26 : Nat) = 26 := by decide
  have hr : T' r = T r := h.2.2.2.2 r (by omega) (by omega)
  refine ⟨h.rn a2 h1, kp, tr, ⟨h.mt hJ a1 a2, by omega, ⟨by rw [hr]; exact b1, by rw [hr]; exact b2, by rw [hr]; exact b3⟩, ⟨h.bk hJ c1, h.bk hJ c2, h.bk hJ c3, h.bn a2⟩, ⟨fun b9 e => ?_, fun q => by cases q⟩, e1, e2, c1.ap, c3.ap⟩, h.kc c1 h3⟩
  cases e; exact h.2.2.1
theorem NB.lo2 {T T' : TT} {M M' : MM} {r b sz : Nat} (h : NB T T' M M' b 26 sz) (hr : r < sz) (hb : r < b) : ∀ q, q < r → T' q = T q ∧ M' q = M q := fun q hq => ⟨h.2.2.2.2 q (by omega) (by omega), (h.2.2.2.1 q (by omega)).1⟩
set_option maxHeartbeats 4000000 in
theorem c_X7_gameOf_0 {g : WG} {d : Nat} {T : TT} {M : MM} {r sz : Nat} {A : YA} {Q : MVal → TT → MM → Nat → Prop} (hT : MT T r) (hN : MN M r A) (hW : WFY A) (hQ : Q (vI (gmV 0 A)) T M sz) : Ct g (d + 2) mX7_gameOf [vR (r), vI (0)] T M sz 0 0 Q := by
  refine Ct_of2 (ls := [vR (r), vI (0), vU, vU, vU, vU]) okX7_gameOf rfl (Nat.le_of_ble_eq_true rfl) rfl ?_
  intro x hx hr hnm
  have hn8 := hW.n8
  have ht2 := hW.tn2
  have hl8 := hW.len8 ht2
  refine J_iload_n hx dX7_gameOf_0 (i := 1) rfl rfl ?_
  refine J_if_eq (tgt := 11) hx dX7_gameOf_1 (by decide) (fun _ => ?_) (fun c9 => absurd c9 (by decide))
  refine J_aload_n hx dX7_gameOf_11 (i := 0) rfl rfl ?_
  refine J_getR (b := r + 25) hx fl_X7_57 cl_X7 dX7_gameOf_12 hT.o (by decide) rfl hT.r16 ?_
  refine J_aload_n hx dX7_gameOf_15 (i := 0) rfl rfl ?_
  refine J_getI2 (v := ((A.tn : Nat) : Int)) hx fl_X7_148 cl_X7 dX7_gameOf_16 hT.o (by decide) rfl (hN.tn hW) ?_
  have rg2 := hW.tn2
  refine J_iald2 (v := (((A.ch A.tn).length : Nat) : Int)) hx A.tn dX7_gameOf_19 hT.k25 (by omega) (hT.l25 (by omega)) (hN.sz (by omega)) ?_
  have rg3 := hW.len8 (c := A.tn) (by omega)
  have rg4 := hW.lenN (c := A.tn) (by omega)
  refine J_aload_n hx dX7_gameOf_20 (i := 0) rfl rfl ?_
  refine J_getR (b := r + 25) hx fl_X7_57 cl_X7 dX7_gameOf_21 hT.o (by decide) rfl hT.r16 ?_
  refine J_iconst (v := 1) hx dX7_gameOf_24 (by decide) ?_
  refine J_aload_n hx dX7_gameOf_25 (i := 0) rfl rfl ?_
  refine J_getI2 (v := ((A.tn : Nat) : Int)) hx fl_X7_148 cl_X7 dX7_gameOf_26 hT.o (by decide) rfl (hN.tn hW) ?_
  have rg5 := hW.tn2
  refine J_isub (v := ((1 - A.tn : Nat) : Int)) hx dX7_gameOf_29 (by rw [w32_id (by omega) (by omega)]; omega) ?_
  refine J_iald2 (v := (((A.ch (1 - A.tn)).length : Nat) : Int)) hx (1 - A.tn) dX7_gameOf_30 hT.k25 (by omega) (hT.l25 (by omega)) (hN.sz (by omega)) ?_
  have rg6 := hW.len8 (c := 1 - A.tn) (by omega)
  have rg7 := hW.lenN (c := 1 - A.tn) (by omega)
  refine J_isub (v := (((A.ch A.tn).length : Nat) : Int) - (((A.ch (1 - A.tn)).length : Nat) : Int)) hx dX7_gameOf_31 (w32_id (by omega) (by omega)) ?_
  refine J_iret hx hr dX7_gameOf_32 ?_
  exact hQ

set_option maxHeartbeats 4000000 in
theorem c_X7_gameOf_1o {g : WG} {d : Nat} {T : TT} {M : MM} {r sz : Nat} {A : YA} {Q : MVal → TT → MM → Nat → Prop} (hT : MT T r) (hN : MN M r A) (hW : WFY A) (hov : overY A) (hQ : Q (vI (gmV 1 A)) T M sz) : Ct g (d + 2) mX7_gameOf [vR (r), vI (1)] T M sz 0 0 Q := by
  refine Ct_of2 (ls := [vR (r), vI (1), vU, vU, vU, vU]) okX7_gameOf rfl (Nat.le_of_ble_eq_true rfl) rfl ?_
  intro x hx hr hnm
  have hn8 := hW.n8
  have ht2 := hW.tn2
  have hl8 := hW.len8 ht2
  refine J_iload_n hx dX7_gameOf_0 (i := 1) rfl rfl ?_
  refine J_if_eq (tgt := 11) hx dX7_gameOf_1 (by decide) (fun c9 => absurd c9 (by decide)) (fun _ => ?_)
  refine J_aload_n hx dX7_gameOf_4 (i := 0) rfl rfl ?_
  refine J_invV (As := []) (st := []) hx lk_X7_208 okX7_isOver dX7_gameOf_5 hT.o (by decide) rfl rfl rfl (Nat.le_of_ble_eq_true rfl) (Nat.zero_add _).symm (Nat.zero_add _).symm rfl (c_X7_isOver hT hN hW  ?_)
  intro v2 hv2
  refine J_if_eq (tgt := 33) hx dX7_gameOf_8 (by decide) (fun c3 => ?_) (fun c3 => ?_)
  · exfalso; unfold overY at *; omega
  · refine J_aload_n hx dX7_gameOf_11 (i := 0) rfl rfl ?_
    refine J_getR (b := r + 25) hx fl_X7_57 cl_X7 dX7_gameOf_12 hT.o (by decide) rfl hT.r16 ?_
    refine J_aload_n hx dX7_gameOf_15 (i := 0) rfl rfl ?_
    refine J_getI2 (v := ((A.tn : Nat) : Int)) hx fl_X7_148 cl_X7 dX7_gameOf_16 hT.o (by decide) rfl (hN.tn hW) ?_
    have rg4 := hW.tn2
    refine J_iald2 (v := (((A.ch A.tn).length : Nat) : Int)) hx A.tn dX7_gameOf_19 hT.k25 (by omega) (hT.l25 (by omega)) (hN.sz (by omega)) ?_
    have rg5 := hW.len8 (c := A.tn) (by omega)
    have rg6 := hW.lenN (c := A.tn) (by omega)
    refine J_aload_n hx dX7_gameOf_20 (i := 0) rfl rfl ?_
    refine J_getR (b := r + 25) hx fl_X7_57 cl_X7 dX7_gameOf_21 hT.o (by decide) rfl hT.r16 ?_
    refine J_iconst (v := 1) hx dX7_gameOf_24 (by decide) ?_
    refine J_aload_n hx dX7_gameOf_25 (i := 0) rfl rfl ?_
    refine J_getI2 (v := ((A.tn : Nat) : Int)) hx fl_X7_148 cl_X7 dX7_gameOf_26 hT.o (by decide) rfl (hN.tn hW) ?_
    have rg7 := hW.tn2
    refine J_isub (v := ((1 - A.tn : Nat) : Int)) hx dX7_gameOf_29 (by rw [w32_id (by omega) (by omega)]; omega) ?_
    refine J_iald2 (v := (((A.ch (1 - A.tn)).length : Nat) : Int)) hx (1 - A.tn) dX7_gameOf_30 hT.k25 (by omega) (hT.l25 (by omega)) (hN.sz (by omega)) ?_
    have rg8 := hW.len8 (c := 1 - A.tn) (by omega)
    have rg9 := hW.lenN (c := 1 - A.tn) (by omega)
    refine J_isub (v := (((A.ch A.tn).length : Nat) : Int) - (((A.ch (1 - A.tn)).length : Nat) : Int)) hx dX7_gameOf_31 (w32_id (by omega) (by omega)) ?_
    refine J_iret hx hr dX7_gameOf_32 ?_
    rw [gmV_o hov] at hQ
    exact hQ

set_option maxHeartbeats 4000000 in
theorem c_X7_gameOf_2o {g : WG} {d : Nat} {T : TT} {M : MM} {r sz : Nat} {A : YA} {Q : MVal → TT → MM → Nat → Prop} (hT : MT T r) (hN : MN M r A) (hW : WFY A) (hov : overY A) (hQ : Q (vI (gmV 2 A)) T M sz) : Ct g (d + 2) mX7_gameOf [vR (r), vI (2)] T M sz 0 0 Q := by
  refine Ct_of2 (ls := [vR (r), vI (2), vU, vU, vU, vU]) okX7_gameOf rfl (Nat.le_of_ble_eq_true rfl) rfl ?_
  intro x hx hr hnm
  have hn8 := hW.n8
  have ht2 := hW.tn2
  have hl8 := hW.len8 ht2
  refine J_iload_n hx dX7_gameOf_0 (i := 1) rfl rfl ?_
  refine J_if_eq (tgt := 11) hx dX7_gameOf_1 (by decide) (fun c9 => absurd c9 (by decide)) (fun _ => ?_)
  refine J_aload_n hx dX7_gameOf_4 (i := 0) rfl rfl ?_
  refine J_invV (As := []) (st := []) hx lk_X7_208 okX7_isOver dX7_gameOf_5 hT.o (by decide) rfl rfl rfl (Nat.le_of_ble_eq_true rfl) (Nat.zero_add _).symm (Nat.zero_add _).symm rfl (c_X7_isOver hT hN hW  ?_)
  intro v2 hv2
  refine J_if_eq (tgt := 33) hx dX7_gameOf_8 (by decide) (fun c3 => ?_) (fun c3 => ?_)
  · exfalso; unfold overY at *; omega
  · refine J_aload_n hx dX7_gameOf_11 (i := 0) rfl rfl ?_
    refine J_getR (b := r + 25) hx fl_X7_57 cl_X7 dX7_gameOf_12 hT.o (by decide) rfl hT.r16 ?_
    refine J_aload_n hx dX7_gameOf_15 (i := 0) rfl rfl ?_
    refine J_getI2 (v := ((A.tn : Nat) : Int)) hx fl_X7_148 cl_X7 dX7_gameOf_16 hT.o (by decide) rfl (hN.tn hW) ?_
    have rg4 := hW.tn2
    refine J_iald2 (v := (((A.ch A.tn).length : Nat) : Int)) hx A.tn dX7_gameOf_19 hT.k25 (by omega) (hT.l25 (by omega)) (hN.sz (by omega)) ?_
    have rg5 := hW.len8 (c := A.tn) (by omega)
    have rg6 := hW.lenN (c := A.tn) (by omega)
    refine J_aload_n hx dX7_gameOf_20 (i := 0) rfl rfl ?_
    refine J_getR (b := r + 25) hx fl_X7_57 cl_X7 dX7_gameOf_21 hT.o (by decide) rfl hT.r16 ?_
    refine J_iconst (v := 1) hx dX7_gameOf_24 (by decide) ?_
    refine J_aload_n hx dX7_gameOf_25 (i := 0) rfl rfl ?_
    refine J_getI2 (v := ((A.tn : Nat) : Int)) hx fl_X7_148 cl_X7 dX7_gameOf_26 hT.o (by decide) rfl (hN.tn hW) ?_
    have rg7 := hW.tn2
    refine J_isub (v := ((1 - A.tn : Nat) : Int)) hx dX7_gameOf_29 (by rw [w32_id (by omega) (by omega)]; omega) ?_
    refine J_iald2 (v := (((A.ch (1 - A.tn)).length : Nat) : Int)) hx (1 - A.tn) dX7_gameOf_30 hT.k25 (by omega) (hT.l25 (by omega)) (hN.sz (by omega)) ?_
    have rg8 := hW.len8 (c := 1 - A.tn) (by omega)
    have rg9 := hW.lenN (c := 1 - A.tn) (by omega)
    refine J_isub (v := (((A.ch A.tn).length : Nat) : Int) - (((A.ch (1 - A.tn)).length : Nat) : Int)) hx dX7_gameOf_31 (w32_id (by omega) (by omega)) ?_
    refine J_iret hx hr dX7_gameOf_32 ?_
    rw [gmV_o hov] at hQ
    exact hQ

set_option maxHeartbeats 4000000 in
theorem lp_X7_leastBy_1 {g : WG} {d : Nat} {T : TT} {M : MM} {r sz : Nat} {A : YA} {Q : MVal → TT → MM → Nat → Prop} (hT : MT T r) (hN : MN M r A) (hW : WFY A) {c : Nat} (hTc : MT T c) (hd : (T r).2.2 26 = some c) (hap : ap r c) {x : CX} (hx : OKx g x RX7 cX7_leastBy (d + 3)) (hr : RTx g x (some .int) Q) {p : Nat} (hp : p < A.n) (hc : A.co p ≠ A.tn) (ho : ¬ overY A) (hQ : ∀ M', (∀ q, (q < c ∨ c + 29 ≤ q) → M' q = M q) → Q (vI (lbP (gmV 0) A p)) T M' sz) (j : Nat) (le an : Int) (u6 u7 u8 : MVal) (M1 : MM) (hY1 : MN M1 r A) (hG1 : ∀ q, (q < c ∨ c + 29 ≤ q) → M1 q = M q) (hj : j + 1 ≤ (A.ch A.tn).length) (hs : (j = 0 ∧ an = 0) ∨ (1 ≤ j ∧ an = 1 ∧ le = lbJ (jtV (gmV 0) A p) j)) : Jd g x 8 [vR (r), vI (((p : Nat) : Int)), vI (1), vI (le), vI (an), vI (((j : Nat) : Int)), u6, u7, u8] [] T M1 sz 0 0 := by
  have hn8 := hW.n8
  have ht2 := hW.tn2
  have hl8 := hW.len8 ht2
  have hnv := not_over2 hW ho
  have rgf := force_rg hW hp
  refine J_iload hx dX7_leastBy_8 rfl ?_
  refine J_aload_n hx dX7_leastBy_10 (i := 0) rfl rfl ?_
  refine J_getR (b := r + 25) hx fl_X7_57 cl_X7 dX7_leastBy_11 hT.o (by decide) rfl hT.r16 ?_
  refine J_aload_n hx dX7_leastBy_14 (i := 0) rfl rfl ?_
  refine J_getI2 (v := ((A.tn : Nat) : Int)) hx fl_X7_148 cl_X7 dX7_leastBy_15 hT.o (by decide) rfl (hY1.tn hW) ?_
  have rg1 := hW.tn2
  refine J_iald2 (v := (((A.ch A.tn).length : Nat) : Int)) hx A.tn dX7_leastBy_18 hT.k25 (by omega) (hT.l25 (by omega)) (hY1.sz (by omega)) ?_
  have rg2 := hW.len8 (c := A.tn) (by omega)
  have rg3 := hW.lenN (c := A.tn) (by omega)
  refine J_iconst (v := 1) hx dX7_leastBy_19 (by decide) ?_
  refine J_isub (v := (((A.ch A.tn).length : Nat) : Int) - 1) hx dX7_leastBy_20 (w32_id (by omega) (by omega)) ?_
  refine J_icmp_ge (tgt := 165) hx dX7_leastBy_21 (by decide) (fun c4 => ?_) (fun c4 => ?_)
  · refine J_iload_n hx dX7_leastBy_165 (i := 3) rfl rfl ?_
    refine J_iret hx hr dX7_leastBy_166 ?_
    have ej : j = (A.ch A.tn).length - 1 := by omega
    have e9 : le = lbP (gmV 0) A p := by unfold lbP; subst ej; omega
    subst e9
    exact hQ M1 hG1
  · refine J_aload_n hx dX7_leastBy_24 (i := 0) rfl rfl ?_
    refine J_iload_n hx dX7_leastBy_25 (i := 1) rfl rfl ?_
    refine J_invV (As := [vI (((p : Nat) : Int))]) (st := []) hx lk_X7_126 okX7_force dX7_leastBy_26 hT.o (by decide) rfl rfl rfl (Nat.le_of_ble_eq_true rfl) (Nat.zero_add _).symm (Nat.zero_add _).symm rfl (c_X7_force hT hY1 hW (p := p) (by omega) ?_)
    have rg5 := force_rg hW (p := p) (by omega)
    refine J_aload_n hx dX7_leastBy_29 (i := 0) rfl rfl ?_
    refine J_aload_n hx dX7_leastBy_30 (i := 0) rfl rfl ?_
    refine J_getR (b := r + 22) hx fl_X7_54 cl_X7 dX7_leastBy_31 hT.o (by decide) rfl hT.r15 ?_
    refine J_aload_n hx dX7_leastBy_34 (i := 0) rfl rfl ?_
    refine J_getI2 (v := ((A.tn : Nat) : Int)) hx fl_X7_148 cl_X7 dX7_leastBy_35 hT.o (by decide) rfl (hY1.tn hW) ?_
    have rg6 := hW.tn2
    refine J_aald (b := r + 23 + A.tn) hx A.tn dX7_leastBy_38 hT.k22 (by decide) (by omega) (hT.l22 (by omega)) (hT.f22 (by omega)) ?_
    refine J_aload_n hx dX7_leastBy_39 (i := 0) rfl rfl ?_
    refine J_getR (b := r + 25) hx fl_X7_57 cl_X7 dX7_leastBy_40 hT.o (by decide) rfl hT.r16 ?_
    refine J_aload_n hx dX7_leastBy_43 (i := 0) rfl rfl ?_
    refine J_getI2 (v := ((A.tn : Nat) : Int)) hx fl_X7_148 cl_X7 dX7_leastBy_44 hT.o (by decide) rfl (hY1.tn hW) ?_
    have rg7 := hW.tn2
    refine J_iald2 (v := (((A.ch A.tn).length : Nat) : Int)) hx A.tn dX7_leastBy_47 hT.k25 (by omega) (hT.l25 (by omega)) (hY1.sz (by omega)) ?_
    have rg8 := hW.len8 (c := A.tn) (by omega)
    have rg9 := hW.lenN (c := A.tn) (by omega)
    refine J_iload hx dX7_leastBy_48 rfl ?_
    refine J_invV (As := [vR (r + 23 + A.tn), vI ((((A.ch A.tn).length : Nat) : Int)), vI (((j : Nat) : Int))]) (st := [vI (force A p)]) hx lk_X7_266 okX7_strengthOf dX7_leastBy_50 hT.o (by decide) rfl rfl rfl (Nat.le_of_ble_eq_true rfl) (Nat.zero_add _).symm (Nat.zero_add _).symm rfl (c_X7_strengthOf hT hY1 hW (l := A.ch A.tn) (q := r + 23 + A.tn) (hT.kl (by omega)) (hT.nl (by omega)) (fun k9 h9 => hY1.ln (by omega) h9) (fun p9 h9 => hW.lt (by omega) h9) (by omega) (j := j) (by omega) ?_)
    have rg10 := strl_rg hW (l := A.ch A.tn) (fun p9 h9 => hW.lt (by omega) h9) (j := j) (by omega)
    refine J_icmp_le (tgt := 60) hx dX7_leastBy_53 (by decide) (fun c11 => ?_) (fun c11 => ?_)
    · refine J_iconst (v := 0) hx dX7_leastBy_60 (by decide) ?_
      refine J_istore (lsn := [vR (r), vI (((p : Nat) : Int)), vI (1), vI (le), vI (an), vI (((j : Nat) : Int)), vI (0), u7, u8]) hx dX7_leastBy_61 (Nat.le_of_ble_eq_true rfl) rfl rfl ?_
      refine J_iconst (v := 0) hx dX7_leastBy_63 (by decide) ?_
      refine J_istore (lsn := [vR (r), vI (((p : Nat) : Int)), vI (1), vI (le), vI (an), vI (((j : Nat) : Int)), vI (0), vI (0), u8]) hx dX7_leastBy_64 (Nat.le_of_ble_eq_true rfl) rfl rfl ?_
      refine J_iload hx dX7_leastBy_66 rfl ?_
      refine J_iload hx dX7_leastBy_68 rfl ?_
      refine J_if_eq (tgt := 77) hx dX7_leastBy_70 (by decide) (fun _ => ?_) (fun c9 => absurd c9 (by decide))
      refine J_iconst (v := 1) hx dX7_leastBy_77 (by decide) ?_
      refine J_icmp_ge (tgt := 159) hx dX7_leastBy_78 (by decide) (fun c9 => absurd c9 (by decide)) (fun _ => ?_)
      refine J_aload_n hx dX7_leastBy_81 (i := 0) rfl rfl ?_
      refine J_getR (b := c) hx fl_X7_324 cl_X7 dX7_leastBy_82 hT.o (by decide) rfl hd ?_
      refine J_aload_n hx dX7_leastBy_85 (i := 0) rfl rfl ?_
      refine J_invVv (As := [vR (r)]) (st := []) hx lk_X7_257 okX7_takeFrom dX7_leastBy_86 hTc.o (by decide) rfl rfl rfl (Nat.le_of_ble_eq_true rfl) (Nat.zero_add _).symm (Nat.zero_add _).symm rfl (c_X7_takeFrom hTc hT hY1 hW (by unfold ap at hap; omega) ?_)
      intro M2 hN2 hF2
      refine J_iload hx dX7_leastBy_89 rfl ?_
      refine J_if_eq (tgt := 109) hx dX7_leastBy_91 (by decide) (fun _ => ?_) (fun c9 => absurd c9 (by decide))
      refine J_aload_n hx dX7_leastBy_109 (i := 0) rfl rfl ?_
      refine J_getR (b := c) hx fl_X7_324 cl_X7 dX7_leastBy_110 hT.o (by decide) rfl hd ?_
      refine J_iload_n hx dX7_leastBy_113 (i := 1) rfl rfl ?_
      refine J_iload hx dX7_leastBy_114 rfl ?_
      refine J_invVv (As := [vI (((p : Nat) : Int)), vI (((j : Nat) : Int))]) (st := []) hx lk_X7_219 okX7_runsHeld dX7_leastBy_116 hTc.o (by decide) rfl rfl rfl (Nat.le_of_ble_eq_true rfl) (Nat.zero_add _).symm (Nat.zero_add _).symm rfl (c_X7_runsHeld hTc hN2 hW (p := p) (j := j) hp hc (by omega) ho ?_)
      intro M3 hN3 hF3
      have hG3 : ∀ q, (q < c ∨ c + 29 ≤ q) → M3 q = M1 q := fun q9 h9 => by rw [hF3.out h9, hF2.out h9]
      have hY3 := hY1.far hG3 hap
      have hW3 : WFY (runH A p j) := runH_wf hW hp hc (by omega) ho
      have rgg3 := gmV_rg 0 _ hW3
      refine J_aload_n hx dX7_leastBy_119 (i := 0) rfl rfl ?_
      refine J_getR (b := c) hx fl_X7_324 cl_X7 dX7_leastBy_120 hT.o (by decide) rfl hd ?_
      refine J_iload_n hx dX7_leastBy_123 (i := 2) rfl rfl ?_
      refine J_iconst (v := 1) hx dX7_leastBy_124 (by decide) ?_
      refine J_isub (v := 0) hx dX7_leastBy_125 (by decide) ?_
      refine J_invV (As := [vI (0)]) (st := []) hx lk_X7_333 okX7_gameOf dX7_leastBy_126 hTc.o (by decide) rfl rfl rfl (Nat.le_of_ble_eq_true rfl) (Nat.zero_add _).symm (Nat.zero_add _).symm rfl (c_X7_gameOf_0 hTc hN3 hW3 ?_)
      refine J_ineg (v := -(gmV 0 (runH A p j))) hx dX7_leastBy_129 (w32_id (by omega) (by omega)) ?_
      refine J_istore (lsn := [vR (r), vI (((p : Nat) : Int)), vI (1), vI (le), vI (an), vI (((j : Nat) : Int)), vI (0), vI (0), vI (-(gmV 0 (runH A p j)))]) hx dX7_leastBy_130 (Nat.le_of_ble_eq_true rfl) rfl rfl ?_
      refine J_iload hx dX7_leastBy_132 rfl ?_
      refine J_if_eq (tgt := 143) hx dX7_leastBy_134 (by decide) (fun c15 => ?_) (fun c15 => ?_)
      · refine J_iload hx dX7_leastBy_143 rfl ?_
        refine J_goto (tgt := 149) hx dX7_leastBy_145 (by decide) ?_
        refine J_istore_n (lsn := [vR (r), vI (((p : Nat) : Int)), vI (1), vI (-(gmV 0 (runH A p j))), vI (an), vI (((j : Nat) : Int)), vI (0), vI (0), vI (-(gmV 0 (runH A p j)))]) hx dX7_leastBy_149 (i := 3) rfl (Nat.le_of_ble_eq_true rfl) rfl rfl ?_
        refine J_iconst (v := 1) hx dX7_leastBy_150 (by decide) ?_
        refine J_istore (lsn := [vR (r), vI (((p : Nat) : Int)), vI (1), vI (-(gmV 0 (runH A p j))), vI (1), vI (((j : Nat) : Int)), vI (0), vI (0), vI (-(gmV 0 (runH A p j)))]) hx dX7_leastBy_151 (Nat.le_of_ble_eq_true rfl) rfl rfl ?_
        refine J_iinc (v := 1) (lsn := [vR (r), vI (((p : Nat) : Int)), vI (1), vI (-(gmV 0 (runH A p j))), vI (1), vI (((j : Nat) : Int)), vI (0), vI (1), vI (-(gmV 0 (runH A p j)))]) hx dX7_leastBy_153 rfl (by decide) rfl rfl ?_
        refine J_goto (tgt := 66) hx dX7_leastBy_156 (by decide) ?_
        refine J_iload hx dX7_leastBy_66 rfl ?_
        refine J_iload hx dX7_leastBy_68 rfl ?_
        refine J_if_eq (tgt := 77) hx dX7_leastBy_70 (by decide) (fun _ => ?_) (fun c9 => absurd c9 (by decide))
        refine J_iconst (v := 1) hx dX7_leastBy_77 (by decide) ?_
        refine J_icmp_ge (tgt := 159) hx dX7_leastBy_78 (by decide) (fun _ => ?_) (fun c9 => absurd c9 (by decide))
        refine J_iinc (v := ((j : Nat) : Int) + 1) (lsn := [vR (r), vI (((p : Nat) : Int)), vI (1), vI (-(gmV 0 (runH A p j))), vI (1), vI (((j : Nat) : Int) + 1), vI (0), vI (1), vI (-(gmV 0 (runH A p j)))]) hx dX7_leastBy_159 rfl (jinc1 (by omega) (by omega)) rfl rfl ?_
        refine J_goto (tgt := 8) hx dX7_leastBy_162 (by decide) ?_
        have e9 : -(gmV 0 (runH A p j)) = lbJ (jtV (gmV 0) A p) (j + 1) := by
          have ej := jtV_h (f := gmV 0) (A := A) (p := p) (j := j) (by omega)
          have rgj := lbJ_rg (h := (jtV (gmV 0) A p)) (k := j) (fun j9 h9 => jtV_rg (gmV_rg 0) hW ho hp hc (by omega))
          have hz : j = 0 → lbJ (jtV (gmV 0) A p) j = 9 := fun e => by rw [e]; rfl
          rw [lbJ_s]
          (repeat' split at *) <;> omega
        rw [e9]
        exact lp_X7_leastBy_1 hT hN hW hTc hd hap hx hr hp hc ho hQ (j + 1) _ _ _ _ _ M3 hY3 (fun q9 h9 => by rw [hG3 q9 h9]; exact hG1 q9 h9) (by omega) (Or.inr ⟨by omega, rfl, rfl⟩)
      · refine J_iload hx dX7_leastBy_137 rfl ?_
        refine J_iload_n hx dX7_leastBy_139 (i := 3) rfl rfl ?_
        refine J_icmp_ge (tgt := 148) hx dX7_leastBy_140 (by decide) (fun c18 => ?_) (fun c18 => ?_)
        · refine J_iload_n hx dX7_leastBy_148 (i := 3) rfl rfl ?_
          refine J_istore_n (lsn := [vR (r), vI (((p : Nat) : Int)), vI (1), vI (le), vI (an), vI (((j : Nat) : Int)), vI (0), vI (0), vI (-(gmV 0 (runH A p j)))]) hx dX7_leastBy_149 (i := 3) rfl (Nat.le_of_ble_eq_true rfl) rfl rfl ?_
          refine J_iconst (v := 1) hx dX7_leastBy_150 (by decide) ?_
          refine J_istore (lsn := [vR (r), vI (((p : Nat) : Int)), vI (1), vI (le), vI (1), vI (((j : Nat) : Int)), vI (0), vI (0), vI (-(gmV 0 (runH A p j)))]) hx dX7_leastBy_151 (Nat.le_of_ble_eq_true rfl) rfl rfl ?_
          refine J_iinc (v := 1) (lsn := [vR (r), vI (((p : Nat) : Int)), vI (1), vI (le), vI (1), vI (((j : Nat) : Int)), vI (0), vI (1), vI (-(gmV 0 (runH A p j)))]) hx dX7_leastBy_153 rfl (by decide) rfl rfl ?_
          refine J_goto (tgt := 66) hx dX7_leastBy_156 (by decide) ?_
          refine J_iload hx dX7_leastBy_66 rfl ?_
          refine J_iload hx dX7_leastBy_68 rfl ?_
          refine J_if_eq (tgt := 77) hx dX7_leastBy_70 (by decide) (fun _ => ?_) (fun c9 => absurd c9 (by decide))
          refine J_iconst (v := 1) hx dX7_leastBy_77 (by decide) ?_
          refine J_icmp_ge (tgt := 159) hx dX7_leastBy_78 (by decide) (fun _ => ?_) (fun c9 => absurd c9 (by decide))
          refine J_iinc (v := ((j : Nat) : Int) + 1) (lsn := [vR (r), vI (((p : Nat) : Int)), vI (1), vI (le), vI (1), vI (((j : Nat) : Int) + 1), vI (0), vI (1), vI (-(gmV 0 (runH A p j)))]) hx dX7_leastBy_159 rfl (jinc1 (by omega) (by omega)) rfl rfl ?_
          refine J_goto (tgt := 8) hx dX7_leastBy_162 (by decide) ?_
          have e9 : le = lbJ (jtV (gmV 0) A p) (j + 1) := by
            have ej := jtV_h (f := gmV 0) (A := A) (p := p) (j := j) (by omega)
            have rgj := lbJ_rg (h := (jtV (gmV 0) A p)) (k := j) (fun j9 h9 => jtV_rg (gmV_rg 0) hW ho hp hc (by omega))
            have hz : j = 0 → lbJ (jtV (gmV 0) A p) j = 9 := fun e => by rw [e]; rfl
            rw [lbJ_s]
            (repeat' split at *) <;> omega
          rw [e9]
          exact lp_X7_leastBy_1 hT hN hW hTc hd hap hx hr hp hc ho hQ (j + 1) _ _ _ _ _ M3 hY3 (fun q9 h9 => by rw [hG3 q9 h9]; exact hG1 q9 h9) (by omega) (Or.inr ⟨by omega, rfl, rfl⟩)
        · refine J_iload hx dX7_leastBy_143 rfl ?_
          refine J_goto (tgt := 149) hx dX7_leastBy_145 (by decide) ?_
          refine J_istore_n (lsn := [vR (r), vI (((p : Nat) : Int)), vI (1), vI (-(gmV 0 (runH A p j))), vI (an), vI (((j : Nat) : Int)), vI (0), vI (0), vI (-(gmV 0 (runH A p j)))]) hx dX7_leastBy_149 (i := 3) rfl (Nat.le_of_ble_eq_true rfl) rfl rfl ?_
          refine J_iconst (v := 1) hx dX7_leastBy_150 (by decide) ?_
          refine J_istore (lsn := [vR (r), vI (((p : Nat) : Int)), vI (1), vI (-(gmV 0 (runH A p j))), vI (1), vI (((j : Nat) : Int)), vI (0), vI (0), vI (-(gmV 0 (runH A p j)))]) hx dX7_leastBy_151 (Nat.le_of_ble_eq_true rfl) rfl rfl ?_
          refine J_iinc (v := 1) (lsn := [vR (r), vI (((p : Nat) : Int)), vI (1), vI (-(gmV 0 (runH A p j))), vI (1), vI (((j : Nat) : Int)), vI (0), vI (1), vI (-(gmV 0 (runH A p j)))]) hx dX7_leastBy_153 rfl (by decide) rfl rfl ?_
          refine J_goto (tgt := 66) hx dX7_leastBy_156 (by decide) ?_
          refine J_iload hx dX7_leastBy_66 rfl ?_
          refine J_iload hx dX7_leastBy_68 rfl ?_
          refine J_if_eq (tgt := 77) hx dX7_leastBy_70 (by decide) (fun _ => ?_) (fun c9 => absurd c9 (by decide))
          refine J_iconst (v := 1) hx dX7_leastBy_77 (by decide) ?_
          refine J_icmp_ge (tgt := 159) hx dX7_leastBy_78 (by decide) (fun _ => ?_) (fun c9 => absurd c9 (by decide))
          refine J_iinc (v := ((j : Nat) : Int) + 1) (lsn := [vR (r), vI (((p : Nat) : Int)), vI (1), vI (-(gmV 0 (runH A p j))), vI (1), vI (((j : Nat) : Int) + 1), vI (0), vI (1), vI (-(gmV 0 (runH A p j)))]) hx dX7_leastBy_159 rfl (jinc1 (by omega) (by omega)) rfl rfl ?_
          refine J_goto (tgt := 8) hx dX7_leastBy_162 (by decide) ?_
          have e9 : -(gmV 0 (runH A p j)) = lbJ (jtV (gmV 0) A p) (j + 1) := by
            have ej := jtV_h (f := gmV 0) (A := A) (p := p) (j := j) (by omega)
            have rgj := lbJ_rg (h := (jtV (gmV 0) A p)) (k := j) (fun j9 h9 => jtV_rg (gmV_rg 0) hW ho hp hc (by omega))
            have hz : j = 0 → lbJ (jtV (gmV 0) A p) j = 9 := fun e => by rw [e]; rfl
            rw [lbJ_s]
            (repeat' split at *) <;> omega
          rw [e9]
          exact lp_X7_leastBy_1 hT hN hW hTc hd hap hx hr hp hc ho hQ (j + 1) _ _ _ _ _ M3 hY3 (fun q9 h9 => by rw [hG3 q9 h9]; exact hG1 q9 h9) (by omega) (Or.inr ⟨by omega, rfl, rfl⟩)
    · refine J_iconst (v := 1) hx dX7_leastBy_56 (by decide) ?_
      refine J_goto (tgt := 61) hx dX7_leastBy_57 (by decide) ?_
      refine J_istore (lsn := [vR (r), vI (((p : Nat) : Int)), vI (1), vI (le), vI (an), vI (((j : Nat) : Int)), vI (1), u7, u8]) hx dX7_leastBy_61 (Nat.le_of_ble_eq_true rfl) rfl rfl ?_
      refine J_iconst (v := 0) hx dX7_leastBy_63 (by decide) ?_
      refine J_istore (lsn := [vR (r), vI (((p : Nat) : Int)), vI (1), vI (le), vI (an), vI (((j : Nat) : Int)), vI (1), vI (0), u8]) hx dX7_leastBy_64 (Nat.le_of_ble_eq_true rfl) rfl rfl ?_
      refine J_iload hx dX7_leastBy_66 rfl ?_
      refine J_iload hx dX7_leastBy_68 rfl ?_
      refine J_if_eq (tgt := 77) hx dX7_leastBy_70 (by decide) (fun c9 => absurd c9 (by decide)) (fun _ => ?_)
      refine J_iconst (v := 2) hx dX7_leastBy_73 (by decide) ?_
      refine J_goto (tgt := 78) hx dX7_leastBy_74 (by decide) ?_
      refine J_icmp_ge (tgt := 159) hx dX7_leastBy_78 (by decide) (fun c9 => absurd c9 (by decide)) (fun _ => ?_)
      refine J_aload_n hx dX7_leastBy_81 (i := 0) rfl rfl ?_
      refine J_getR (b := c) hx fl_X7_324 cl_X7 dX7_leastBy_82 hT.o (by decide) rfl hd ?_
      refine J_aload_n hx dX7_leastBy_85 (i := 0) rfl rfl ?_
      refine J_invVv (As := [vR (r)]) (st := []) hx lk_X7_257 okX7_takeFrom dX7_leastBy_86 hTc.o (by decide) rfl rfl rfl (Nat.le_of_ble_eq_true rfl) (Nat.zero_add _).symm (Nat.zero_add _).symm rfl (c_X7_takeFrom hTc hT hY1 hW (by unfold ap at hap; omega) ?_)
      intro M2 hN2 hF2
      refine J_iload hx dX7_leastBy_89 rfl ?_
      refine J_if_eq (tgt := 109) hx dX7_leastBy_91 (by decide) (fun c9 => absurd c9 (by decide)) (fun _ => ?_)
      refine J_aload_n hx dX7_leastBy_94 (i := 0) rfl rfl ?_
      refine J_getR (b := c) hx fl_X7_324 cl_X7 dX7_leastBy_95 hT.o (by decide) rfl hd ?_
      refine J_iload_n hx dX7_leastBy_98 (i := 1) rfl rfl ?_
      refine J_iload hx dX7_leastBy_99 rfl ?_
      refine J_iload hx dX7_leastBy_101 rfl ?_
      refine J_invVv (As := [vI (((p : Nat) : Int)), vI (((j : Nat) : Int)), vI (0)]) (st := []) hx lk_X7_214 okX7_runsTorn dX7_leastBy_103 hTc.o (by decide) rfl rfl rfl (Nat.le_of_ble_eq_true rfl) (Nat.zero_add _).symm (Nat.zero_add _).symm rfl (c_X7_runsTorn hTc hN2 hW (p := p) (j := j) (sd := 0) hp hc (by omega) ho (by decide) ?_)
      intro M3 hN3 hF3
      have hG3 : ∀ q, (q < c ∨ c + 29 ≤ q) → M3 q = M1 q := fun q9 h9 => by rw [hF3.out h9, hF2.out h9]
      have hY3 := hY1.far hG3 hap
      have hW3 : WFY (runT A p j (takenY A j 0)) := runT_wf hW hp hc (by omega) ho (taken_mem hW (by omega) (by decide))
      have rgg3 := gmV_rg 0 _ hW3
      refine J_goto (tgt := 119) hx dX7_leastBy_106 (by decide) ?_
      refine J_aload_n hx dX7_leastBy_119 (i := 0) rfl rfl ?_
      refine J_getR (b := c) hx fl_X7_324 cl_X7 dX7_leastBy_120 hT.o (by decide) rfl hd ?_
      refine J_iload_n hx dX7_leastBy_123 (i := 2) rfl rfl ?_
      refine J_iconst (v := 1) hx dX7_leastBy_124 (by decide) ?_
      refine J_isub (v := 0) hx dX7_leastBy_125 (by decide) ?_
      refine J_invV (As := [vI (0)]) (st := []) hx lk_X7_333 okX7_gameOf dX7_leastBy_126 hTc.o (by decide) rfl rfl rfl (Nat.le_of_ble_eq_true rfl) (Nat.zero_add _).symm (Nat.zero_add _).symm rfl (c_X7_gameOf_0 hTc hN3 hW3 ?_)
      refine J_ineg (v := -(gmV 0 (runT A p j (takenY A j 0)))) hx dX7_leastBy_129 (w32_id (by omega) (by omega)) ?_
      refine J_istore (lsn := [vR (r), vI (((p : Nat) : Int)), vI (1), vI (le), vI (an), vI (((j : Nat) : Int)), vI (1), vI (0), vI (-(gmV 0 (runT A p j (takenY A j 0))))]) hx dX7_leastBy_130 (Nat.le_of_ble_eq_true rfl) rfl rfl ?_
      refine J_iload hx dX7_leastBy_132 rfl ?_
      refine J_if_eq (tgt := 143) hx dX7_leastBy_134 (by decide) (fun c26 => ?_) (fun c26 => ?_)
      · refine J_iload hx dX7_leastBy_143 rfl ?_
        refine J_goto (tgt := 149) hx dX7_leastBy_145 (by decide) ?_
        refine J_istore_n (lsn := [vR (r), vI (((p : Nat) : Int)), vI (1), vI (-(gmV 0 (runT A p j (takenY A j 0)))), vI (an), vI (((j : Nat) : Int)), vI (1), vI (0), vI (-(gmV 0 (runT A p j (takenY A j 0))))]) hx dX7_leastBy_149 (i := 3) rfl (Nat.le_of_ble_eq_true rfl) rfl rfl ?_
        refine J_iconst (v := 1) hx dX7_leastBy_150 (by decide) ?_
        refine J_istore (lsn := [vR (r), vI (((p : Nat) : Int)), vI (1), vI (-(gmV 0 (runT A p j (takenY A j 0)))), vI (1), vI (((j : Nat) : Int)), vI (1), vI (0), vI (-(gmV 0 (runT A p j (takenY A j 0))))]) hx dX7_leastBy_151 (Nat.le_of_ble_eq_true rfl) rfl rfl ?_
        refine J_iinc (v := 1) (lsn := [vR (r), vI (((p : Nat) : Int)), vI (1), vI (-(gmV 0 (runT A p j (takenY A j 0)))), vI (1), vI (((j : Nat) : Int)), vI (1), vI (1), vI (-(gmV 0 (runT A p j (takenY A j 0))))]) hx dX7_leastBy_153 rfl (by decide) rfl rfl ?_
        refine J_goto (tgt := 66) hx dX7_leastBy_156 (by decide) ?_
        refine J_iload hx dX7_leastBy_66 rfl ?_
        refine J_iload hx dX7_leastBy_68 rfl ?_
        refine J_if_eq (tgt := 77) hx dX7_leastBy_70 (by decide) (fun c9 => absurd c9 (by decide)) (fun _ => ?_)
        refine J_iconst (v := 2) hx dX7_leastBy_73 (by decide) ?_
        refine J_goto (tgt := 78) hx dX7_leastBy_74 (by decide) ?_
        refine J_icmp_ge (tgt := 159) hx dX7_leastBy_78 (by decide) (fun c9 => absurd c9 (by decide)) (fun _ => ?_)
        refine J_aload_n hx dX7_leastBy_81 (i := 0) rfl rfl ?_
        refine J_getR (b := c) hx fl_X7_324 cl_X7 dX7_leastBy_82 hT.o (by decide) rfl hd ?_
        refine J_aload_n hx dX7_leastBy_85 (i := 0) rfl rfl ?_
        refine J_invVv (As := [vR (r)]) (st := []) hx lk_X7_257 okX7_takeFrom dX7_leastBy_86 hTc.o (by decide) rfl rfl rfl (Nat.le_of_ble_eq_true rfl) (Nat.zero_add _).symm (Nat.zero_add _).symm rfl (c_X7_takeFrom hTc hT hY3 hW (by unfold ap at hap; omega) ?_)
        intro M4 hN4 hF4
        refine J_iload hx dX7_leastBy_89 rfl ?_
        refine J_if_eq (tgt := 109) hx dX7_leastBy_91 (by decide) (fun c9 => absurd c9 (by decide)) (fun _ => ?_)
        refine J_aload_n hx dX7_leastBy_94 (i := 0) rfl rfl ?_
        refine J_getR (b := c) hx fl_X7_324 cl_X7 dX7_leastBy_95 hT.o (by decide) rfl hd ?_
        refine J_iload_n hx dX7_leastBy_98 (i := 1) rfl rfl ?_
        refine J_iload hx dX7_leastBy_99 rfl ?_
        refine J_iload hx dX7_leastBy_101 rfl ?_
        refine J_invVv (As := [vI (((p : Nat) : Int)), vI (((j : Nat) : Int)), vI (1)]) (st := []) hx lk_X7_214 okX7_runsTorn dX7_leastBy_103 hTc.o (by decide) rfl rfl rfl (Nat.le_of_ble_eq_true rfl) (Nat.zero_add _).symm (Nat.zero_add _).symm rfl (c_X7_runsTorn hTc hN4 hW (p := p) (j := j) (sd := 1) hp hc (by omega) ho (by decide) ?_)
        intro M5 hN5 hF5
        have hG5 : ∀ q, (q < c ∨ c + 29 ≤ q) → M5 q = M3 q := fun q9 h9 => by rw [hF5.out h9, hF4.out h9]
        have hY5 := hY3.far hG5 hap
        have hW5 : WFY (runT A p j (takenY A j 1)) := runT_wf hW hp hc (by omega) ho (taken_mem hW (by omega) (by decide))
        have rgg5 := gmV_rg 0 _ hW5
        refine J_goto (tgt := 119) hx dX7_leastBy_106 (by decide) ?_
        refine J_aload_n hx dX7_leastBy_119 (i := 0) rfl rfl ?_
        refine J_getR (b := c) hx fl_X7_324 cl_X7 dX7_leastBy_120 hT.o (by decide) rfl hd ?_
        refine J_iload_n hx dX7_leastBy_123 (i := 2) rfl rfl ?_
        refine J_iconst (v := 1) hx dX7_leastBy_124 (by decide) ?_
        refine J_isub (v := 0) hx dX7_leastBy_125 (by decide) ?_
        refine J_invV (As := [vI (0)]) (st := []) hx lk_X7_333 okX7_gameOf dX7_leastBy_126 hTc.o (by decide) rfl rfl rfl (Nat.le_of_ble_eq_true rfl) (Nat.zero_add _).symm (Nat.zero_add _).symm rfl (c_X7_gameOf_0 hTc hN5 hW5 ?_)
        refine J_ineg (v := -(gmV 0 (runT A p j (takenY A j 1)))) hx dX7_leastBy_129 (w32_id (by omega) (by omega)) ?_
        refine J_istore (lsn := [vR (r), vI (((p : Nat) : Int)), vI (1), vI (-(gmV 0 (runT A p j (takenY A j 0)))), vI (1), vI (((j : Nat) : Int)), vI (1), vI (1), vI (-(gmV 0 (runT A p j (takenY A j 1))))]) hx dX7_leastBy_130 (Nat.le_of_ble_eq_true rfl) rfl rfl ?_
        refine J_iload hx dX7_leastBy_132 rfl ?_
        refine J_if_eq (tgt := 143) hx dX7_leastBy_134 (by decide) (fun c9 => absurd c9 (by decide)) (fun _ => ?_)
        refine J_iload hx dX7_leastBy_137 rfl ?_
        refine J_iload_n hx dX7_leastBy_139 (i := 3) rfl rfl ?_
        refine J_icmp_ge (tgt := 148) hx dX7_leastBy_140 (by decide) (fun c31 => ?_) (fun c31 => ?_)
        · refine J_iload_n hx dX7_leastBy_148 (i := 3) rfl rfl ?_
          refine J_istore_n (lsn := [vR (r), vI (((p : Nat) : Int)), vI (1), vI (-(gmV 0 (runT A p j (takenY A j 0)))), vI (1), vI (((j : Nat) : Int)), vI (1), vI (1), vI (-(gmV 0 (runT A p j (takenY A j 1))))]) hx dX7_leastBy_149 (i := 3) rfl (Nat.le_of_ble_eq_true rfl) rfl rfl ?_
          refine J_iconst (v := 1) hx dX7_leastBy_150 (by decide) ?_
          refine J_istore (lsn := [vR (r), vI (((p : Nat) : Int)), vI (1), vI (-(gmV 0 (runT A p j (takenY A j 0)))), vI (1), vI (((j : Nat) : Int)), vI (1), vI (1), vI (-(gmV 0 (runT A p j (takenY A j 1))))]) hx dX7_leastBy_151 (Nat.le_of_ble_eq_true rfl) rfl rfl ?_
          refine J_iinc (v := 2) (lsn := [vR (r), vI (((p : Nat) : Int)), vI (1), vI (-(gmV 0 (runT A p j (takenY A j 0)))), vI (1), vI (((j : Nat) : Int)), vI (1), vI (2), vI (-(gmV 0 (runT A p j (takenY A j 1))))]) hx dX7_leastBy_153 rfl (by decide) rfl rfl ?_
          refine J_goto (tgt := 66) hx dX7_leastBy_156 (by decide) ?_
          refine J_iload hx dX7_leastBy_66 rfl ?_
          refine J_iload hx dX7_leastBy_68 rfl ?_
          refine J_if_eq (tgt := 77) hx dX7_leastBy_70 (by decide) (fun c9 => absurd c9 (by decide)) (fun _ => ?_)
          refine J_iconst (v := 2) hx dX7_leastBy_73 (by decide) ?_
          refine J_goto (tgt := 78) hx dX7_leastBy_74 (by decide) ?_
          refine J_icmp_ge (tgt := 159) hx dX7_leastBy_78 (by decide) (fun _ => ?_) (fun c9 => absurd c9 (by decide))
          refine J_iinc (v := ((j : Nat) : Int) + 1) (lsn := [vR (r), vI (((p : Nat) : Int)), vI (1), vI (-(gmV 0 (runT A p j (takenY A j 0)))), vI (1), vI (((j : Nat) : Int) + 1), vI (1), vI (2), vI (-(gmV 0 (runT A p j (takenY A j 1))))]) hx dX7_leastBy_159 rfl (jinc1 (by omega) (by omega)) rfl rfl ?_
          refine J_goto (tgt := 8) hx dX7_leastBy_162 (by decide) ?_
          have e9 : -(gmV 0 (runT A p j (takenY A j 0))) = lbJ (jtV (gmV 0) A p) (j + 1) := by
            have ej := jtV_t (f := gmV 0) (A := A) (p := p) (j := j) (by omega)
            have rgj := lbJ_rg (h := (jtV (gmV 0) A p)) (k := j) (fun j9 h9 => jtV_rg (gmV_rg 0) hW ho hp hc (by omega))
            have hz : j = 0 → lbJ (jtV (gmV 0) A p) j = 9 := fun e => by rw [e]; rfl
            rw [lbJ_s]
            (repeat' split at *) <;> omega
          rw [e9]
          exact lp_X7_leastBy_1 hT hN hW hTc hd hap hx hr hp hc ho hQ (j + 1) _ _ _ _ _ M5 hY5 (fun q9 h9 => by rw [hG5 q9 h9, hG3 q9 h9]; exact hG1 q9 h9) (by omega) (Or.inr ⟨by omega, rfl, rfl⟩)
        · refine J_iload hx dX7_leastBy_143 rfl ?_
          refine J_goto (tgt := 149) hx dX7_leastBy_145 (by decide) ?_
          refine J_istore_n (lsn := [vR (r), vI (((p : Nat) : Int)), vI (1), vI (-(gmV 0 (runT A p j (takenY A j 1)))), vI (1), vI (((j : Nat) : Int)), vI (1), vI (1), vI (-(gmV 0 (runT A p j (takenY A j 1))))]) hx dX7_leastBy_149 (i := 3) rfl (Nat.le_of_ble_eq_true rfl) rfl rfl ?_
          refine J_iconst (v := 1) hx dX7_leastBy_150 (by decide) ?_
          refine J_istore (lsn := [vR (r), vI (((p : Nat) : Int)), vI (1), vI (-(gmV 0 (runT A p j (takenY A j 1)))), vI (1), vI (((j : Nat) : Int)), vI (1), vI (1), vI (-(gmV 0 (runT A p j (takenY A j 1))))]) hx dX7_leastBy_151 (Nat.le_of_ble_eq_true rfl) rfl rfl ?_
          refine J_iinc (v := 2) (lsn := [vR (r), vI (((p : Nat) : Int)), vI (1), vI (-(gmV 0 (runT A p j (takenY A j 1)))), vI (1), vI (((j : Nat) : Int)), vI (1), vI (2), vI (-(gmV 0 (runT A p j (takenY A j 1))))]) hx dX7_leastBy_153 rfl (by decide) rfl rfl ?_
          refine J_goto (tgt := 66) hx dX7_leastBy_156 (by decide) ?_
          refine J_iload hx dX7_leastBy_66 rfl ?_
          refine J_iload hx dX7_leastBy_68 rfl ?_
          refine J_if_eq (tgt := 77) hx dX7_leastBy_70 (by decide) (fun c9 => absurd c9 (by decide)) (fun _ => ?_)
          refine J_iconst (v := 2) hx dX7_leastBy_73 (by decide) ?_
          refine J_goto (tgt := 78) hx dX7_leastBy_74 (by decide) ?_
          refine J_icmp_ge (tgt := 159) hx dX7_leastBy_78 (by decide) (fun _ => ?_) (fun c9 => absurd c9 (by decide))
          refine J_iinc (v := ((j : Nat) : Int) + 1) (lsn := [vR (r), vI (((p : Nat) : Int)), vI (1), vI (-(gmV 0 (runT A p j (takenY A j 1)))), vI (1), vI (((j : Nat) : Int) + 1), vI (1), vI (2), vI (-(gmV 0 (runT A p j (takenY A j 1))))]) hx dX7_leastBy_159 rfl (jinc1 (by omega) (by omega)) rfl rfl ?_
          refine J_goto (tgt := 8) hx dX7_leastBy_162 (by decide) ?_
          have e9 : -(gmV 0 (runT A p j (takenY A j 1))) = lbJ (jtV (gmV 0) A p) (j + 1) := by
            have ej := jtV_t (f := gmV 0) (A := A) (p := p) (j := j) (by omega)
            have rgj := lbJ_rg (h := (jtV (gmV 0) A p)) (k := j) (fun j9 h9 => jtV_rg (gmV_rg 0) hW ho hp hc (by omega))
            have hz : j = 0 → lbJ (jtV (gmV 0) A p) j = 9 := fun e => by rw [e]; rfl
            rw [lbJ_s]
            (repeat' split at *) <;> omega
          rw [e9]
          exact lp_X7_leastBy_1 hT hN hW hTc hd hap hx hr hp hc ho hQ (j + 1) _ _ _ _ _ M5 hY5 (fun q9 h9 => by rw [hG5 q9 h9, hG3 q9 h9]; exact hG1 q9 h9) (by omega) (Or.inr ⟨by omega, rfl, rfl⟩)
      · refine J_iload hx dX7_leastBy_137 rfl ?_
        refine J_iload_n hx dX7_leastBy_139 (i := 3) rfl rfl ?_
        refine J_icmp_ge (tgt := 148) hx dX7_leastBy_140 (by decide) (fun c36 => ?_) (fun c36 => ?_)
        · refine J_iload_n hx dX7_leastBy_148 (i := 3) rfl rfl ?_
          refine J_istore_n (lsn := [vR (r), vI (((p : Nat) : Int)), vI (1), vI (le), vI (an), vI (((j : Nat) : Int)), vI (1), vI (0), vI (-(gmV 0 (runT A p j (takenY A j 0))))]) hx dX7_leastBy_149 (i := 3) rfl (Nat.le_of_ble_eq_true rfl) rfl rfl ?_
          refine J_iconst (v := 1) hx dX7_leastBy_150 (by decide) ?_
          refine J_istore (lsn := [vR (r), vI (((p : Nat) : Int)), vI (1), vI (le), vI (1), vI (((j : Nat) : Int)), vI (1), vI (0), vI (-(gmV 0 (runT A p j (takenY A j 0))))]) hx dX7_leastBy_151 (Nat.le_of_ble_eq_true rfl) rfl rfl ?_
          refine J_iinc (v := 1) (lsn := [vR (r), vI (((p : Nat) : Int)), vI (1), vI (le), vI (1), vI (((j : Nat) : Int)), vI (1), vI (1), vI (-(gmV 0 (runT A p j (takenY A j 0))))]) hx dX7_leastBy_153 rfl (by decide) rfl rfl ?_
          refine J_goto (tgt := 66) hx dX7_leastBy_156 (by decide) ?_
          refine J_iload hx dX7_leastBy_66 rfl ?_
          refine J_iload hx dX7_leastBy_68 rfl ?_
          refine J_if_eq (tgt := 77) hx dX7_leastBy_70 (by decide) (fun c9 => absurd c9 (by decide)) (fun _ => ?_)
          refine J_iconst (v := 2) hx dX7_leastBy_73 (by decide) ?_
          refine J_goto (tgt := 78) hx dX7_leastBy_74 (by decide) ?_
          refine J_icmp_ge (tgt := 159) hx dX7_leastBy_78 (by decide) (fun c9 => absurd c9 (by decide)) (fun _ => ?_)
          refine J_aload_n hx dX7_leastBy_81 (i := 0) rfl rfl ?_
          refine J_getR (b := c) hx fl_X7_324 cl_X7 dX7_leastBy_82 hT.o (by decide) rfl hd ?_
          refine J_aload_n hx dX7_leastBy_85 (i := 0) rfl rfl ?_
          refine J_invVv (As := [vR (r)]) (st := []) hx lk_X7_257 okX7_takeFrom dX7_leastBy_86 hTc.o (by decide) rfl rfl rfl (Nat.le_of_ble_eq_true rfl) (Nat.zero_add _).symm (Nat.zero_add _).symm rfl (c_X7_takeFrom hTc hT hY3 hW (by unfold ap at hap; omega) ?_)
          intro M4 hN4 hF4
          refine J_iload hx dX7_leastBy_89 rfl ?_
          refine J_if_eq (tgt := 109) hx dX7_leastBy_91 (by decide) (fun c9 => absurd c9 (by decide)) (fun _ => ?_)
          refine J_aload_n hx dX7_leastBy_94 (i := 0) rfl rfl ?_
          refine J_getR (b := c) hx fl_X7_324 cl_X7 dX7_leastBy_95 hT.o (by decide) rfl hd ?_
          refine J_iload_n hx dX7_leastBy_98 (i := 1) rfl rfl ?_
          refine J_iload hx dX7_leastBy_99 rfl ?_
          refine J_iload hx dX7_leastBy_101 rfl ?_
          refine J_invVv (As := [vI (((p : Nat) : Int)), vI (((j : Nat) : Int)), vI (1)]) (st := []) hx lk_X7_214 okX7_runsTorn dX7_leastBy_103 hTc.o (by decide) rfl rfl rfl (Nat.le_of_ble_eq_true rfl) (Nat.zero_add _).symm (Nat.zero_add _).symm rfl (c_X7_runsTorn hTc hN4 hW (p := p) (j := j) (sd := 1) hp hc (by omega) ho (by decide) ?_)
          intro M5 hN5 hF5
          have hG5 : ∀ q, (q < c ∨ c + 29 ≤ q) → M5 q = M3 q := fun q9 h9 => by rw [hF5.out h9, hF4.out h9]
          have hY5 := hY3.far hG5 hap
          have hW5 : WFY (runT A p j (takenY A j 1)) := runT_wf hW hp hc (by omega) ho (taken_mem hW (by omega) (by decide))
          have rgg5 := gmV_rg 0 _ hW5
          refine J_goto (tgt := 119) hx dX7_leastBy_106 (by decide) ?_
          refine J_aload_n hx dX7_leastBy_119 (i := 0) rfl rfl ?_
          refine J_getR (b := c) hx fl_X7_324 cl_X7 dX7_leastBy_120 hT.o (by decide) rfl hd ?_
          refine J_iload_n hx dX7_leastBy_123 (i := 2) rfl rfl ?_
          refine J_iconst (v := 1) hx dX7_leastBy_124 (by decide) ?_
          refine J_isub (v := 0) hx dX7_leastBy_125 (by decide) ?_
          refine J_invV (As := [vI (0)]) (st := []) hx lk_X7_333 okX7_gameOf dX7_leastBy_126 hTc.o (by decide) rfl rfl rfl (Nat.le_of_ble_eq_true rfl) (Nat.zero_add _).symm (Nat.zero_add _).symm rfl (c_X7_gameOf_0 hTc hN5 hW5 ?_)
          refine J_ineg (v := -(gmV 0 (runT A p j (takenY A j 1)))) hx dX7_leastBy_129 (w32_id (by omega) (by omega)) ?_
          refine J_istore (lsn := [vR (r), vI (((p : Nat) : Int)), vI (1), vI (le), vI (1), vI (((j : Nat) : Int)), vI (1), vI (1), vI (-(gmV 0 (runT A p j (takenY A j 1))))]) hx dX7_leastBy_130 (Nat.le_of_ble_eq_true rfl) rfl rfl ?_
          refine J_iload hx dX7_leastBy_132 rfl ?_
          refine J_if_eq (tgt := 143) hx dX7_leastBy_134 (by decide) (fun c9 => absurd c9 (by decide)) (fun _ => ?_)
          refine J_iload hx dX7_leastBy_137 rfl ?_
          refine J_iload_n hx dX7_leastBy_139 (i := 3) rfl rfl ?_
          refine J_icmp_ge (tgt := 148) hx dX7_leastBy_140 (by decide) (fun c41 => ?_) (fun c41 => ?_)
          · refine J_iload_n hx dX7_leastBy_148 (i := 3) rfl rfl ?_
            refine J_istore_n (lsn := [vR (r), vI (((p : Nat) : Int)), vI (1), vI (le), vI (1), vI (((j : Nat) : Int)), vI (1), vI (1), vI (-(gmV 0 (runT A p j (takenY A j 1))))]) hx dX7_leastBy_149 (i := 3) rfl (Nat.le_of_ble_eq_true rfl) rfl rfl ?_
            refine J_iconst (v := 1) hx dX7_leastBy_150 (by decide) ?_
            refine J_istore (lsn := [vR (r), vI (((p : Nat) : Int)), vI (1), vI (le), vI (1), vI (((j : Nat) : Int)), vI (1), vI (1), vI (-(gmV 0 (runT A p j (takenY A j 1))))]) hx dX7_leastBy_151 (Nat.le_of_ble_eq_true rfl) rfl rfl ?_
            refine J_iinc (v := 2) (lsn := [vR (r), vI (((p : Nat) : Int)), vI (1), vI (le), vI (1), vI (((j : Nat) : Int)), vI (1), vI (2), vI (-(gmV 0 (runT A p j (takenY A j 1))))]) hx dX7_leastBy_153 rfl (by decide) rfl rfl ?_
            refine J_goto (tgt := 66) hx dX7_leastBy_156 (by decide) ?_
            refine J_iload hx dX7_leastBy_66 rfl ?_
            refine J_iload hx dX7_leastBy_68 rfl ?_
            refine J_if_eq (tgt := 77) hx dX7_leastBy_70 (by decide) (fun c9 => absurd c9 (by decide)) (fun _ => ?_)
            refine J_iconst (v := 2) hx dX7_leastBy_73 (by decide) ?_
            refine J_goto (tgt := 78) hx dX7_leastBy_74 (by decide) ?_
            refine J_icmp_ge (tgt := 159) hx dX7_leastBy_78 (by decide) (fun _ => ?_) (fun c9 => absurd c9 (by decide))
            refine J_iinc (v := ((j : Nat) : Int) + 1) (lsn := [vR (r), vI (((p : Nat) : Int)), vI (1), vI (le), vI (1), vI (((j : Nat) : Int) + 1), vI (1), vI (2), vI (-(gmV 0 (runT A p j (takenY A j 1))))]) hx dX7_leastBy_159 rfl (jinc1 (by omega) (by omega)) rfl rfl ?_
            refine J_goto (tgt := 8) hx dX7_leastBy_162 (by decide) ?_
            have e9 : le = lbJ (jtV (gmV 0) A p) (j + 1) := by
              have ej := jtV_t (f := gmV 0) (A := A) (p := p) (j := j) (by omega)
              have rgj := lbJ_rg (h := (jtV (gmV 0) A p)) (k := j) (fun j9 h9 => jtV_rg (gmV_rg 0) hW ho hp hc (by omega))
              have hz : j = 0 → lbJ (jtV (gmV 0) A p) j = 9 := fun e => by rw [e]; rfl
              rw [lbJ_s]
              (repeat' split at *) <;> omega
            rw [e9]
            exact lp_X7_leastBy_1 hT hN hW hTc hd hap hx hr hp hc ho hQ (j + 1) _ _ _ _ _ M5 hY5 (fun q9 h9 => by rw [hG5 q9 h9, hG3 q9 h9]; exact hG1 q9 h9) (by omega) (Or.inr ⟨by omega, rfl, rfl⟩)
          · refine J_iload hx dX7_leastBy_143 rfl ?_
            refine J_goto (tgt := 149) hx dX7_leastBy_145 (by decide) ?_
            refine J_istore_n (lsn := [vR (r), vI (((p : Nat) : Int)), vI (1), vI (-(gmV 0 (runT A p j (takenY A j 1)))), vI (1), vI (((j : Nat) : Int)), vI (1), vI (1), vI (-(gmV 0 (runT A p j (takenY A j 1))))]) hx dX7_leastBy_149 (i := 3) rfl (Nat.le_of_ble_eq_true rfl) rfl rfl ?_
            refine J_iconst (v := 1) hx dX7_leastBy_150 (by decide) ?_
            refine J_istore (lsn := [vR (r), vI (((p : Nat) : Int)), vI (1), vI (-(gmV 0 (runT A p j (takenY A j 1)))), vI (1), vI (((j : Nat) : Int)), vI (1), vI (1), vI (-(gmV 0 (runT A p j (takenY A j 1))))]) hx dX7_leastBy_151 (Nat.le_of_ble_eq_true rfl) rfl rfl ?_
            refine J_iinc (v := 2) (lsn := [vR (r), vI (((p : Nat) : Int)), vI (1), vI (-(gmV 0 (runT A p j (takenY A j 1)))), vI (1), vI (((j : Nat) : Int)), vI (1), vI (2), vI (-(gmV 0 (runT A p j (takenY A j 1))))]) hx dX7_leastBy_153 rfl (by decide) rfl rfl ?_
            refine J_goto (tgt := 66) hx dX7_leastBy_156 (by decide) ?_
            refine J_iload hx dX7_leastBy_66 rfl ?_
            refine J_iload hx dX7_leastBy_68 rfl ?_
            refine J_if_eq (tgt := 77) hx dX7_leastBy_70 (by decide) (fun c9 => absurd c9 (by decide)) (fun _ => ?_)
            refine J_iconst (v := 2) hx dX7_leastBy_73 (by decide) ?_
            refine J_goto (tgt := 78) hx dX7_leastBy_74 (by decide) ?_
            refine J_icmp_ge (tgt := 159) hx dX7_leastBy_78 (by decide) (fun _ => ?_) (fun c9 => absurd c9 (by decide))
            refine J_iinc (v := ((j : Nat) : Int) + 1) (lsn := [vR (r), vI (((p : Nat) : Int)), vI (1), vI (-(gmV 0 (runT A p j (takenY A j 1)))), vI (1), vI (((j : Nat) : Int) + 1), vI (1), vI (2), vI (-(gmV 0 (runT A p j (takenY A j 1))))]) hx dX7_leastBy_159 rfl (jinc1 (by omega) (by omega)) rfl rfl ?_
            refine J_goto (tgt := 8) hx dX7_leastBy_162 (by decide) ?_
            have e9 : -(gmV 0 (runT A p j (takenY A j 1))) = lbJ (jtV (gmV 0) A p) (j + 1) := by
              have ej := jtV_t (f := gmV 0) (A := A) (p := p) (j := j) (by omega)
              have rgj := lbJ_rg (h := (jtV (gmV 0) A p)) (k := j) (fun j9 h9 => jtV_rg (gmV_rg 0) hW ho hp hc (by omega))
              have hz : j = 0 → lbJ (jtV (gmV 0) A p) j = 9 := fun e => by rw [e]; rfl
              rw [lbJ_s]
              (repeat' split at *) <;> omega
            rw [e9]
            exact lp_X7_leastBy_1 hT hN hW hTc hd hap hx hr hp hc ho hQ (j + 1) _ _ _ _ _ M5 hY5 (fun q9 h9 => by rw [hG5 q9 h9, hG3 q9 h9]; exact hG1 q9 h9) (by omega) (Or.inr ⟨by omega, rfl, rfl⟩)
        · refine J_iload hx dX7_leastBy_143 rfl ?_
          refine J_goto (tgt := 149) hx dX7_leastBy_145 (by decide) ?_
          refine J_istore_n (lsn := [vR (r), vI (((p : Nat) : Int)), vI (1), vI (-(gmV 0 (runT A p j (takenY A j 0)))), vI (an), vI (((j : Nat) : Int)), vI (1), vI (0), vI (-(gmV 0 (runT A p j (takenY A j 0))))]) hx dX7_leastBy_149 (i := 3) rfl (Nat.le_of_ble_eq_true rfl) rfl rfl ?_
          refine J_iconst (v := 1) hx dX7_leastBy_150 (by decide) ?_
          refine J_istore (lsn := [vR (r), vI (((p : Nat) : Int)), vI (1), vI (-(gmV 0 (runT A p j (takenY A j 0)))), vI (1), vI (((j : Nat) : Int)), vI (1), vI (0), vI (-(gmV 0 (runT A p j (takenY A j 0))))]) hx dX7_leastBy_151 (Nat.le_of_ble_eq_true rfl) rfl rfl ?_
          refine J_iinc (v := 1) (lsn := [vR (r), vI (((p : Nat) : Int)), vI (1), vI (-(gmV 0 (runT A p j (takenY A j 0)))), vI (1), vI (((j : Nat) : Int)), vI (1), vI (1), vI (-(gmV 0 (runT A p j (takenY A j 0))))]) hx dX7_leastBy_153 rfl (by decide) rfl rfl ?_
          refine J_goto (tgt := 66) hx dX7_leastBy_156 (by decide) ?_
          refine J_iload hx dX7_leastBy_66 rfl ?_
          refine J_iload hx dX7_leastBy_68 rfl ?_
          refine J_if_eq (tgt := 77) hx dX7_leastBy_70 (by decide) (fun c9 => absurd c9 (by decide)) (fun _ => ?_)
          refine J_iconst (v := 2) hx dX7_leastBy_73 (by decide) ?_
          refine J_goto (tgt := 78) hx dX7_leastBy_74 (by decide) ?_
          refine J_icmp_ge (tgt := 159) hx dX7_leastBy_78 (by decide) (fun c9 => absurd c9 (by decide)) (fun _ => ?_)
          refine J_aload_n hx dX7_leastBy_81 (i := 0) rfl rfl ?_
          refine J_getR (b := c) hx fl_X7_324 cl_X7 dX7_leastBy_82 hT.o (by decide) rfl hd ?_
          refine J_aload_n hx dX7_leastBy_85 (i := 0) rfl rfl ?_
          refine J_invVv (As := [vR (r)]) (st := []) hx lk_X7_257 okX7_takeFrom dX7_leastBy_86 hTc.o (by decide) rfl rfl rfl (Nat.le_of_ble_eq_true rfl) (Nat.zero_add _).symm (Nat.zero_add _).symm rfl (c_X7_takeFrom hTc hT hY3 hW (by unfold ap at hap; omega) ?_)
          intro M4 hN4 hF4
          refine J_iload hx dX7_leastBy_89 rfl ?_
          refine J_if_eq (tgt := 109) hx dX7_leastBy_91 (by decide) (fun c9 => absurd c9 (by decide)) (fun _ => ?_)
          refine J_aload_n hx dX7_leastBy_94 (i := 0) rfl rfl ?_
          refine J_getR (b := c) hx fl_X7_324 cl_X7 dX7_leastBy_95 hT.o (by decide) rfl hd ?_
          refine J_iload_n hx dX7_leastBy_98 (i := 1) rfl rfl ?_
          refine J_iload hx dX7_leastBy_99 rfl ?_
          refine J_iload hx dX7_leastBy_101 rfl ?_
          refine J_invVv (As := [vI (((p : Nat) : Int)), vI (((j : Nat) : Int)), vI (1)]) (st := []) hx lk_X7_214 okX7_runsTorn dX7_leastBy_103 hTc.o (by decide) rfl rfl rfl (Nat.le_of_ble_eq_true rfl) (Nat.zero_add _).symm (Nat.zero_add _).symm rfl (c_X7_runsTorn hTc hN4 hW (p := p) (j := j) (sd := 1) hp hc (by omega) ho (by decide) ?_)
          intro M5 hN5 hF5
          have hG5 : ∀ q, (q < c ∨ c + 29 ≤ q) → M5 q = M3 q := fun q9 h9 => by rw [hF5.out h9, hF4.out h9]
          have hY5 := hY3.far hG5 hap
          have hW5 : WFY (runT A p j (takenY A j 1)) := runT_wf hW hp hc (by omega) ho (taken_mem hW (by omega) (by decide))
          have rgg5 := gmV_rg 0 _ hW5
          refine J_goto (tgt := 119) hx dX7_leastBy_106 (by decide) ?_
          refine J_aload_n hx dX7_leastBy_119 (i := 0) rfl rfl ?_
          refine J_getR (b := c) hx fl_X7_324 cl_X7 dX7_leastBy_120 hT.o (by decide) rfl hd ?_
          refine J_iload_n hx dX7_leastBy_123 (i := 2) rfl rfl ?_
          refine J_iconst (v := 1) hx dX7_leastBy_124 (by decide) ?_
          refine J_isub (v := 0) hx dX7_leastBy_125 (by decide) ?_
          refine J_invV (As := [vI (0)]) (st := []) hx lk_X7_333 okX7_gameOf dX7_leastBy_126 hTc.o (by decide) rfl rfl rfl (Nat.le_of_ble_eq_true rfl) (Nat.zero_add _).symm (Nat.zero_add _).symm rfl (c_X7_gameOf_0 hTc hN5 hW5 ?_)
          refine J_ineg (v := -(gmV 0 (runT A p j (takenY A j 1)))) hx dX7_leastBy_129 (w32_id (by omega) (by omega)) ?_
          refine J_istore (lsn := [vR (r), vI (((p : Nat) : Int)), vI (1), vI (-(gmV 0 (runT A p j (takenY A j 0)))), vI (1), vI (((j : Nat) : Int)), vI (1), vI (1), vI (-(gmV 0 (runT A p j (takenY A j 1))))]) hx dX7_leastBy_130 (Nat.le_of_ble_eq_true rfl) rfl rfl ?_
          refine J_iload hx dX7_leastBy_132 rfl ?_
          refine J_if_eq (tgt := 143) hx dX7_leastBy_134 (by decide) (fun c9 => absurd c9 (by decide)) (fun _ => ?_)
          refine J_iload hx dX7_leastBy_137 rfl ?_
          refine J_iload_n hx dX7_leastBy_139 (i := 3) rfl rfl ?_
          refine J_icmp_ge (tgt := 148) hx dX7_leastBy_140 (by decide) (fun c50 => ?_) (fun c50 => ?_)
          · refine J_iload_n hx dX7_leastBy_148 (i := 3) rfl rfl ?_
            refine J_istore_n (lsn := [vR (r), vI (((p : Nat) : Int)), vI (1), vI (-(gmV 0 (runT A p j (takenY A j 0)))), vI (1), vI (((j : Nat) : Int)), vI (1), vI (1), vI (-(gmV 0 (runT A p j (takenY A j 1))))]) hx dX7_leastBy_149 (i := 3) rfl (Nat.le_of_ble_eq_true rfl) rfl rfl ?_
            refine J_iconst (v := 1) hx dX7_leastBy_150 (by decide) ?_
            refine J_istore (lsn := [vR (r), vI (((p : Nat) : Int)), vI (1), vI (-(gmV 0 (runT A p j (takenY A j 0)))), vI (1), vI (((j : Nat) : Int)), vI (1), vI (1), vI (-(gmV 0 (runT A p j (takenY A j 1))))]) hx dX7_leastBy_151 (Nat.le_of_ble_eq_true rfl) rfl rfl ?_
            refine J_iinc (v := 2) (lsn := [vR (r), vI (((p : Nat) : Int)), vI (1), vI (-(gmV 0 (runT A p j (takenY A j 0)))), vI (1), vI (((j : Nat) : Int)), vI (1), vI (2), vI (-(gmV 0 (runT A p j (takenY A j 1))))]) hx dX7_leastBy_153 rfl (by decide) rfl rfl ?_
            refine J_goto (tgt := 66) hx dX7_leastBy_156 (by decide) ?_
            refine J_iload hx dX7_leastBy_66 rfl ?_
            refine J_iload hx dX7_leastBy_68 rfl ?_
            refine J_if_eq (tgt := 77) hx dX7_leastBy_70 (by decide) (fun c9 => absurd c9 (by decide)) (fun _ => ?_)
            refine J_iconst (v := 2) hx dX7_leastBy_73 (by decide) ?_
            refine J_goto (tgt := 78) hx dX7_leastBy_74 (by decide) ?_
            refine J_icmp_ge (tgt := 159) hx dX7_leastBy_78 (by decide) (fun _ => ?_) (fun c9 => absurd c9 (by decide))
            refine J_iinc (v := ((j : Nat) : Int) + 1) (lsn := [vR (r), vI (((p : Nat) : Int)), vI (1), vI (-(gmV 0 (runT A p j (takenY A j 0)))), vI (1), vI (((j : Nat) : Int) + 1), vI (1), vI (2), vI (-(gmV 0 (runT A p j (takenY A j 1))))]) hx dX7_leastBy_159 rfl (jinc1 (by omega) (by omega)) rfl rfl ?_
            refine J_goto (tgt := 8) hx dX7_leastBy_162 (by decide) ?_
            have e9 : -(gmV 0 (runT A p j (takenY A j 0))) = lbJ (jtV (gmV 0) A p) (j + 1) := by
              have ej := jtV_t (f := gmV 0) (A := A) (p := p) (j := j) (by omega)
              have rgj := lbJ_rg (h := (jtV (gmV 0) A p)) (k := j) (fun j9 h9 => jtV_rg (gmV_rg 0) hW ho hp hc (by omega))
              have hz : j = 0 → lbJ (jtV (gmV 0) A p) j = 9 := fun e => by rw [e]; rfl
              rw [lbJ_s]
              (repeat' split at *) <;> omega
            rw [e9]
            exact lp_X7_leastBy_1 hT hN hW hTc hd hap hx hr hp hc ho hQ (j + 1) _ _ _ _ _ M5 hY5 (fun q9 h9 => by rw [hG5 q9 h9, hG3 q9 h9]; exact hG1 q9 h9) (by omega) (Or.inr ⟨by omega, rfl, rfl⟩)
          · refine J_iload hx dX7_leastBy_143 rfl ?_
            refine J_goto (tgt := 149) hx dX7_leastBy_145 (by decide) ?_
            refine J_istore_n (lsn := [vR (r), vI (((p : Nat) : Int)), vI (1), vI (-(gmV 0 (runT A p j (takenY A j 1)))), vI (1), vI (((j : Nat) : Int)), vI (1), vI (1), vI (-(gmV 0 (runT A p j (takenY A j 1))))]) hx dX7_leastBy_149 (i := 3) rfl (Nat.le_of_ble_eq_true rfl) rfl rfl ?_
            refine J_iconst (v := 1) hx dX7_leastBy_150 (by decide) ?_
            refine J_istore (lsn := [vR (r), vI (((p : Nat) : Int)), vI (1), vI (-(gmV 0 (runT A p j (takenY A j 1)))), vI (1), vI (((j : Nat) : Int)), vI (1), vI (1), vI (-(gmV 0 (runT A p j (takenY A j 1))))]) hx dX7_leastBy_151 (Nat.le_of_ble_eq_true rfl) rfl rfl ?_
            refine J_iinc (v := 2) (lsn := [vR (r), vI (((p : Nat) : Int)), vI (1), vI (-(gmV 0 (runT A p j (takenY A j 1)))), vI (1), vI (((j : Nat) : Int)), vI (1), vI (2), vI (-(gmV 0 (runT A p j (takenY A j 1))))]) hx dX7_leastBy_153 rfl (by decide) rfl rfl ?_
            refine J_goto (tgt := 66) hx dX7_leastBy_156 (by decide) ?_
            refine J_iload hx dX7_leastBy_66 rfl ?_
            refine J_iload hx dX7_leastBy_68 rfl ?_
            refine J_if_eq (tgt := 77) hx dX7_leastBy_70 (by decide) (fun c9 => absurd c9 (by decide)) (fun _ => ?_)
            refine J_iconst (v := 2) hx dX7_leastBy_73 (by decide) ?_
            refine J_goto (tgt := 78) hx dX7_leastBy_74 (by decide) ?_
            refine J_icmp_ge (tgt := 159) hx dX7_leastBy_78 (by decide) (fun _ => ?_) (fun c9 => absurd c9 (by decide))
            refine J_iinc (v := ((j : Nat) : Int) + 1) (lsn := [vR (r), vI (((p : Nat) : Int)), vI (1), vI (-(gmV 0 (runT A p j (takenY A j 1)))), vI (1), vI (((j : Nat) : Int) + 1), vI (1), vI (2), vI (-(gmV 0 (runT A p j (takenY A j 1))))]) hx dX7_leastBy_159 rfl (jinc1 (by omega) (by omega)) rfl rfl ?_
            refine J_goto (tgt := 8) hx dX7_leastBy_162 (by decide) ?_
            have e9 : -(gmV 0 (runT A p j (takenY A j 1))) = lbJ (jtV (gmV 0) A p) (j + 1) := by
              have ej := jtV_t (f := gmV 0) (A := A) (p := p) (j := j) (by omega)
              have rgj := lbJ_rg (h := (jtV (gmV 0) A p)) (k := j) (fun j9 h9 => jtV_rg (gmV_rg 0) hW ho hp hc (by omega))
              have hz : j = 0 → lbJ (jtV (gmV 0) A p) j = 9 := fun e => by rw [e]; rfl
              rw [lbJ_s]
              (repeat' split at *) <;> omega
            rw [e9]
            exact lp_X7_leastBy_1 hT hN hW hTc hd hap hx hr hp hc ho hQ (j + 1) _ _ _ _ _ M5 hY5 (fun q9 h9 => by rw [hG5 q9 h9, hG3 q9 h9]; exact hG1 q9 h9) (by omega) (Or.inr ⟨by omega, rfl, rfl⟩)
termination_by (A.ch A.tn).length - j
decreasing_by all_goals omega

set_option maxHeartbeats 4000000 in
theorem c_X7_leastBy_1 {g : WG} {d : Nat} {T : TT} {M : MM} {r sz : Nat} {A : YA} {Q : MVal → TT → MM → Nat → Prop} (hT : MT T r) (hN : MN M r A) (hW : WFY A) {c : Nat} (hTc : MT T c) (hd : (T r).2.2 26 = some c) (hap : ap r c) {p : Nat} (hp : p < A.n) (hc : A.co p ≠ A.tn) (ho : ¬ overY A) (hQ : ∀ M', (∀ q, (q < c ∨ c + 29 ≤ q) → M' q = M q) → Q (vI (lbP (gmV 0) A p)) T M' sz) : Ct g (d + 3) mX7_leastBy [vR (r), vI (((p : Nat) : Int)), vI (1)] T M sz 0 0 Q := by
  refine Ct_of2 (ls := [vR (r), vI (((p : Nat) : Int)), vI (1), vU, vU, vU, vU, vU, vU]) okX7_leastBy rfl (Nat.le_of_ble_eq_true rfl) rfl ?_
  intro x hx hr hnm
  have hn8 := hW.n8
  have ht2 := hW.tn2
  have hl8 := hW.len8 ht2
  refine J_iconst (v := 0) hx dX7_leastBy_0 (by decide) ?_
  refine J_istore_n (lsn := [vR (r), vI (((p : Nat) : Int)), vI (1), vI (0), vU, vU, vU, vU, vU]) hx dX7_leastBy_1 (i := 3) rfl (Nat.le_of_ble_eq_true rfl) rfl rfl ?_
  refine J_iconst (v := 0) hx dX7_leastBy_2 (by decide) ?_
  refine J_istore (lsn := [vR (r), vI (((p : Nat) : Int)), vI (1), vI (0), vI (0), vU, vU, vU, vU]) hx dX7_leastBy_3 (Nat.le_of_ble_eq_true rfl) rfl rfl ?_
  refine J_iconst (v := 0) hx dX7_leastBy_5 (by decide) ?_
  refine J_istore (lsn := [vR (r), vI (((p : Nat) : Int)), vI (1), vI (0), vI (0), vI (0), vU, vU, vU]) hx dX7_leastBy_6 (Nat.le_of_ble_eq_true rfl) rfl rfl ?_
  exact lp_X7_leastBy_1 hT hN hW hTc hd hap hx hr hp hc ho hQ 0 _ _ _ _ _ M hN (fun _ _ => rfl) (by have := not_over2 hW ho; omega) (Or.inl ⟨rfl, rfl⟩)

set_option maxHeartbeats 4000000 in
theorem lp_X7_gameOf_1 {g : WG} {d : Nat} {T : TT} {M : MM} {r sz : Nat} {A : YA} {Q : MVal → TT → MM → Nat → Prop} (hT : MT T r) (hN : MN M r A) (hW : WFY A) {c : Nat} (hTc : MT T c) (hd : (T r).2.2 26 = some c) (hap : ap r c) {x : CX} (hx : OKx g x RX7 cX7_gameOf (d + 4)) (hr : RTx g x (some .int) Q) (ho : ¬ overY A) (hQ : ∀ M', (∀ q j, ¬ (c ≤ q ∧ q < c + 29) → ¬ (q = r ∧ j = 37) → M' q j = M q j) → (¬ overY A → M' r 37 = gmC (gmV 0) A) → Q (vI (gmV 1 A)) T M' sz) (i : Nat) (b wh : Int) (u : MVal) (M1 : MM) (hY1 : MN M1 r A) (hG1 : ∀ q, (q < c ∨ c + 29 ≤ q) → M1 q = M q) (hi : i ≤ A.n) (hs : (pick (calY A) (gmK (gmV 0) A) i = none ∧ wh = -1) ∨ (∃ z : Nat, pick (calY A) (gmK (gmV 0) A) i = some z ∧ wh = ((z : Nat) : Int) ∧ b = - gmK (gmV 0) A z)) : Jd g x 58 [vR (r), vI (1), vI (b), vI (wh), vI (((i : Nat) : Int)), u] [] T M1 sz 0 0 := by
  have hn8 := hW.n8
  have ht2 := hW.tn2
  have hl8 := hW.len8 ht2
  have rgb : (∃ z : Nat, pick (calY A) (gmK (gmV 0) A) i = some z ∧ b = - gmK (gmV 0) A z) → -8 ≤ b ∧ b ≤ 8 := fun h => by
      obtain ⟨z, z1, z2⟩ := h
      have hsp := pick_spec (calY A) (gmK (gmV 0) A) i
      rw [z1] at hsp
      have hb2 := hsp.2.1
      unfold calY at hb2
      have := lbP_rg (gmV_rg 0) hW ho (p := z) (by omega) (by simpa using hb2)
      unfold gmK at z2; omega
  refine J_iload hx dX7_gameOf_58 rfl ?_
  refine J_aload_n hx dX7_gameOf_60 (i := 0) rfl rfl ?_
  refine J_getI2 (v := ((A.n : Nat) : Int)) hx fl_X7_82 cl_X7 dX7_gameOf_61 hT.o (by decide) rfl hY1.pp ?_
  have rg1 := hW.n8
  refine J_icmp_ge (tgt := 112) hx dX7_gameOf_64 (by decide) (fun c2 => ?_) (fun c2 => ?_)
  · refine J_aload_n hx dX7_gameOf_112 (i := 0) rfl rfl ?_
    refine J_iload_n hx dX7_gameOf_113 (i := 3) rfl rfl ?_
    refine J_putI hx fl_X7_330 cl_X7 dX7_gameOf_114 hT.o (by decide) rfl (Or.inl rfl) (by decide) ?_
    generalize eM2 : up2 M1 r 37 wh = M2
    have hM2a : M2 r 37 = wh := by rw [← eM2]; exact up2_at
    have hM2o : ∀ b9 j9, (b9 ≠ r ∨ j9 ≠ 37) → M2 b9 j9 = M1 b9 j9 := fun b9 j9 h9 => by rw [← eM2]; exact up2_ne h9
    have hM2r : ∀ b9, b9 ≠ r → M2 b9 = M1 b9 := fun b9 h9 => by rw [← eM2]; exact up2_row h9
    refine J_iload_n hx dX7_gameOf_117 (i := 2) rfl rfl ?_
    refine J_iret hx hr dX7_gameOf_118 ?_
    have ei : i = A.n := by omega
    subst ei
    obtain ⟨z, z1, -, -⟩ := gm_some (f := gmV 0) hW ho
    have e8 : b = gmV 1 A ∧ wh = gmC (gmV 0) A := by
      rcases hs with ⟨h1, h2⟩ | ⟨y, h1, h2, h3⟩
      · rw [z1] at h1; cases h1
      · rw [gmV_s ho, pkV_of h1]; unfold gmC; rw [pkI_of h1]; exact ⟨h3, h2⟩
    rw [← e8.1, ← e8.2] at hQ
    exact hQ M2 (fun q9 j9 h7 h8 => by rw [hM2o q9 j9 (by omega), hG1 q9 (by omega)]) (fun _ => hM2a)
  · refine J_aload_n hx dX7_gameOf_67 (i := 0) rfl rfl ?_
    refine J_iload hx dX7_gameOf_68 rfl ?_
    refine J_invV (As := [vI (((i : Nat) : Int))]) (st := []) hx lk_X7_119 okX7_chainAt dX7_gameOf_70 hT.o (by decide) rfl rfl rfl (Nat.le_of_ble_eq_true rfl) (Nat.zero_add _).symm (Nat.zero_add _).symm rfl (c_X7_chainAt hT hY1 hW (p := i) (by omega) ?_)
    have rg3 := A.co2 i
    refine J_aload_n hx dX7_gameOf_73 (i := 0) rfl rfl ?_
    refine J_getI2 (v := ((A.tn : Nat) : Int)) hx fl_X7_148 cl_X7 dX7_gameOf_74 hT.o (by decide) rfl (hY1.tn hW) ?_
    have rg4 := hW.tn2
    refine J_icmp_eq (tgt := 106) hx dX7_gameOf_77 (by decide) (fun c5 => ?_) (fun c5 => ?_)
    · refine J_iinc (v := ((i : Nat) : Int) + 1) (lsn := [vR (r), vI (1), vI (b), vI (wh), vI (((i : Nat) : Int) + 1), u]) hx dX7_gameOf_106 rfl (jinc1 (by omega) (by omega)) rfl rfl ?_
      refine J_goto (tgt := 58) hx dX7_gameOf_109 (by decide) ?_
      have e9 : pick (calY A) (gmK (gmV 0) A) (i + 1) = pick (calY A) (gmK (gmV 0) A) i := qk_no (H := 9) (decide_eq_false (by omega))
      exact lp_X7_gameOf_1 hT hN hW hTc hd hap hx hr ho hQ (i + 1) _ _ _ M1 hY1 hG1 (by omega) (by rw [e9]; exact hs)
    · refine J_aload_n hx dX7_gameOf_80 (i := 0) rfl rfl ?_
      refine J_iload hx dX7_gameOf_81 rfl ?_
      refine J_iload_n hx dX7_gameOf_83 (i := 1) rfl rfl ?_
      refine J_invV (As := [vI (((i : Nat) : Int)), vI (1)]) (st := []) hx lk_X7_327 okX7_leastBy dX7_gameOf_84 hT.o (by decide) rfl rfl rfl (Nat.le_of_ble_eq_true rfl) (Nat.zero_add _).symm (Nat.zero_add _).symm rfl (c_X7_leastBy_1 hT hY1 hW hTc hd hap (p := i) (by omega) (by omega) ho ?_)
      intro M2 hG2
      have hY2 := hY1.far hG2 hap
      have rgl := lbP_rg (gmV_rg 0) hW ho (p := i) (by omega) (by omega)
      refine J_istore (lsn := [vR (r), vI (1), vI (b), vI (wh), vI (((i : Nat) : Int)), vI (lbP (gmV 0) A i)]) hx dX7_gameOf_87 (Nat.le_of_ble_eq_true rfl) rfl rfl ?_
      refine J_iload_n hx dX7_gameOf_89 (i := 3) rfl rfl ?_
      refine J_iconst (v := -1) hx dX7_gameOf_90 (by decide) ?_
      refine J_icmp_eq (tgt := 100) hx dX7_gameOf_91 (by decide) (fun c6 => ?_) (fun c6 => ?_)
      · refine J_iload hx dX7_gameOf_100 rfl ?_
        refine J_istore_n (lsn := [vR (r), vI (1), vI (lbP (gmV 0) A i), vI (wh), vI (((i : Nat) : Int)), vI (lbP (gmV 0) A i)]) hx dX7_gameOf_102 (i := 2) rfl (Nat.le_of_ble_eq_true rfl) rfl rfl ?_
        refine J_iload hx dX7_gameOf_103 rfl ?_
        refine J_istore_n (lsn := [vR (r), vI (1), vI (lbP (gmV 0) A i), vI (((i : Nat) : Int)), vI (((i : Nat) : Int)), vI (lbP (gmV 0) A i)]) hx dX7_gameOf_105 (i := 3) rfl (Nat.le_of_ble_eq_true rfl) rfl rfl ?_
        refine J_iinc (v := ((i : Nat) : Int) + 1) (lsn := [vR (r), vI (1), vI (lbP (gmV 0) A i), vI (((i : Nat) : Int)), vI (((i : Nat) : Int) + 1), vI (lbP (gmV 0) A i)]) hx dX7_gameOf_106 rfl (jinc1 (by omega) (by omega)) rfl rfl ?_
        refine J_goto (tgt := 58) hx dX7_gameOf_109 (by decide) ?_
        have e9 : pick (calY A) (gmK (gmV 0) A) (i + 1) = some i := by
          rcases hs with ⟨h1, h2⟩ | ⟨z, h1, h2, h3⟩
          · exact qk_lt (H := 9) (decide_eq_true (by omega)) (by unfold pkV; rw [h1]; show gmK _ _ _ < 9; unfold gmK; omega)
          · exact qk_lt (H := 9) (decide_eq_true (by omega)) (by rw [pkV_of h1]; unfold gmK at *; omega)
        exact lp_X7_gameOf_1 hT hN hW hTc hd hap hx hr ho hQ (i + 1) _ _ _ M2 hY2 (fun q9 h9 => by rw [hG2 q9 h9]; exact hG1 q9 h9) (by omega) (Or.inr ⟨i, e9, rfl, by unfold gmK; omega⟩)
      · refine J_iload hx dX7_gameOf_94 rfl ?_
        refine J_iload_n hx dX7_gameOf_96 (i := 2) rfl rfl ?_
        refine J_icmp_le (tgt := 106) hx dX7_gameOf_97 (by decide) (fun c7 => ?_) (fun c7 => ?_)
        · refine J_iinc (v := ((i : Nat) : Int) + 1) (lsn := [vR (r), vI (1), vI (b), vI (wh), vI (((i : Nat) : Int) + 1), vI (lbP (gmV 0) A i)]) hx dX7_gameOf_106 rfl (jinc1 (by omega) (by omega)) rfl rfl ?_
          refine J_goto (tgt := 58) hx dX7_gameOf_109 (by decide) ?_
          have e9 : pick (calY A) (gmK (gmV 0) A) (i + 1) = pick (calY A) (gmK (gmV 0) A) i := by
            rcases hs with ⟨h1, h2⟩ | ⟨z, h1, h2, h3⟩
            · exfalso; omega
            · exact qk_ge (H := 9) (by unfold gmK; omega) (by rw [pkV_of h1]; unfold gmK at *; omega)
          exact lp_X7_gameOf_1 hT hN hW hTc hd hap hx hr ho hQ (i + 1) _ _ _ M2 hY2 (fun q9 h9 => by rw [hG2 q9 h9]; exact hG1 q9 h9) (by omega) (by rw [e9]; exact hs)
        · refine J_iload hx dX7_gameOf_100 rfl ?_
          refine J_istore_n (lsn := [vR (r), vI (1), vI (lbP (gmV 0) A i), vI (wh), vI (((i : Nat) : Int)), vI (lbP (gmV 0) A i)]) hx dX7_gameOf_102 (i := 2) rfl (Nat.le_of_ble_eq_true rfl) rfl rfl ?_
          refine J_iload hx dX7_gameOf_103 rfl ?_
          refine J_istore_n (lsn := [vR (r), vI (1), vI (lbP (gmV 0) A i), vI (((i : Nat) : Int)), vI (((i : Nat) : Int)), vI (lbP (gmV 0) A i)]) hx dX7_gameOf_105 (i := 3) rfl (Nat.le_of_ble_eq_true rfl) rfl rfl ?_
          refine J_iinc (v := ((i : Nat) : Int) + 1) (lsn := [vR (r), vI (1), vI (lbP (gmV 0) A i), vI (((i : Nat) : Int)), vI (((i : Nat) : Int) + 1), vI (lbP (gmV 0) A i)]) hx dX7_gameOf_106 rfl (jinc1 (by omega) (by omega)) rfl rfl ?_
          refine J_goto (tgt := 58) hx dX7_gameOf_109 (by decide) ?_
          have e9 : pick (calY A) (gmK (gmV 0) A) (i + 1) = some i := by
            rcases hs with ⟨h1, h2⟩ | ⟨z, h1, h2, h3⟩
            · exact qk_lt (H := 9) (decide_eq_true (by omega)) (by unfold pkV; rw [h1]; show gmK _ _ _ < 9; unfold gmK; omega)
            · exact qk_lt (H := 9) (decide_eq_true (by omega)) (by rw [pkV_of h1]; unfold gmK at *; omega)
          exact lp_X7_gameOf_1 hT hN hW hTc hd hap hx hr ho hQ (i + 1) _ _ _ M2 hY2 (fun q9 h9 => by rw [hG2 q9 h9]; exact hG1 q9 h9) (by omega) (Or.inr ⟨i, e9, rfl, by unfold gmK; omega⟩)
termination_by A.n - i
decreasing_by all_goals omega

set_option maxHeartbeats 4000000 in
theorem c_X7_gameOf_1s {g : WG} {d : Nat} {T : TT} {M : MM} {r sz : Nat} {A : YA} {Q : MVal → TT → MM → Nat → Prop} (hT : MT T r) (hN : MN M r A) (hW : WFY A) {c : Nat} (hTc : MT T c) (hd : (T r).2.2 26 = some c) (hap : ap r c) (ho : ¬ overY A) (hQ : ∀ M', (∀ q j, ¬ (c ≤ q ∧ q < c + 29) → ¬ (q = r ∧ j = 37) → M' q j = M q j) → (¬ overY A → M' r 37 = gmC (gmV 0) A) → Q (vI (gmV 1 A)) T M' sz) : Ct g (d + 4) mX7_gameOf [vR (r), vI (1)] T M sz 0 0 Q := by
  refine Ct_of2 (ls := [vR (r), vI (1), vU, vU, vU, vU]) okX7_gameOf rfl (Nat.le_of_ble_eq_true rfl) rfl ?_
  intro x hx hr hnm
  have hn8 := hW.n8
  have ht2 := hW.tn2
  have hl8 := hW.len8 ht2
  have hY1 := hN
  refine J_iload_n hx dX7_gameOf_0 (i := 1) rfl rfl ?_
  refine J_if_eq (tgt := 11) hx dX7_gameOf_1 (by decide) (fun c9 => absurd c9 (by decide)) (fun _ => ?_)
  refine J_aload_n hx dX7_gameOf_4 (i := 0) rfl rfl ?_
  refine J_invV (As := []) (st := []) hx lk_X7_208 okX7_isOver dX7_gameOf_5 hT.o (by decide) rfl rfl rfl (Nat.le_of_ble_eq_true rfl) (Nat.zero_add _).symm (Nat.zero_add _).symm rfl (c_X7_isOver hT hY1 hW  ?_)
  intro v2 hv2
  refine J_if_eq (tgt := 33) hx dX7_gameOf_8 (by decide) (fun c3 => ?_) (fun c3 => ?_)
  · refine J_aload_n hx dX7_gameOf_33 (i := 0) rfl rfl ?_
    refine J_getN (r := some c) hx fl_X7_324 cl_X7 dX7_gameOf_34 hT.o (by decide) rfl hd ?_
    refine J_ifnonnull (tgt := 51) hx dX7_gameOf_37 (by decide) (fun a9 h9 => ?_) (fun h9 => by cases h9)
    refine J_iconst (v := 0) hx dX7_gameOf_51 (by decide) ?_
    refine J_istore_n (lsn := [vR (r), vI (1), vI (0), vU, vU, vU]) hx dX7_gameOf_52 (i := 2) rfl (Nat.le_of_ble_eq_true rfl) rfl rfl ?_
    refine J_iconst (v := -1) hx dX7_gameOf_53 (by decide) ?_
    refine J_istore_n (lsn := [vR (r), vI (1), vI (0), vI ((-1)), vU, vU]) hx dX7_gameOf_54 (i := 3) rfl (Nat.le_of_ble_eq_true rfl) rfl rfl ?_
    refine J_iconst (v := 0) hx dX7_gameOf_55 (by decide) ?_
    refine J_istore (lsn := [vR (r), vI (1), vI (0), vI ((-1)), vI (0), vU]) hx dX7_gameOf_56 (Nat.le_of_ble_eq_true rfl) rfl rfl ?_
    exact lp_X7_gameOf_1 hT hN hW hTc hd hap hx hr ho hQ 0 _ _ _ M hN (fun _ _ => rfl) (by omega) (Or.inl ⟨rfl, rfl⟩)
  · refine J_aload_n hx dX7_gameOf_11 (i := 0) rfl rfl ?_
    refine J_getR (b := r + 25) hx fl_X7_57 cl_X7 dX7_gameOf_12 hT.o (by decide) rfl hT.r16 ?_
    refine J_aload_n hx dX7_gameOf_15 (i := 0) rfl rfl ?_
    refine J_getI2 (v := ((A.tn : Nat) : Int)) hx fl_X7_148 cl_X7 dX7_gameOf_16 hT.o (by decide) rfl (hY1.tn hW) ?_
    have rg4 := hW.tn2
    refine J_iald2 (v := (((A.ch A.tn).length : Nat) : Int)) hx A.tn dX7_gameOf_19 hT.k25 (by omega) (hT.l25 (by omega)) (hY1.sz (by omega)) ?_
    have rg5 := hW.len8 (c := A.tn) (by omega)
    have rg6 := hW.lenN (c := A.tn) (by omega)
    refine J_aload_n hx dX7_gameOf_20 (i := 0) rfl rfl ?_
    refine J_getR (b := r + 25) hx fl_X7_57 cl_X7 dX7_gameOf_21 hT.o (by decide) rfl hT.r16 ?_
    refine J_iconst (v := 1) hx dX7_gameOf_24 (by decide) ?_
    refine J_aload_n hx dX7_gameOf_25 (i := 0) rfl rfl ?_
    refine J_getI2 (v := ((A.tn : Nat) : Int)) hx fl_X7_148 cl_X7 dX7_gameOf_26 hT.o (by decide) rfl (hY1.tn hW) ?_
    have rg7 := hW.tn2
    refine J_isub (v := ((1 - A.tn : Nat) : Int)) hx dX7_gameOf_29 (by rw [w32_id (by omega) (by omega)]; omega) ?_
    refine J_iald2 (v := (((A.ch (1 - A.tn)).length : Nat) : Int)) hx (1 - A.tn) dX7_gameOf_30 hT.k25 (by omega) (hT.l25 (by omega)) (hY1.sz (by omega)) ?_
    have rg8 := hW.len8 (c := 1 - A.tn) (by omega)
    have rg9 := hW.lenN (c := 1 - A.tn) (by omega)
    refine J_isub (v := (((A.ch A.tn).length : Nat) : Int) - (((A.ch (1 - A.tn)).length : Nat) : Int)) hx dX7_gameOf_31 (w32_id (by omega) (by omega)) ?_
    refine J_iret hx hr dX7_gameOf_32 ?_
    exfalso; unfold overY at *; omega

set_option maxHeartbeats 4000000 in
theorem c_X7_gameOf_1n {g : WG} {d : Nat} {T : TT} {M : MM} {r sz : Nat} {A : YA} {Q : MVal → TT → MM → Nat → Prop} (hT : MT T r) (hN : MN M r A) (hW : WFY A) (hd0 : (T r).2.2 26 = none) (hrz : r + 29 ≤ sz) (ho : ¬ overY A) (hQ : ∀ T' M1 M', NB T T' M M1 r 26 sz → (∀ q j, ¬ (sz ≤ q ∧ q < sz + 29) → ¬ (q = r ∧ j = 37) → M' q j = M1 q j) → (¬ overY A → M' r 37 = gmC (gmV 0) A) → Q (vI (gmV 1 A)) T' M' (sz + 29)) : Ct g (d + 4) mX7_gameOf [vR (r), vI (1)] T M sz 29 777 Q := by
  refine Ct_of2 (ls := [vR (r), vI (1), vU, vU, vU, vU]) okX7_gameOf rfl (Nat.le_of_ble_eq_true rfl) rfl ?_
  intro x hx hr hnm
  have hn8 := hW.n8
  have ht2 := hW.tn2
  have hl8 := hW.len8 ht2
  have hY1 := hN
  refine J_iload_n hx dX7_gameOf_0 (i := 1) rfl rfl ?_
  refine J_if_eq (tgt := 11) hx dX7_gameOf_1 (by decide) (fun c9 => absurd c9 (by decide)) (fun _ => ?_)
  refine J_aload_n hx dX7_gameOf_4 (i := 0) rfl rfl ?_
  refine J_invV (As := []) (st := []) hx lk_X7_208 okX7_isOver dX7_gameOf_5 hT.o (by decide) rfl rfl rfl (Nat.le_of_ble_eq_true rfl) (Nat.zero_add _).symm (Nat.zero_add _).symm rfl (c_X7_isOver hT hY1 hW  ?_)
  intro v2 hv2
  refine J_if_eq (tgt := 33) hx dX7_gameOf_8 (by decide) (fun c3 => ?_) (fun c3 => ?_)
  · refine J_aload_n hx dX7_gameOf_33 (i := 0) rfl rfl ?_
    refine J_getN (r := none) hx fl_X7_324 cl_X7 dX7_gameOf_34 hT.o (by decide) rfl hd0 ?_
    refine J_ifnonnull (tgt := 51) hx dX7_gameOf_37 (by decide) (fun a9 h9 => by cases h9) (fun _ => ?_)
    refine nb_X7_gameOf (nc := 0) (ns := 0) hx hT.o (by omega) (fun T1 M1 hB => ?_)
    have hT1 := hB.mt (Or.inr (Or.inr rfl)) hT hrz
    have hN1 : MN M1 r A := hN.same (fun a9 j9 h9 => by rw [(hB.2.2.2.1 a9 (by omega)).1])
    refine J_iconst (v := 0) hx dX7_gameOf_51 (by decide) ?_
    refine J_istore_n (lsn := [vR (r), vI (1), vI (0), vU, vU, vU]) hx dX7_gameOf_52 (i := 2) rfl (Nat.le_of_ble_eq_true rfl) rfl rfl ?_
    refine J_iconst (v := -1) hx dX7_gameOf_53 (by decide) ?_
    refine J_istore_n (lsn := [vR (r), vI (1), vI (0), vI ((-1)), vU, vU]) hx dX7_gameOf_54 (i := 3) rfl (Nat.le_of_ble_eq_true rfl) rfl rfl ?_
    refine J_iconst (v := 0) hx dX7_gameOf_55 (by decide) ?_
    refine J_istore (lsn := [vR (r), vI (1), vI (0), vI ((-1)), vI (0), vU]) hx dX7_gameOf_56 (Nat.le_of_ble_eq_true rfl) rfl rfl ?_
    exact lp_X7_gameOf_1 hT1 hN1 hW hB.1 hB.2.2.1 (Or.inl hrz) hx hr ho (fun M9 h8 h9 => hQ T1 M1 M9 hB h8 h9) 0 _ _ _ M1 hN1 (fun _ _ => rfl) (by omega) (Or.inl ⟨rfl, rfl⟩)
  · refine J_aload_n hx dX7_gameOf_11 (i := 0) rfl rfl ?_
    refine J_getR (b := r + 25) hx fl_X7_57 cl_X7 dX7_gameOf_12 hT.o (by decide) rfl hT.r16 ?_
    refine J_aload_n hx dX7_gameOf_15 (i := 0) rfl rfl ?_
    refine J_getI2 (v := ((A.tn : Nat) : Int)) hx fl_X7_148 cl_X7 dX7_gameOf_16 hT.o (by decide) rfl (hY1.tn hW) ?_
    have rg4 := hW.tn2
    refine J_iald2 (v := (((A.ch A.tn).length : Nat) : Int)) hx A.tn dX7_gameOf_19 hT.k25 (by omega) (hT.l25 (by omega)) (hY1.sz (by omega)) ?_
    have rg5 := hW.len8 (c := A.tn) (by omega)
    have rg6 := hW.lenN (c := A.tn) (by omega)
    refine J_aload_n hx dX7_gameOf_20 (i := 0) rfl rfl ?_
    refine J_getR (b := r + 25) hx fl_X7_57 cl_X7 dX7_gameOf_21 hT.o (by decide) rfl hT.r16 ?_
    refine J_iconst (v := 1) hx dX7_gameOf_24 (by decide) ?_
    refine J_aload_n hx dX7_gameOf_25 (i := 0) rfl rfl ?_
    refine J_getI2 (v := ((A.tn : Nat) : Int)) hx fl_X7_148 cl_X7 dX7_gameOf_26 hT.o (by decide) rfl (hY1.tn hW) ?_
    have rg7 := hW.tn2
    refine J_isub (v := ((1 - A.tn : Nat) : Int)) hx dX7_gameOf_29 (by rw [w32_id (by omega) (by omega)]; omega) ?_
    refine J_iald2 (v := (((A.ch (1 - A.tn)).length : Nat) : Int)) hx (1 - A.tn) dX7_gameOf_30 hT.k25 (by omega) (hT.l25 (by omega)) (hY1.sz (by omega)) ?_
    have rg8 := hW.len8 (c := 1 - A.tn) (by omega)
    have rg9 := hW.lenN (c := 1 - A.tn) (by omega)
    refine J_isub (v := (((A.ch A.tn).length : Nat) : Int) - (((A.ch (1 - A.tn)).length : Nat) : Int)) hx dX7_gameOf_31 (w32_id (by omega) (by omega)) ?_
    refine J_iret hx hr dX7_gameOf_32 ?_
    exfalso; unfold overY at *; omega

