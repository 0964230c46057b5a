def bt (u t : Int) : Prop := jand (jshr u t) 1 ≠ 0
theorem bt_and0 : ∀ u : Fin 256, ∀ t : Fin 8, (jand ((u : Nat) : Int) (jshl 1 ((t : Nat) : Int)) = 0 ↔ jand (jshr ((u : Nat) : Int) ((t : Nat) : Int)) 1 = 0) := by decide +kernel
theorem bt_or0 : ∀ u : Fin 256, ∀ t : Fin 8, 0 ≤ jor ((u : Nat) : Int) (jshl 1 ((t : Nat) : Int)) ∧ jor ((u : Nat) : Int) (jshl 1 ((t : Nat) : Int)) < 256 := by decide +kernel
theorem bt_set0 : ∀ u : Fin 256, ∀ t : Fin 8, ∀ q : Fin 8, (jand (jshr (jor ((u : Nat) : Int) (jshl 1 ((t : Nat) : Int))) ((q : Nat) : Int)) 1 = 0 ↔ (q ≠ t ∧ jand (jshr ((u : Nat) : Int) ((q : Nat) : Int)) 1 = 0)) := by decide +kernel
theorem bt_zero0 : ∀ q : Fin 8, jand (jshr 0 ((q : Nat) : Int)) 1 = 0 := by decide +kernel
theorem bt_and {u : Int} {t : Nat} (h0 : 0 ≤ u ∧ u < 256) (ht : t < 8) : jand u (jshl 1 ((t : Nat) : Int)) = 0 ↔ ¬ bt u ((t : Nat) : Int) := by
  have h := bt_and0 ⟨u.toNat, by omega⟩ ⟨t, ht⟩
  simp only [Int.toNat_of_nonneg h0.1] at h
  unfold bt
  rw [Decidable.not_not]; exact h
theorem bt_rg {u : Int} {t : Nat} (h0 : 0 ≤ u ∧ u < 256) (ht : t < 8) : 0 ≤ jor u (jshl 1 ((t : Nat) : Int)) ∧ jor u (jshl 1 ((t : Nat) : Int)) < 256 := by
  have h := bt_or0 ⟨u.toNat, by omega⟩ ⟨t, ht⟩
  simp only [Int.toNat_of_nonneg h0.1] at h
  exact h
theorem bt_set {u : Int} {t q : Nat} (h0 : 0 ≤ u ∧ u < 256) (ht : t < 8) (hq : q < 8) : bt (jor u (jshl 1 ((t : Nat) : Int))) ((q : Nat) : Int) ↔ (q = t ∨ bt u ((q : Nat) : Int)) := by
  have h := bt_set0 ⟨u.toNat, by omega⟩ ⟨t, ht⟩ ⟨q, hq⟩
  simp only [Int.toNat_of_nonneg h0.1, ne_eq, Fin.mk.injEq] at h
  unfold bt
  constructor
  · intro h1
    by_cases e : q = t
    · exact Or.inl e
    · exact Or.inr (fun z => h1 (h.mpr ⟨e, z⟩))
  · intro h1 z
    have h2 := h.mp z
    exact h1.elim h2.1 (fun k => k h2.2)
theorem bt_zero {q : Nat} (hq : q < 8) : ¬ bt 0 ((q : Nat) : Int) := fun h => h (bt_zero0 ⟨q, hq⟩)
def ordP (A : YA) (c : Nat) (e : Nat → Int) (k : Nat) : Prop := (∀ j, j < k → 0 ≤ e j ∧ e j < A.n ∧ A.co (e j).toNat = c) ∧ ∀ i j, i < j → j < k → e i ≠ e j
def oLst (e : Nat → Int) (k : Nat) : List Nat := (List.range k).map (fun j => (e j).toNat)
theorem oLst_len (e : Nat → Int) (k : Nat) : (oLst e k).length = k := by simp [oLst]
theorem oLst_getD (e : Nat → Int) {k j : Nat} (h : j < k) : (oLst e k).getD j 0 = (e j).toNat := by
  unfold oLst
  rw [List.getD_eq_getElem?_getD, List.getElem?_map, List.getElem?_range h]
  rfl
theorem oLst_mem {e : Nat → Int} {k q : Nat} : q ∈ oLst e k ↔ ∃ j, j < k ∧ (e j).toNat = q := by
  unfold oLst
  rw [List.mem_map]
  constructor
  · rintro ⟨j, h1, h2⟩; exact ⟨j, List.mem_range.mp h1, h2⟩
  · rintro ⟨j, h1, h2⟩; exact ⟨j, List.mem_range.mpr h1, h2⟩
theorem nodup_perm : ∀ {l1 l2 : List Nat}, l1.Nodup → (∀ q, q ∈ l1 → q ∈ l2) → l1.length = l2.length → l1.Perm l2
  | [], [], _, _, _ => List.Perm.refl _
  | [], b :: l2, _, _, h => by simp at h
  | a :: l1, l2, hn, hs, hl => by
    obtain ⟨h1, h2⟩ := List.nodup_cons.mp hn
    have ha := hs a List.mem_cons_self
    have hp : l2.Perm (a :: l2.erase a) := List.perm_cons_erase ha
    have hl2 : (l2.erase a).length + 1 = l2.length := by rw [hp.length_eq]; rfl
    refine List.Perm.trans ?_ hp.symm
    refine List.Perm.cons a (nodup_perm h2 (fun q hq => ?_) (by simp at hl; omega))
    have hm : q ∈ a :: l2.erase a := hp.mem_iff.mp (hs q (List.mem_cons_of_mem _ hq))
    exact (List.mem_cons.mp hm).resolve_left (fun e => h1 (e ▸ hq))
theorem oLst_nodup {A : YA} {c : Nat} {e : Nat → Int} {k : Nat} (h : ordP A c e k) : (oLst e k).Nodup := by
  unfold oLst List.Nodup
  rw [List.pairwise_map]
  refine List.Pairwise.imp_of_mem (fun {i j} hi hj hij z => ?_) (List.pairwise_lt_range (n := k))
  have hj2 := List.mem_range.mp hj
  have h1 := h.1 i (by omega); have h2 := h.1 j hj2; have h3 := h.2 i j hij hj2
  omega
theorem oLst_perm {A : YA} (hW : WFY A) {c : Nat} (hc : c < 2) {e : Nat → Int} (h : ordP A c e (A.ch c).length) : (oLst e (A.ch c).length).Perm (A.ch c) := by
  refine nodup_perm (oLst_nodup h) (fun q hq => ?_) (oLst_len _ _)
  obtain ⟨j, h1, h2⟩ := oLst_mem.mp hq
  have h3 := h.1 j h1
  have h4 := hW.mco (p := q) (by omega)
  rw [← h2] at h4 ⊢
  rw [h3.2.2] at h4
  exact h4
def seenP (e : Nat → Int) (u : Int) (k : Nat) : Prop := (0 ≤ u ∧ u < 256) ∧ ∀ q, q < 8 → (bt u ((q : Nat) : Int) ↔ ∃ j, j < k ∧ e j = ((q : Nat) : Int))
theorem seenP_0 (e : Nat → Int) : seenP e 0 0 := ⟨by decide, fun q hq => ⟨fun h => absurd h (bt_zero hq), fun ⟨j, h, _⟩ => absurd h (Nat.not_lt_zero j)⟩⟩
theorem seenP_s {e : Nat → Int} {u : Int} {k t : Nat} (h : seenP e u k) (ht : t < 8) (he : e k = ((t : Nat) : Int)) : seenP e (jor u (jshl 1 ((t : Nat) : Int))) (k + 1) := by
  refine ⟨bt_rg h.1 ht, fun q hq => ?_⟩
  rw [bt_set h.1 ht hq, h.2 q hq]
  constructor
  · rintro (rfl | ⟨j, h1, h2⟩)
    · exact ⟨k, by omega, he⟩
    · exact ⟨j, by omega, h2⟩
  · rintro ⟨j, h1, h2⟩
    by_cases e1 : j = k
    · subst e1; exact Or.inl (by omega)
    · exact Or.inr ⟨j, by omega, h2⟩
theorem ordP_s {A : YA} {c : Nat} {e : Nat → Int} {k : Nat} (h : ordP A c e k) (h1 : 0 ≤ e k ∧ e k < A.n ∧ A.co (e k).toNat = c) (h2 : ∀ j, j < k → e j ≠ e k) : ordP A c e (k + 1) := by
  refine ⟨fun j hj => ?_, fun i j hij hj => ?_⟩
  · by_cases e1 : j = k
    · subst e1; exact h1
    · exact h.1 j (by omega)
  · by_cases e1 : j = k
    · subst e1; exact h2 i hij
    · exact h.2 i j hij (by omega)
theorem ordP_0 (A : YA) (c : Nat) (e : Nat → Int) : ordP A c e 0 := ⟨fun j h => absurd h (Nat.not_lt_zero j), fun i j _ h => absurd h (Nat.not_lt_zero j)⟩
noncomputable def a_order (S : ST) (c s : Int) : Int × ST := if ¬ ((c = 0 ∨ c = 1) ∧ 0 ≤ s ∧ s < 8) then rA S 0 else if 10 ≤ (S.sh s.toNat).1 then rA S 1 else if (S.sh s.toNat).1 = -1 then rA S 2 else if (S.sh s.toNat).2.1 < ((S.1.ch c.toNat).length : Nat) then rA S 0 else @ite _ (ordP S.1 c.toNat (S.sh s.toNat).2.2 (S.1.ch c.toNat).length) (Classical.propDecidable _) ((((S.1.ch c.toNat).length : Nat) : Int), yS S (S.1.setC c.toNat (oLst (S.sh s.toNat).2.2 (S.1.ch c.toNat).length))) (rA S 0)
set_option maxHeartbeats 4000000 in
theorem lp_X6_isOrderOf {g : WG} {d : Nat} {T : TT} {M : MM} {o sz : Nat} {S : ST} {Q : MVal → TT → MM → Nat → Prop} (hC : CT T o) (hN : CN M o S) (hW : WFS S) {x : CX} (hx : OKx g x RX6 cX6_isOrderOf (d + 1)) (hr : RTx g x (some .boolean) Q) {q : Nat} {e : Nat → Int} (hqk : (T q).1 = 11) (hqn : (T q).2.1 = 40) (hqe : ∀ j, j < 40 → M q j = e j) {c : Nat} (hc : c < 2) (hQ : ∀ v : Int, ((v = 1 ∧ ordP S.1 c e (S.1.ch c).length) ∨ (v = 0 ∧ ¬ ordP S.1 c e (S.1.ch c).length)) → Q (vI v) T M sz) (k : Nat) (sn : Int) (u5 u6 u7 : MVal) (hk : k ≤ (S.1.ch c).length) (hs : seenP e sn k) (ho : ordP S.1 c e k) : Jd g x 5 [vR (o), vI (((c : Nat) : Int)), vR (q), vI (sn), vI (((k : Nat) : Int)), u5, u6, u7] [] T M sz 0 0 := by
  have hl8 := hW.y.len8 hc
  have hn8 := hW.y.n8
  refine J_iload hx dX6_isOrderOf_5 rfl ?_
  refine J_aload_n hx dX6_isOrderOf_7 (i := 0) rfl rfl ?_
  refine J_getR (b := o + 1) hx fl_X6_10 cl_X6 dX6_isOrderOf_8 hC.o (by decide) rfl hC.r0 ?_
  refine J_getR (b := o + 1 + 10) hx fl_X6_199 cl_X5 dX6_isOrderOf_11 hC.y0.o (by decide) rfl hC.y0.r7 ?_
  refine J_iload_n hx dX6_isOrderOf_14 (i := 1) rfl rfl ?_
  refine J_iald2 (v := (((S.1.ch c).length : Nat) : Int)) hx c dX6_isOrderOf_15 hC.y0.k10 (by omega) (hC.y0.l10 (by omega)) (hN.y.sz (by omega)) ?_
  have rg1 := hW.y.len8 (c := c) (by omega)
  have rg2 := hW.y.lenN (c := c) (by omega)
  refine J_icmp_ge (tgt := 90) hx dX6_isOrderOf_16 (by decide) (fun c3 => ?_) (fun c3 => ?_)
  · refine J_iconst (v := 1) hx dX6_isOrderOf_90 (by decide) ?_
    refine J_zret hx hr dX6_isOrderOf_91 (by omega) ?_
    have ek : k = (S.1.ch c).length := by omega
    subst ek
    exact hQ 1 (Or.inl ⟨rfl, ho⟩)
  · refine J_aload_n hx dX6_isOrderOf_19 (i := 2) rfl rfl ?_
    refine J_iload hx dX6_isOrderOf_20 rfl ?_
    refine J_lald2 (v := e k) hx k dX6_isOrderOf_22 hqk (by omega) (by rw [hqn]; omega) (hqe _ (by omega)) ?_
    refine J_lstore (lsn := [vR (o), vI (((c : Nat) : Int)), vR (q), vI (sn), vI (((k : Nat) : Int)), vL (e k), vU, u7]) hx dX6_isOrderOf_23 (Nat.le_of_ble_eq_true rfl) rfl rfl ?_
    refine J_lload hx dX6_isOrderOf_25 rfl ?_
    refine J_lconst (v := 0) hx dX6_isOrderOf_27 (by decide) ?_
    refine J_lc_lt (tgt := 61) hx dX6_isOrderOf_28 dX6_isOrderOf_29 (by decide) (fun c4 => ?_) (fun c4 => ?_)
    · refine J_iconst (v := 0) hx dX6_isOrderOf_61 (by decide) ?_
      refine J_zret hx hr dX6_isOrderOf_62 (by omega) ?_
      exact hQ 0 (Or.inr ⟨rfl, fun h9 => by
        have h8 := h9.1 k (by omega)
        have h7 := h8.2.2
        first | omega | (exfalso; rw [show (e k).toNat = t by omega] at h7; omega)⟩)
    · refine J_lload hx dX6_isOrderOf_32 rfl ?_
      refine J_aload_n hx dX6_isOrderOf_34 (i := 0) rfl rfl ?_
      refine J_getR (b := o + 1) hx fl_X6_10 cl_X6 dX6_isOrderOf_35 hC.o (by decide) rfl hC.r0 ?_
      refine J_getI2 (v := ((S.1.n : Nat) : Int)) hx fl_X6_138 cl_X5 dX6_isOrderOf_38 hC.y0.o (by decide) rfl hN.y.pp ?_
      have rg5 := hW.y.n8
      refine J_i2l hx dX6_isOrderOf_41 ?_
      refine J_lc_ge (tgt := 61) hx dX6_isOrderOf_42 dX6_isOrderOf_43 (by decide) (fun c6 => ?_) (fun c6 => ?_)
      · refine J_iconst (v := 0) hx dX6_isOrderOf_61 (by decide) ?_
        refine J_zret hx hr dX6_isOrderOf_62 (by omega) ?_
        exact hQ 0 (Or.inr ⟨rfl, fun h9 => by
          have h8 := h9.1 k (by omega)
          have h7 := h8.2.2
          first | omega | (exfalso; rw [show (e k).toNat = t by omega] at h7; omega)⟩)
      · obtain ⟨t, et⟩ : ∃ t : Nat, e k = ((t : Nat) : Int) := ⟨(e k).toNat, by omega⟩
        refine J_aload_n hx dX6_isOrderOf_46 (i := 0) rfl rfl ?_
        refine J_getR (b := o + 1) hx fl_X6_10 cl_X6 dX6_isOrderOf_47 hC.o (by decide) rfl hC.r0 ?_
        refine J_getR (b := o + 1 + 6) hx fl_X6_120 cl_X5 dX6_isOrderOf_50 hC.y0.o (by decide) rfl hC.y0.r5 ?_
        refine J_lload hx dX6_isOrderOf_53 rfl ?_
        refine J_l2i (v := ((t : Nat) : Int)) hx dX6_isOrderOf_55 (by rw [w32_id (by omega) (by omega)]; exact et) ?_
        refine J_iald2 (v := ((S.1.co t : Nat) : Int)) hx t dX6_isOrderOf_56 hC.y0.k6 (by omega) (hC.y0.l6 (by omega)) (hN.y.hm (by omega)) ?_
        refine J_iload_n hx dX6_isOrderOf_57 (i := 1) rfl rfl ?_
        refine J_icmp_eq (tgt := 63) hx dX6_isOrderOf_58 (by decide) (fun c7 => ?_) (fun c7 => ?_)
        · refine J_iconst (v := 1) hx dX6_isOrderOf_63 (by decide) ?_
          refine J_lload hx dX6_isOrderOf_64 rfl ?_
          refine J_l2i (v := ((t : Nat) : Int)) hx dX6_isOrderOf_66 (by rw [w32_id (by omega) (by omega)]; exact et) ?_
          refine J_ishl (v := jshl 1 ((t : Nat) : Int)) hx dX6_isOrderOf_67 rfl ?_
          refine J_istore (lsn := [vR (o), vI (((c : Nat) : Int)), vR (q), vI (sn), vI (((k : Nat) : Int)), vL (e k), vU, vI (jshl 1 ((t : Nat) : Int))]) hx dX6_isOrderOf_68 (Nat.le_of_ble_eq_true rfl) rfl rfl ?_
          refine J_iload_n hx dX6_isOrderOf_70 (i := 3) rfl rfl ?_
          refine J_iload hx dX6_isOrderOf_71 rfl ?_
          refine J_iand (v := jand sn (jshl 1 ((t : Nat) : Int))) hx dX6_isOrderOf_73 rfl ?_
          refine J_if_eq (tgt := 79) hx dX6_isOrderOf_74 (by decide) (fun c8 => ?_) (fun c8 => ?_)
          · have hz : jand sn (jshl 1 ((t : Nat) : Int)) = 0 := by assumption
            refine J_iload_n hx dX6_isOrderOf_79 (i := 3) rfl rfl ?_
            refine J_iload hx dX6_isOrderOf_80 rfl ?_
            refine J_ior (v := jor sn (jshl 1 ((t : Nat) : Int))) hx dX6_isOrderOf_82 rfl ?_
            refine J_istore_n (lsn := [vR (o), vI (((c : Nat) : Int)), vR (q), vI (jor sn (jshl 1 ((t : Nat) : Int))), vI (((k : Nat) : Int)), vL (e k), vU, vI (jshl 1 ((t : Nat) : Int))]) hx dX6_isOrderOf_83 (i := 3) rfl (Nat.le_of_ble_eq_true rfl) rfl rfl ?_
            refine J_iinc (v := ((k : Nat) : Int) + 1) (lsn := [vR (o), vI (((c : Nat) : Int)), vR (q), vI (jor sn (jshl 1 ((t : Nat) : Int))), vI (((k : Nat) : Int) + 1), vL (e k), vU, vI (jshl 1 ((t : Nat) : Int))]) hx dX6_isOrderOf_84 rfl (jinc1 (by omega) (by omega)) rfl rfl ?_
            refine J_goto (tgt := 5) hx dX6_isOrderOf_87 (by decide) ?_
            exact lp_X6_isOrderOf hC hN hW hx hr hqk hqn hqe hc hQ (k + 1) _ _ _ _ (by omega) (seenP_s hs (by omega) et) (ordP_s ho ⟨by omega, by omega, by rw [show (e k).toNat = t by omega]; omega⟩ (fun j9 h9 h8 => (bt_and hs.1 (by omega)).mp hz ((hs.2 t (by omega)).mpr ⟨j9, h9, by omega⟩)))
          · have hz : ¬ jand sn (jshl 1 ((t : Nat) : Int)) = 0 := by assumption
            refine J_iconst (v := 0) hx dX6_isOrderOf_77 (by decide) ?_
            refine J_zret hx hr dX6_isOrderOf_78 (by omega) ?_
            exact hQ 0 (Or.inr ⟨rfl, fun h9 => by
              obtain ⟨j9, h8, h7⟩ := (hs.2 t (by omega)).mp (Classical.not_not.mp (fun z => hz ((bt_and hs.1 (by omega)).mpr z)))
              exact h9.2 j9 k h8 (by omega) (by omega)⟩)
        · refine J_iconst (v := 0) hx dX6_isOrderOf_61 (by decide) ?_
          refine J_zret hx hr dX6_isOrderOf_62 (by omega) ?_
          exact hQ 0 (Or.inr ⟨rfl, fun h9 => by
            have h8 := h9.1 k (by omega)
            have h7 := h8.2.2
            first | omega | (exfalso; rw [show (e k).toNat = t by omega] at h7; omega)⟩)
termination_by (S.1.ch c).length - k
decreasing_by all_goals omega

set_option maxHeartbeats 4000000 in
theorem c_X6_isOrderOf {g : WG} {d : Nat} {T : TT} {M : MM} {o sz : Nat} {S : ST} {Q : MVal → TT → MM → Nat → Prop} (hC : CT T o) (hN : CN M o S) (hW : WFS S) {q : Nat} {e : Nat → Int} (hqk : (T q).1 = 11) (hqn : (T q).2.1 = 40) (hqe : ∀ j, j < 40 → M q j = e j) {c : Nat} (hc : c < 2) (hQ : ∀ v : Int, ((v = 1 ∧ ordP S.1 c e (S.1.ch c).length) ∨ (v = 0 ∧ ¬ ordP S.1 c e (S.1.ch c).length)) → Q (vI v) T M sz) : Ct g (d + 1) mX6_isOrderOf [vR (o), vI (((c : Nat) : Int)), vR (q)] T M sz 0 0 Q := by
  refine Ct_of2 (ls := [vR (o), vI (((c : Nat) : Int)), vR (q), vU, vU, vU, vU, vU]) okX6_isOrderOf rfl (Nat.le_of_ble_eq_true rfl) rfl ?_
  intro x hx hr hnm
  refine J_iconst (v := 0) hx dX6_isOrderOf_0 (by decide) ?_
  refine J_istore_n (lsn := [vR (o), vI (((c : Nat) : Int)), vR (q), vI (0), vU, vU, vU, vU]) hx dX6_isOrderOf_1 (i := 3) rfl (Nat.le_of_ble_eq_true rfl) rfl rfl ?_
  refine J_iconst (v := 0) hx dX6_isOrderOf_2 (by decide) ?_
  refine J_istore (lsn := [vR (o), vI (((c : Nat) : Int)), vR (q), vI (0), vI (0), vU, vU, vU]) hx dX6_isOrderOf_3 (Nat.le_of_ble_eq_true rfl) rfl rfl ?_
  exact lp_X6_isOrderOf hC hN hW hx hr hqk hqn hqe hc hQ 0 _ _ _ _ (by omega) (seenP_0 e) (ordP_0 _ _ _)

set_option maxHeartbeats 4000000 in
theorem lp_X6_order {g : WG} {d : Nat} {T : TT} {M : MM} {o sz : Nat} {S : ST} {Q : MVal → TT → MM → Nat → Prop} (hC : CT T o) (hN : CN M o S) (hW : WFS S) {x : CX} (hx : OKx g x RX6 cX6_order (d + 3)) (hr : RTx g x (some .int) Q) {c s : Nat} (hc : c < 2) (hs8 : s < 8) (hrw : rowH (S.sh s).1) (hsz : ((S.1.ch c).length : Int) ≤ (S.sh s).2.1) (ho : ordP S.1 c (S.sh s).2.2 (S.1.ch c).length) (hQ : CQ o T M sz Q (a_order S ((c : Nat) : Int) ((s : Nat) : Int))) (k : Nat) (M1 : MM) (hk : k ≤ (S.1.ch c).length) (hrow : ∀ j, j < k → M1 (o + 1 + 8 + c) j = (S.sh s).2.2 j) (ho1 : ∀ a, a ≠ o + 1 + 8 + c → M1 a = M a) : Jd g x 75 [vR (o), vI (((c : Nat) : Int)), vI (((s : Nat) : Int)), vI (0), vI ((((S.1.ch c).length : Nat) : Int)), vI (((k : Nat) : Int))] [] T M1 sz 0 0 := by
  have hl8 := hW.y.len8 hc
  have hn8 := hW.y.n8
  have hrw2 : 0 ≤ (S.sh s).1 ∧ (S.sh s).1 ≤ 4 := hrw
  refine J_iload hx dX6_order_75 rfl ?_
  refine J_iload hx dX6_order_77 rfl ?_
  refine J_icmp_ge (tgt := 113) hx dX6_order_79 (by decide) (fun c1 => ?_) (fun c1 => ?_)
  · refine J_iload hx dX6_order_113 rfl ?_
    refine J_iret hx hr dX6_order_115 ?_
    have hall : k = (S.1.ch c).length := by omega
    subst hall
    have hP := YP.setC (hN.y.toP hW.y) (M' := M1) (c := c) (l := (oLst (S.sh s).2.2 (S.1.ch c).length)) hc (fun q9 h9 => absurd (by rw [ho1 _ (by omega)]) h9) (fun q9 h9 => ?_) (fun k9 h9 => ?_) ?_ ?_ (fun a9 h7 h8 h9 => ho1 a9 (by omega))
    · exact hQ.to (v := (((S.1.ch c).length : Nat) : Int)) (S := yS S (S.1.setC c (oLst (S.sh s).2.2 (S.1.ch c).length))) (by
      unfold a_order
      (try simp only [Int.toNat_natCast] at *)
      ((repeat' split) <;> first | rfl | (exfalso; omega) | (exfalso; contradiction) | (congr 1; omega))) hC (hN.yard (hP.toN (hW.y.perm hc (oLst_perm hW.y hc ho))) (fun a9 h9 => ho1 a9 (by omega))) (fun b9 h9 => ho1 b9 (by omega))
    · rw [ho1 _ (by omega)]
      have h8 := (oLst_perm hW.y hc ho).mem_iff.mp h9
      rw [hN.y.hm (hW.y.lt hc h8), hW.y.co hc h8]
    · rw [oLst_len] at h9
      rw [oLst_getD _ h9, hrow k9 h9]
      have h8 := ho.1 k9 h9
      omega
    · rw [ho1 _ (by omega), oLst_len]; exact hN.y.sz hc
    · rw [ho1 _ (by omega)]
  · refine J_aload_n hx dX6_order_82 (i := 0) rfl rfl ?_
    refine J_getR (b := o + 1) hx fl_X6_10 cl_X6 dX6_order_83 hC.o (by decide) rfl hC.r0 ?_
    refine J_getR (b := o + 1 + 7) hx fl_X6_201 cl_X5 dX6_order_86 hC.y0.o (by decide) rfl hC.y0.r6 ?_
    refine J_iload_n hx dX6_order_89 (i := 1) rfl rfl ?_
    refine J_aald (b := o + 1 + 8 + c) hx c dX6_order_90 hC.y0.k7 (by decide) (by omega) (hC.y0.l7 (by omega)) (hC.y0.f7 (by omega)) ?_
    refine J_iload hx dX6_order_91 rfl ?_
    refine J_aload_n hx dX6_order_93 (i := 0) rfl rfl ?_
    refine J_getR (b := o + 65) hx fl_X6_54 cl_X6 dX6_order_94 hC.o (by decide) rfl hC.r7 ?_
    refine J_iload_n hx dX6_order_97 (i := 2) rfl rfl ?_
    refine J_aald (b := o + 67 + 2 * s) hx s dX6_order_98 hC.k65 (by decide) (by omega) (by rw [hC.n65]; omega) (hC.sre (by omega)) ?_
    refine J_getR (b := o + 67 + 2 * s + 1) hx fl_X6_98 cl_X3 dX6_order_99 (hC.skd (by omega)) (by decide) rfl (hC.sel (by omega)) ?_
    refine J_iload hx dX6_order_102 rfl ?_
    refine J_lald2 (v := (S.sh s).2.2 k) hx k dX6_order_104 (hC.sak (by omega)) (by omega) (by rw [hC.san (by omega)]; omega) (by rw [ho1 _ (by omega)]; exact hN.he (by omega) hrw (by omega)) ?_
    refine J_l2i (v := (S.sh s).2.2 k) hx dX6_order_105 (by have h9 := ho.1 k (by omega); rw [w32_id (by omega) (by omega)]) ?_
    refine J_iast hx k dX6_order_106 (hC.y0.kl (by omega)) (by omega) (hC.y0.ll (by omega) (by omega)) ?_
    generalize eM2 : up2 M1 (o + 1 + 8 + c) k ((S.sh s).2.2 k) = M2
    have hM2a : M2 (o + 1 + 8 + c) k = (S.sh s).2.2 k := by rw [← eM2]; exact up2_at
    have hM2o : ∀ b9 j9, (b9 ≠ o + 1 + 8 + c ∨ j9 ≠ k) → M2 b9 j9 = M1 b9 j9 := fun b9 j9 h9 => by rw [← eM2]; exact up2_ne h9
    have hM2r : ∀ b9, b9 ≠ o + 1 + 8 + c → M2 b9 = M1 b9 := fun b9 h9 => by rw [← eM2]; exact up2_row h9
    refine J_iinc (v := ((k : Nat) : Int) + 1) (lsn := [vR (o), vI (((c : Nat) : Int)), vI (((s : Nat) : Int)), vI (0), vI ((((S.1.ch c).length : Nat) : Int)), vI (((k : Nat) : Int) + 1)]) hx dX6_order_107 rfl (jinc1 (by omega) (by omega)) rfl rfl ?_
    refine J_goto (tgt := 75) hx dX6_order_110 (by decide) ?_
    exact lp_X6_order hC hN hW hx hr hc hs8 hrw hsz ho hQ (k + 1) M2 (by omega) (fun j9 h9 => by
        by_cases e : j9 = k
        · subst e; exact hM2a
        · rw [hM2o _ _ (Or.inr e)]; exact hrow j9 (by omega)) (fun a9 h9 => by rw [hM2r _ h9]; exact ho1 a9 h9)
termination_by (S.1.ch c).length - k
decreasing_by all_goals omega

set_option maxHeartbeats 4000000 in
theorem c_X6_order {g : WG} {d : Nat} {T : TT} {M : MM} {o sz : Nat} {S : ST} {Q : MVal → TT → MM → Nat → Prop} (hC : CT T o) (hN : CN M o S) (hW : WFS S) {c s : Int} (h_c : -2147483648 ≤ c ∧ c ≤ 2147483647) (h_s : -2147483648 ≤ s ∧ s ≤ 2147483647) (hQ : CQ o T M sz Q (a_order S c s)) : Ct g (d + 3) mX6_order [vR (o), vI (c), vI (s)] T M sz 0 0 Q := by
  refine Ct_of2 (ls := [vR (o), vI (c), vI (s), vU, vU, vU]) okX6_order rfl (Nat.le_of_ble_eq_true rfl) rfl ?_
  intro x hx hr hnm
  have hshv : 0 ≤ s → s < 8 → _ := fun h1 h2 => hW.h (s := s.toNat) (by omega)
  refine J_iload_n hx dX6_order_0 (i := 1) rfl rfl ?_
  refine J_invS (As := [vI (c)]) (st := []) hx lk_X6_132 okX6_isChain dX6_order_1 rfl rfl (Nat.le_of_ble_eq_true rfl) (Nat.zero_add _).symm (Nat.zero_add _).symm rfl (c_X6_isChain (a := c) ?_)
  intro v1 hv1
  refine J_if_eq (tgt := 24) hx dX6_order_4 (by decide) (fun c2 => ?_) (fun c2 => ?_)
  · refine J_bipush (v := -2) hx dX6_order_24 (by decide) ?_
    refine J_istore_n (lsn := [vR (o), vI (c), vI (s), vI ((-2)), vU, vU]) hx dX6_order_26 (i := 3) rfl (Nat.le_of_ble_eq_true rfl) rfl rfl ?_
    refine J_iload_n hx dX6_order_27 (i := 3) rfl rfl ?_
    refine J_if_eq (tgt := 37) hx dX6_order_28 (by decide) (fun c9 => absurd c9 (by decide)) (fun _ => ?_)
    refine J_aload_n hx dX6_order_31 (i := 0) rfl rfl ?_
    refine J_iload_n hx dX6_order_32 (i := 3) rfl rfl ?_
    refine J_invV (As := [vI ((-2))]) (st := []) hx lk_X6_67 okX6_refuse dX6_order_33 hC.o (by decide) rfl rfl rfl (Nat.le_of_ble_eq_true rfl) (Nat.zero_add _).symm (Nat.zero_add _).symm rfl (c_X6_refuse hC hN hW (k := 0) (by decide) ?_)
    intro M1 hN1 hf1
    refine J_iret hx hr dX6_order_36 ?_
    exact hQ.to (v := -((0 + 2 : Nat) : Int)) (S := rfS S 0) (by
      unfold a_order
      (try simp only [Int.toNat_natCast] at *)
      ((repeat' split) <;> first | rfl | (exfalso; omega) | (exfalso; contradiction) | (congr 1; omega))) hC hN1 hf1
  · obtain ⟨cN, rfl⟩ : ∃ z : Nat, c = ((z : Nat) : Int) := ⟨c.toNat, by omega⟩
    have hl8 := hW.y.len8 (c := cN) (by omega)
    refine J_aload_n hx dX6_order_7 (i := 0) rfl rfl ?_
    refine J_iload_n hx dX6_order_8 (i := 2) rfl rfl ?_
    refine J_aload_n hx dX6_order_9 (i := 0) rfl rfl ?_
    refine J_getR (b := o + 1) hx fl_X6_10 cl_X6 dX6_order_10 hC.o (by decide) rfl hC.r0 ?_
    refine J_getR (b := o + 1 + 10) hx fl_X6_199 cl_X5 dX6_order_13 hC.y0.o (by decide) rfl hC.y0.r7 ?_
    refine J_iload_n hx dX6_order_16 (i := 1) rfl rfl ?_
    refine J_iald2 (v := (((S.1.ch cN).length : Nat) : Int)) hx cN dX6_order_17 hC.y0.k10 (by omega) (hC.y0.l10 (by omega)) (hN.y.sz (by omega)) ?_
    have rg4 := hW.y.len8 (c := cN) (by omega)
    have rg5 := hW.y.lenN (c := cN) (by omega)
    refine J_invV (As := [vI (s), vI ((((S.1.ch cN).length : Nat) : Int))]) (st := []) hx lk_X6_75 okX6_faultOfRow dX6_order_18 hC.o (by decide) rfl rfl rfl (Nat.le_of_ble_eq_true rfl) (Nat.zero_add _).symm (Nat.zero_add _).symm rfl (c_X6_faultOfRow hC hN hW (s := s) (n := (((S.1.ch cN).length : Nat) : Int)) ?_)
    rintro vf (⟨rfl, hvf⟩ | ⟨rfl, hvf⟩ | ⟨rfl, hvf⟩ | ⟨rfl, hvf⟩ | ⟨rfl, hvf⟩)
    · refine J_goto (tgt := 26) hx dX6_order_21 (by decide) ?_
      refine J_istore_n (lsn := [vR (o), vI (((cN : Nat) : Int)), vI (s), vI ((-2)), vU, vU]) hx dX6_order_26 (i := 3) rfl (Nat.le_of_ble_eq_true rfl) rfl rfl ?_
      refine J_iload_n hx dX6_order_27 (i := 3) rfl rfl ?_
      refine J_if_eq (tgt := 37) hx dX6_order_28 (by decide) (fun c9 => absurd c9 (by decide)) (fun _ => ?_)
      refine J_aload_n hx dX6_order_31 (i := 0) rfl rfl ?_
      refine J_iload_n hx dX6_order_32 (i := 3) rfl rfl ?_
      refine J_invV (As := [vI ((-2))]) (st := []) hx lk_X6_67 okX6_refuse dX6_order_33 hC.o (by decide) rfl rfl rfl (Nat.le_of_ble_eq_true rfl) (Nat.zero_add _).symm (Nat.zero_add _).symm rfl (c_X6_refuse hC hN hW (k := 0) (by decide) ?_)
      intro M1 hN1 hf1
      refine J_iret hx hr dX6_order_36 ?_
      exact hQ.to (v := -((0 + 2 : Nat) : Int)) (S := rfS S 0) (by
        unfold a_order
        (try simp only [Int.toNat_natCast] at *)
        ((repeat' split) <;> first | rfl | (exfalso; omega) | (exfalso; contradiction) | (congr 1; omega))) hC hN1 hf1
    · refine J_goto (tgt := 26) hx dX6_order_21 (by decide) ?_
      refine J_istore_n (lsn := [vR (o), vI (((cN : Nat) : Int)), vI (s), vI ((-3)), vU, vU]) hx dX6_order_26 (i := 3) rfl (Nat.le_of_ble_eq_true rfl) rfl rfl ?_
      refine J_iload_n hx dX6_order_27 (i := 3) rfl rfl ?_
      refine J_if_eq (tgt := 37) hx dX6_order_28 (by decide) (fun c9 => absurd c9 (by decide)) (fun _ => ?_)
      refine J_aload_n hx dX6_order_31 (i := 0) rfl rfl ?_
      refine J_iload_n hx dX6_order_32 (i := 3) rfl rfl ?_
      refine J_invV (As := [vI ((-3))]) (st := []) hx lk_X6_67 okX6_refuse dX6_order_33 hC.o (by decide) rfl rfl rfl (Nat.le_of_ble_eq_true rfl) (Nat.zero_add _).symm (Nat.zero_add _).symm rfl (c_X6_refuse hC hN hW (k := 1) (by decide) ?_)
      intro M1 hN1 hf1
      refine J_iret hx hr dX6_order_36 ?_
      exact hQ.to (v := -((1 + 2 : Nat) : Int)) (S := rfS S 1) (by
        unfold a_order
        (try simp only [Int.toNat_natCast] at *)
        ((repeat' split) <;> first | rfl | (exfalso; omega) | (exfalso; contradiction) | (congr 1; omega))) hC hN1 hf1
    · refine J_goto (tgt := 26) hx dX6_order_21 (by decide) ?_
      refine J_istore_n (lsn := [vR (o), vI (((cN : Nat) : Int)), vI (s), vI ((-4)), vU, vU]) hx dX6_order_26 (i := 3) rfl (Nat.le_of_ble_eq_true rfl) rfl rfl ?_
      refine J_iload_n hx dX6_order_27 (i := 3) rfl rfl ?_
      refine J_if_eq (tgt := 37) hx dX6_order_28 (by decide) (fun c9 => absurd c9 (by decide)) (fun _ => ?_)
      refine J_aload_n hx dX6_order_31 (i := 0) rfl rfl ?_
      refine J_iload_n hx dX6_order_32 (i := 3) rfl rfl ?_
      refine J_invV (As := [vI ((-4))]) (st := []) hx lk_X6_67 okX6_refuse dX6_order_33 hC.o (by decide) rfl rfl rfl (Nat.le_of_ble_eq_true rfl) (Nat.zero_add _).symm (Nat.zero_add _).symm rfl (c_X6_refuse hC hN hW (k := 2) (by decide) ?_)
      intro M1 hN1 hf1
      refine J_iret hx hr dX6_order_36 ?_
      exact hQ.to (v := -((2 + 2 : Nat) : Int)) (S := rfS S 2) (by
        unfold a_order
        (try simp only [Int.toNat_natCast] at *)
        ((repeat' split) <;> first | rfl | (exfalso; omega) | (exfalso; contradiction) | (congr 1; omega))) hC hN1 hf1
    · refine J_goto (tgt := 26) hx dX6_order_21 (by decide) ?_
      refine J_istore_n (lsn := [vR (o), vI (((cN : Nat) : Int)), vI (s), vI ((-2)), vU, vU]) hx dX6_order_26 (i := 3) rfl (Nat.le_of_ble_eq_true rfl) rfl rfl ?_
      refine J_iload_n hx dX6_order_27 (i := 3) rfl rfl ?_
      refine J_if_eq (tgt := 37) hx dX6_order_28 (by decide) (fun c9 => absurd c9 (by decide)) (fun _ => ?_)
      refine J_aload_n hx dX6_order_31 (i := 0) rfl rfl ?_
      refine J_iload_n hx dX6_order_32 (i := 3) rfl rfl ?_
      refine J_invV (As := [vI ((-2))]) (st := []) hx lk_X6_67 okX6_refuse dX6_order_33 hC.o (by decide) rfl rfl rfl (Nat.le_of_ble_eq_true rfl) (Nat.zero_add _).symm (Nat.zero_add _).symm rfl (c_X6_refuse hC hN hW (k := 0) (by decide) ?_)
      intro M1 hN1 hf1
      refine J_iret hx hr dX6_order_36 ?_
      exact hQ.to (v := -((0 + 2 : Nat) : Int)) (S := rfS S 0) (by
        unfold a_order
        (try simp only [Int.toNat_natCast] at *)
        ((repeat' split) <;> first | rfl | (exfalso; omega) | (exfalso; contradiction) | (congr 1; omega))) hC hN1 hf1
    · refine J_goto (tgt := 26) hx dX6_order_21 (by decide) ?_
      refine J_istore_n (lsn := [vR (o), vI (((cN : Nat) : Int)), vI (s), vI (0), vU, vU]) hx dX6_order_26 (i := 3) rfl (Nat.le_of_ble_eq_true rfl) rfl rfl ?_
      refine J_iload_n hx dX6_order_27 (i := 3) rfl rfl ?_
      refine J_if_eq (tgt := 37) hx dX6_order_28 (by decide) (fun _ => ?_) (fun c9 => absurd c9 (by decide))
      obtain ⟨sN, rfl⟩ : ∃ z : Nat, s = ((z : Nat) : Int) := ⟨s.toNat, by omega⟩
      refine J_aload_n hx dX6_order_37 (i := 0) rfl rfl ?_
      refine J_iload_n hx dX6_order_38 (i := 1) rfl rfl ?_
      refine J_aload_n hx dX6_order_39 (i := 0) rfl rfl ?_
      refine J_getR (b := o + 65) hx fl_X6_54 cl_X6 dX6_order_40 hC.o (by decide) rfl hC.r7 ?_
      refine J_iload_n hx dX6_order_43 (i := 2) rfl rfl ?_
      refine J_aald (b := o + 67 + 2 * sN) hx sN dX6_order_44 hC.k65 (by decide) (by omega) (by rw [hC.n65]; omega) (hC.sre (by omega)) ?_
      refine J_getR (b := o + 67 + 2 * sN + 1) hx fl_X6_98 cl_X3 dX6_order_45 (hC.skd (by omega)) (by decide) rfl (hC.sel (by omega)) ?_
      refine J_invV (As := [vI (((cN : Nat) : Int)), vR (o + 67 + 2 * sN + 1)]) (st := []) hx lk_X6_306 okX6_isOrderOf dX6_order_48 hC.o (by decide) rfl rfl rfl (Nat.le_of_ble_eq_true rfl) (Nat.zero_add _).symm (Nat.zero_add _).symm rfl (c_X6_isOrderOf hC hN hW (q := o + 67 + 2 * sN + 1) (e := (S.sh sN).2.2) (hC.sak (by omega)) (hC.san (by omega)) (fun j9 h9 => hN.he (by omega) (show rowH _ from by (try simp only [Int.toNat_natCast] at *); exact hvf.2.1) h9) (c := cN) (by omega) ?_)
      intro v9 hv9
      refine J_if_ne (tgt := 61) hx dX6_order_51 (by decide) (fun c11 => ?_) (fun c11 => ?_)
      · refine J_aload_n hx dX6_order_61 (i := 0) rfl rfl ?_
        refine J_getR (b := o + 1) hx fl_X6_10 cl_X6 dX6_order_62 hC.o (by decide) rfl hC.r0 ?_
        refine J_getR (b := o + 1 + 10) hx fl_X6_199 cl_X5 dX6_order_65 hC.y0.o (by decide) rfl hC.y0.r7 ?_
        refine J_iload_n hx dX6_order_68 (i := 1) rfl rfl ?_
        refine J_iald2 (v := (((S.1.ch cN).length : Nat) : Int)) hx cN dX6_order_69 hC.y0.k10 (by omega) (hC.y0.l10 (by omega)) (hN.y.sz (by omega)) ?_
        have rg12 := hW.y.len8 (c := cN) (by omega)
        have rg13 := hW.y.lenN (c := cN) (by omega)
        refine J_istore (lsn := [vR (o), vI (((cN : Nat) : Int)), vI (((sN : Nat) : Int)), vI (0), vI ((((S.1.ch cN).length : Nat) : Int)), vU]) hx dX6_order_70 (Nat.le_of_ble_eq_true rfl) rfl rfl ?_
        refine J_iconst (v := 0) hx dX6_order_72 (by decide) ?_
        refine J_istore (lsn := [vR (o), vI (((cN : Nat) : Int)), vI (((sN : Nat) : Int)), vI (0), vI ((((S.1.ch cN).length : Nat) : Int)), vI (0)]) hx dX6_order_73 (Nat.le_of_ble_eq_true rfl) rfl rfl ?_
        exact lp_X6_order hC hN hW hx hr (by omega) (by omega) (show rowH _ from by (try simp only [Int.toNat_natCast] at *); exact hvf.2.1) (by (try simp only [Int.toNat_natCast] at *); exact hvf.2.2) (by rcases hv9 with h9 | h9; exact h9.2; exfalso; omega) hQ 0 M (by omega) (fun j h => absurd h (Nat.not_lt_zero j)) (fun _ _ => rfl)
      · have hno : ¬ ordP S.1 cN (S.sh sN).2.2 (S.1.ch cN).length := by
          rcases hv9 with h9 | h9
          · exfalso; omega
          · exact h9.2
        refine J_aload_n hx dX6_order_54 (i := 0) rfl rfl ?_
        refine J_bipush (v := -2) hx dX6_order_55 (by decide) ?_
        refine J_invV (As := [vI ((-2))]) (st := []) hx lk_X6_67 okX6_refuse dX6_order_57 hC.o (by decide) rfl rfl rfl (Nat.le_of_ble_eq_true rfl) (Nat.zero_add _).symm (Nat.zero_add _).symm rfl (c_X6_refuse hC hN hW (k := 0) (by decide) ?_)
        intro M1 hN1 hf1
        refine J_iret hx hr dX6_order_60 ?_
        exact hQ.to (v := -((0 + 2 : Nat) : Int)) (S := rfS S 0) (by
          unfold a_order
          (try simp only [Int.toNat_natCast] at *)
          ((repeat' split) <;> first | rfl | (exfalso; omega) | (exfalso; contradiction) | (congr 1; omega))) hC hN1 hf1

