theorem erI_getD {l : List Nat} {k : Nat} (i : Nat) : (l.eraseIdx k).getD i 0 = if i < k then l.getD i 0 else l.getD (i + 1) 0 := by
  simp only [List.getD_eq_getElem?_getD, List.getElem?_eraseIdx]
  split <;> rfl
theorem erI_len {l : List Nat} {k : Nat} (h : k < l.length) : (l.eraseIdx k).length + 1 = l.length := by
  rw [List.length_eraseIdx, if_pos h]; omega
theorem erI_lv : ∀ {l : List Nat} {p : Nat}, l.Nodup → p ∈ l → l.eraseIdx (l.idxOf p) = lv_ l p
  | [], p, _, h => by simp at h
  | a :: l, p, hn, h => by
    rw [List.nodup_cons] at hn
    unfold lv_
    by_cases e : a = p
    · subst e
      rw [List.idxOf_cons_self, List.eraseIdx_cons_zero, List.filter_cons_of_neg (by simp)]
      symm
      rw [List.filter_eq_self]
      intro q hq
      simp
      intro e
      subst e
      exact hn.1 hq
    · have hp : p ∈ l := (List.mem_cons.mp h).resolve_left (fun z => e z.symm)
      have ei : (a :: l).idxOf p = l.idxOf p + 1 := by
        rw [List.idxOf_cons]
        have : (a == p) = false := by simpa using e
        rw [this]; rfl
      rw [ei, List.eraseIdx_cons_succ, List.filter_cons_of_pos (by simpa using e), erI_lv hn.2 hp]
theorem erI_at {l : List Nat} {k : Nat} (hn : l.Nodup) (hk : k < l.length) : l.eraseIdx k = lv_ l (l.getD k 0) := by
  have h1 : l.getD k 0 ∈ l := by
    rw [List.getD_eq_getElem?_getD, List.getElem?_eq_getElem hk]; exact List.getElem_mem hk
  rw [← erI_lv hn h1, idxOf_getD hn hk]
theorem tirB_wf {A : YA} (h : WFY A) {l r : Nat} (hl : l < A.n) (hr : r < A.n) : WFY (tirB A l r) :=
  h.of rfl (fun p hp => tirB_att h hl hr hp) h.2.1 h.2.2.1 h.2.2.2.1 h.2.2.2.2.1 h.len ⟨rfl, rfl, rfl, rfl, h.s5, h.s6, h.s7⟩
theorem FrN.out {r : Nat} {M M' : MM} (h : FrN r M M') {a : Nat} (ha : a < r ∨ r + 29 ≤ a) : M' a = M a := funext fun j => h a j (by omega) (by omega)
theorem MN.push {M : MM} {r : Nat} {A : YA} (h : MN M r A) {c p : Nat} (hc : c < 2) : MN (up2 (up2 M (r + 25) c ((((A.ch c).length : Nat) : Int) + 1)) (r + 23 + c) (A.ch c).length ((p : Nat) : Int)) r (A.setC c (insAt (A.ch c) (A.ch c).length p)) := by
  refine h.setC hc (fun k hk => ?_) ?_ ?_ (fun a h1 h2 => by rw [up2_row h1, up2_row h2])
  · rw [insAt_len (Nat.le_refl _)] at hk
    rw [insAt_getD (Nat.le_refl _)]
    by_cases e : k = (A.ch c).length
    · subst e; rw [if_neg (by omega), if_pos rfl, up2_at]
    · rw [if_pos (by omega), up2_ne (Or.inr e), up2_row (by omega)]; exact h.ln hc (by omega)
  · rw [up2_row (by omega), up2_at, insAt_len (Nat.le_refl _)]; omega
  · rw [up2_row (by omega), up2_ne (Or.inr (by omega))]
theorem tird1 {v : Int} (h0 : 0 ≤ v) (h : v < 20) : w32 (v + 1) = tird v := by unfold tird; rw [if_pos h, w32_id (by omega) (by omega)]
theorem tird0 {v : Int} (h0 : 20 ≤ v) (h : v ≤ 20) : w32 (v + 0) = tird v := by unfold tird; rw [if_neg (by omega), w32_id (by omega) (by omega)]; omega

set_option maxHeartbeats 4000000 in
theorem c_X7_ends {g : WG} {d : Nat} {T : TT} {M : MM} {r sz : Nat} {A : YA} {Q : MVal → TT → MM → Nat → Prop} (hT : MT T r) (hN : MN M r A) (h5 : 0 ≤ A.sc 5 ∧ A.sc 5 ≤ 1) (h6 : 0 ≤ A.sc 6 ∧ A.sc 6 ≤ 99) (hQ : ∀ M', MN M' r ((A.setS 5 (1 - A.sc 5)).setS 6 (A.sc 6 + 1)) → FrN r M M' → Q vU T M' sz) : Ct g (d + 1) mX7_ends [vR (r)] T M sz 0 0 Q := by
  refine Ct_of2 (ls := [vR (r)]) okX7_ends rfl (Nat.le_of_ble_eq_true rfl) rfl ?_
  intro x hx hr hnm
  refine J_aload_n hx dX7_ends_0 (i := 0) rfl rfl ?_
  refine J_iconst (v := 1) hx dX7_ends_1 (by decide) ?_
  refine J_aload_n hx dX7_ends_2 (i := 0) rfl rfl ?_
  refine J_getI2 (v := A.sc 5) hx fl_X7_148 cl_X7 dX7_ends_3 hT.o (by decide) rfl hN.s5 ?_
  refine J_isub (v := 1 - (A.sc 5)) hx dX7_ends_6 (w32_id (by omega) (by omega)) ?_
  refine J_putI hx fl_X7_148 cl_X7 dX7_ends_7 hT.o (by decide) rfl (Or.inl rfl) (by decide) ?_
  have hN1 : MN (up2 M r 21 (1 - (A.sc 5))) r (A.setS 5 (1 - (A.sc 5))) := hN.setS (q := 5) _ (by decide)
  have hF1 : FrN r M (up2 M r 21 (1 - (A.sc 5))) := (FrN.rf (r := r) (M := M)).up (Or.inr (by omega)) _
  generalize eM1 : up2 M r 21 (1 - (A.sc 5)) = M1 at hN1 hF1 ⊢
  refine J_aload_n hx dX7_ends_10 (i := 0) rfl rfl ?_
  refine J_dup hx dX7_ends_11 rfl ?_
  refine J_getI2 (v := A.sc 6) hx fl_X7_274 cl_X7 dX7_ends_12 hT.o (by decide) rfl (hN1.s6) ?_
  refine J_iconst (v := 1) hx dX7_ends_15 (by decide) ?_
  refine J_iadd (v := A.sc 6 + 1) hx dX7_ends_16 (w32_id (by omega) (by omega)) ?_
  refine J_putI hx fl_X7_274 cl_X7 dX7_ends_17 hT.o (by decide) rfl (Or.inl rfl) (by decide) ?_
  have hN2 : MN (up2 M1 r 22 (A.sc 6 + 1)) r ((A.setS 5 (1 - (A.sc 5))).setS 6 (A.sc 6 + 1)) := hN1.setS (q := 6) _ (by decide)
  have hF2 : FrN r M (up2 M1 r 22 (A.sc 6 + 1)) := hF1.up (Or.inr (by omega)) _
  generalize eM2 : up2 M1 r 22 (A.sc 6 + 1) = M2 at hN2 hF2 ⊢
  refine J_vret hx hr dX7_ends_20 ?_
  exact hQ _ hN2 hF2

set_option maxHeartbeats 4000000 in
theorem c_X7_tires {g : WG} {d : Nat} {T : TT} {M : MM} {r sz : Nat} {A : YA} {Q : MVal → TT → MM → Nat → Prop} (hT : MT T r) (hN : MN M r A) (hW : WFY A) {j : Nat} (hj : j + 1 < (A.ch A.tn).length) (hQ : ∀ M', MN M' r (tirB A ((A.ch A.tn).getD j 0) ((A.ch A.tn).getD (j + 1) 0)) → FrN r M M' → Q vU T M' sz) : Ct g (d + 1) mX7_tires [vR (r), vI (((j : Nat) : Int))] T M sz 0 0 Q := by
  refine Ct_of2 (ls := [vR (r), vI (((j : Nat) : Int)), vU, vU]) okX7_tires rfl (Nat.le_of_ble_eq_true rfl) rfl ?_
  intro x hx hr hnm
  have ht := hW.tn2
  have hn8 := hW.n8
  have hl8 := hW.len8 ht
  have hL9 := hW.at (c := A.tn) (k := j) ht (by omega)
  have hR9 := hW.at (c := A.tn) (k := j + 1) ht hj
  have hL8 := hW.ti hL9
  have hR8 := tir1_rg hW hL9 hR9
  refine J_iload_n hx dX7_tires_0 (i := 1) rfl rfl ?_
  refine J_istore_n (lsn := [vR (r), vI (((j : Nat) : Int)), vI (((j : Nat) : Int)), vU]) hx dX7_tires_1 (i := 2) rfl (Nat.le_of_ble_eq_true rfl) rfl rfl ?_
  refine J_iload_n hx dX7_tires_2 (i := 2) rfl rfl ?_
  refine J_iload_n hx dX7_tires_3 (i := 1) rfl rfl ?_
  refine J_iconst (v := 1) hx dX7_tires_4 (by decide) ?_
  refine J_iadd (v := ((j : Nat) : Int) + 1) hx dX7_tires_5 (w32_id (by omega) (by omega)) ?_
  refine J_icmp_gt (tgt := 52) hx dX7_tires_6 (by decide) (fun c9 => absurd c9 (by omega)) (fun _ => ?_)
  refine J_aload_n hx dX7_tires_9 (i := 0) rfl rfl ?_
  refine J_getR (b := r + 22) hx fl_X7_54 cl_X7 dX7_tires_10 hT.o (by decide) rfl hT.r15 ?_
  refine J_aload_n hx dX7_tires_13 (i := 0) rfl rfl ?_
  refine J_getI2 (v := ((A.tn : Nat) : Int)) hx fl_X7_148 cl_X7 dX7_tires_14 hT.o (by decide) rfl (hN.s5.trans hW.tni) ?_
  refine J_aald (b := r + 23 + A.tn) hx A.tn dX7_tires_17 hT.k22 (by decide) (by omega) (hT.l22 (by omega)) (hT.f22 (by omega)) ?_
  refine J_iload_n hx dX7_tires_18 (i := 2) rfl rfl ?_
  refine J_iald2 (v := (((A.ch A.tn).getD j 0 : Nat) : Int)) hx j dX7_tires_19 (hT.kl (by omega)) (by omega) (hT.ll (by omega) (by omega)) (hN.ln (by omega) (show _ < (A.ch A.tn).length by omega)) ?_
  refine J_istore_n (lsn := [vR (r), vI (((j : Nat) : Int)), vI (((j : Nat) : Int)), vI ((((A.ch A.tn).getD j 0 : Nat) : Int))]) hx dX7_tires_20 (i := 3) rfl (Nat.le_of_ble_eq_true rfl) rfl rfl ?_
  refine J_aload_n hx dX7_tires_21 (i := 0) rfl rfl ?_
  refine J_getR (b := r + 20) hx fl_X7_46 cl_X7 dX7_tires_22 hT.o (by decide) rfl hT.r13 ?_
  refine J_iload_n hx dX7_tires_25 (i := 3) rfl rfl ?_
  refine J_dup2 hx dX7_tires_26 rfl rfl ?_
  refine J_iald2 (v := A.att 3 ((A.ch A.tn).getD j 0)) hx ((A.ch A.tn).getD j 0) dX7_tires_27 hT.k20 (by omega) (hT.l20 (by omega)) (hN.ti (show _ < A.n by omega)) ?_
  refine J_aload_n hx dX7_tires_28 (i := 0) rfl rfl ?_
  refine J_getR (b := r + 20) hx fl_X7_46 cl_X7 dX7_tires_29 hT.o (by decide) rfl hT.r13 ?_
  refine J_iload_n hx dX7_tires_32 (i := 3) rfl rfl ?_
  refine J_iald2 (v := A.att 3 ((A.ch A.tn).getD j 0)) hx ((A.ch A.tn).getD j 0) dX7_tires_33 hT.k20 (by omega) (hT.l20 (by omega)) (hN.ti (show _ < A.n by omega)) ?_
  refine J_bipush (v := 20) hx dX7_tires_34 (by decide) ?_
  refine J_icmp_ge (tgt := 43) hx dX7_tires_36 (by decide) (fun c1 => ?_) (fun c1 => ?_)
  · refine J_iconst (v := 0) hx dX7_tires_43 (by decide) ?_
    refine J_iadd (v := tird (A.att 3 ((A.ch A.tn).getD j 0))) hx dX7_tires_44 (by first | exact tird1 (by omega) (by omega) | exact tird0 (by omega) (by omega)) ?_
    refine J_iast hx ((A.ch A.tn).getD j 0) dX7_tires_45 hT.k20 (by omega) (hT.l20 (by omega)) ?_
    have hN1 : MN (up2 M (r + 20) ((A.ch A.tn).getD j 0) (tird (A.att 3 ((A.ch A.tn).getD j 0)))) r (A.setA 3 ((A.ch A.tn).getD j 0) (tird (A.att 3 ((A.ch A.tn).getD j 0)))) := hN.setA (f := 3) _ (by decide)
    have hF1 : FrN r M (up2 M (r + 20) ((A.ch A.tn).getD j 0) (tird (A.att 3 ((A.ch A.tn).getD j 0)))) := (FrN.rf (r := r) (M := M)).up (Or.inl (by omega)) _
    generalize eM1 : up2 M (r + 20) ((A.ch A.tn).getD j 0) (tird (A.att 3 ((A.ch A.tn).getD j 0))) = M1 at hN1 hF1 ⊢
    refine J_iinc (v := ((j : Nat) : Int) + 1) (lsn := [vR (r), vI (((j : Nat) : Int)), vI (((j : Nat) : Int) + 1), vI ((((A.ch A.tn).getD j 0 : Nat) : Int))]) hx dX7_tires_46 rfl (jinc1 (by omega) (by omega)) rfl rfl ?_
    refine J_goto (tgt := 2) hx dX7_tires_49 (by decide) ?_
    refine J_iload_n hx dX7_tires_2 (i := 2) rfl rfl ?_
    refine J_iload_n hx dX7_tires_3 (i := 1) rfl rfl ?_
    refine J_iconst (v := 1) hx dX7_tires_4 (by decide) ?_
    refine J_iadd (v := ((j : Nat) : Int) + 1) hx dX7_tires_5 (w32_id (by omega) (by omega)) ?_
    refine J_icmp_gt (tgt := 52) hx dX7_tires_6 (by decide) (fun c9 => absurd c9 (by omega)) (fun _ => ?_)
    refine J_aload_n hx dX7_tires_9 (i := 0) rfl rfl ?_
    refine J_getR (b := r + 22) hx fl_X7_54 cl_X7 dX7_tires_10 hT.o (by decide) rfl hT.r15 ?_
    refine J_aload_n hx dX7_tires_13 (i := 0) rfl rfl ?_
    refine J_getI2 (v := ((A.tn : Nat) : Int)) hx fl_X7_148 cl_X7 dX7_tires_14 hT.o (by decide) rfl (hN1.s5.trans hW.tni) ?_
    refine J_aald (b := r + 23 + A.tn) hx A.tn dX7_tires_17 hT.k22 (by decide) (by omega) (hT.l22 (by omega)) (hT.f22 (by omega)) ?_
    refine J_iload_n hx dX7_tires_18 (i := 2) rfl rfl ?_
    refine J_iald2 (v := (((A.ch A.tn).getD (j + 1) 0 : Nat) : Int)) hx (j + 1) dX7_tires_19 (hT.kl (by omega)) (by omega) (hT.ll (by omega) (by omega)) (hN1.ln (by omega) (show _ < (A.ch A.tn).length by omega)) ?_
    refine J_istore_n (lsn := [vR (r), vI (((j : Nat) : Int)), vI (((j : Nat) : Int) + 1), vI ((((A.ch A.tn).getD (j + 1) 0 : Nat) : Int))]) hx dX7_tires_20 (i := 3) rfl (Nat.le_of_ble_eq_true rfl) rfl rfl ?_
    refine J_aload_n hx dX7_tires_21 (i := 0) rfl rfl ?_
    refine J_getR (b := r + 20) hx fl_X7_46 cl_X7 dX7_tires_22 hT.o (by decide) rfl hT.r13 ?_
    refine J_iload_n hx dX7_tires_25 (i := 3) rfl rfl ?_
    refine J_dup2 hx dX7_tires_26 rfl rfl ?_
    refine J_iald2 (v := (A.setA 3 ((A.ch A.tn).getD j 0) (tird (A.att 3 ((A.ch A.tn).getD j 0)))).att 3 ((A.ch A.tn).getD (j + 1) 0)) hx ((A.ch A.tn).getD (j + 1) 0) dX7_tires_27 hT.k20 (by omega) (hT.l20 (by omega)) (hN1.ti (show _ < A.n by omega)) ?_
    refine J_aload_n hx dX7_tires_28 (i := 0) rfl rfl ?_
    refine J_getR (b := r + 20) hx fl_X7_46 cl_X7 dX7_tires_29 hT.o (by decide) rfl hT.r13 ?_
    refine J_iload_n hx dX7_tires_32 (i := 3) rfl rfl ?_
    refine J_iald2 (v := (A.setA 3 ((A.ch A.tn).getD j 0) (tird (A.att 3 ((A.ch A.tn).getD j 0)))).att 3 ((A.ch A.tn).getD (j + 1) 0)) hx ((A.ch A.tn).getD (j + 1) 0) dX7_tires_33 hT.k20 (by omega) (hT.l20 (by omega)) (hN1.ti (show _ < A.n by omega)) ?_
    refine J_bipush (v := 20) hx dX7_tires_34 (by decide) ?_
    refine J_icmp_ge (tgt := 43) hx dX7_tires_36 (by decide) (fun c2 => ?_) (fun c2 => ?_)
    · refine J_iconst (v := 0) hx dX7_tires_43 (by decide) ?_
      refine J_iadd (v := tird ((A.setA 3 ((A.ch A.tn).getD j 0) (tird (A.att 3 ((A.ch A.tn).getD j 0)))).att 3 ((A.ch A.tn).getD (j + 1) 0))) hx dX7_tires_44 (by first | exact tird1 (by omega) (by omega) | exact tird0 (by omega) (by omega)) ?_
      refine J_iast hx ((A.ch A.tn).getD (j + 1) 0) dX7_tires_45 hT.k20 (by omega) (hT.l20 (by omega)) ?_
      have hN2 : MN (up2 M1 (r + 20) ((A.ch A.tn).getD (j + 1) 0) (tird ((A.setA 3 ((A.ch A.tn).getD j 0) (tird (A.att 3 ((A.ch A.tn).getD j 0)))).att 3 ((A.ch A.tn).getD (j + 1) 0)))) r ((A.setA 3 ((A.ch A.tn).getD j 0) (tird (A.att 3 ((A.ch A.tn).getD j 0)))).setA 3 ((A.ch A.tn).getD (j + 1) 0) (tird ((A.setA 3 ((A.ch A.tn).getD j 0) (tird (A.att 3 ((A.ch A.tn).getD j 0)))).att 3 ((A.ch A.tn).getD (j + 1) 0)))) := hN1.setA (f := 3) _ (by decide)
      have hF2 : FrN r M (up2 M1 (r + 20) ((A.ch A.tn).getD (j + 1) 0) (tird ((A.setA 3 ((A.ch A.tn).getD j 0) (tird (A.att 3 ((A.ch A.tn).getD j 0)))).att 3 ((A.ch A.tn).getD (j + 1) 0)))) := hF1.up (Or.inl (by omega)) _
      generalize eM2 : up2 M1 (r + 20) ((A.ch A.tn).getD (j + 1) 0) (tird ((A.setA 3 ((A.ch A.tn).getD j 0) (tird (A.att 3 ((A.ch A.tn).getD j 0)))).att 3 ((A.ch A.tn).getD (j + 1) 0))) = M2 at hN2 hF2 ⊢
      refine J_iinc (v := ((j : Nat) : Int) + 1 + 1) (lsn := [vR (r), vI (((j : Nat) : Int)), vI (((j : Nat) : Int) + 1 + 1), vI ((((A.ch A.tn).getD (j + 1) 0 : Nat) : Int))]) hx dX7_tires_46 rfl (jinc1 (by omega) (by omega)) rfl rfl ?_
      refine J_goto (tgt := 2) hx dX7_tires_49 (by decide) ?_
      refine J_iload_n hx dX7_tires_2 (i := 2) rfl rfl ?_
      refine J_iload_n hx dX7_tires_3 (i := 1) rfl rfl ?_
      refine J_iconst (v := 1) hx dX7_tires_4 (by decide) ?_
      refine J_iadd (v := ((j : Nat) : Int) + 1) hx dX7_tires_5 (w32_id (by omega) (by omega)) ?_
      refine J_icmp_gt (tgt := 52) hx dX7_tires_6 (by decide) (fun _ => ?_) (fun c9 => absurd c9 (by omega))
      refine J_vret hx hr dX7_tires_52 ?_
      exact hQ _ hN2 hF2
    · refine J_iconst (v := 1) hx dX7_tires_39 (by decide) ?_
      refine J_goto (tgt := 44) hx dX7_tires_40 (by decide) ?_
      refine J_iadd (v := tird ((A.setA 3 ((A.ch A.tn).getD j 0) (tird (A.att 3 ((A.ch A.tn).getD j 0)))).att 3 ((A.ch A.tn).getD (j + 1) 0))) hx dX7_tires_44 (by first | exact tird1 (by omega) (by omega) | exact tird0 (by omega) (by omega)) ?_
      refine J_iast hx ((A.ch A.tn).getD (j + 1) 0) dX7_tires_45 hT.k20 (by omega) (hT.l20 (by omega)) ?_
      have hN2 : MN (up2 M1 (r + 20) ((A.ch A.tn).getD (j + 1) 0) (tird ((A.setA 3 ((A.ch A.tn).getD j 0) (tird (A.att 3 ((A.ch A.tn).getD j 0)))).att 3 ((A.ch A.tn).getD (j + 1) 0)))) r ((A.setA 3 ((A.ch A.tn).getD j 0) (tird (A.att 3 ((A.ch A.tn).getD j 0)))).setA 3 ((A.ch A.tn).getD (j + 1) 0) (tird ((A.setA 3 ((A.ch A.tn).getD j 0) (tird (A.att 3 ((A.ch A.tn).getD j 0)))).att 3 ((A.ch A.tn).getD (j + 1) 0)))) := hN1.setA (f := 3) _ (by decide)
      have hF2 : FrN r M (up2 M1 (r + 20) ((A.ch A.tn).getD (j + 1) 0) (tird ((A.setA 3 ((A.ch A.tn).getD j 0) (tird (A.att 3 ((A.ch A.tn).getD j 0)))).att 3 ((A.ch A.tn).getD (j + 1) 0)))) := hF1.up (Or.inl (by omega)) _
      generalize eM2 : up2 M1 (r + 20) ((A.ch A.tn).getD (j + 1) 0) (tird ((A.setA 3 ((A.ch A.tn).getD j 0) (tird (A.att 3 ((A.ch A.tn).getD j 0)))).att 3 ((A.ch A.tn).getD (j + 1) 0))) = M2 at hN2 hF2 ⊢
      refine J_iinc (v := ((j : Nat) : Int) + 1 + 1) (lsn := [vR (r), vI (((j : Nat) : Int)), vI (((j : Nat) : Int) + 1 + 1), vI ((((A.ch A.tn).getD (j + 1) 0 : Nat) : Int))]) hx dX7_tires_46 rfl (jinc1 (by omega) (by omega)) rfl rfl ?_
      refine J_goto (tgt := 2) hx dX7_tires_49 (by decide) ?_
      refine J_iload_n hx dX7_tires_2 (i := 2) rfl rfl ?_
      refine J_iload_n hx dX7_tires_3 (i := 1) rfl rfl ?_
      refine J_iconst (v := 1) hx dX7_tires_4 (by decide) ?_
      refine J_iadd (v := ((j : Nat) : Int) + 1) hx dX7_tires_5 (w32_id (by omega) (by omega)) ?_
      refine J_icmp_gt (tgt := 52) hx dX7_tires_6 (by decide) (fun _ => ?_) (fun c9 => absurd c9 (by omega))
      refine J_vret hx hr dX7_tires_52 ?_
      exact hQ _ hN2 hF2
  · refine J_iconst (v := 1) hx dX7_tires_39 (by decide) ?_
    refine J_goto (tgt := 44) hx dX7_tires_40 (by decide) ?_
    refine J_iadd (v := tird (A.att 3 ((A.ch A.tn).getD j 0))) hx dX7_tires_44 (by first | exact tird1 (by omega) (by omega) | exact tird0 (by omega) (by omega)) ?_
    refine J_iast hx ((A.ch A.tn).getD j 0) dX7_tires_45 hT.k20 (by omega) (hT.l20 (by omega)) ?_
    have hN1 : MN (up2 M (r + 20) ((A.ch A.tn).getD j 0) (tird (A.att 3 ((A.ch A.tn).getD j 0)))) r (A.setA 3 ((A.ch A.tn).getD j 0) (tird (A.att 3 ((A.ch A.tn).getD j 0)))) := hN.setA (f := 3) _ (by decide)
    have hF1 : FrN r M (up2 M (r + 20) ((A.ch A.tn).getD j 0) (tird (A.att 3 ((A.ch A.tn).getD j 0)))) := (FrN.rf (r := r) (M := M)).up (Or.inl (by omega)) _
    generalize eM1 : up2 M (r + 20) ((A.ch A.tn).getD j 0) (tird (A.att 3 ((A.ch A.tn).getD j 0))) = M1 at hN1 hF1 ⊢
    refine J_iinc (v := ((j : Nat) : Int) + 1) (lsn := [vR (r), vI (((j : Nat) : Int)), vI (((j : Nat) : Int) + 1), vI ((((A.ch A.tn).getD j 0 : Nat) : Int))]) hx dX7_tires_46 rfl (jinc1 (by omega) (by omega)) rfl rfl ?_
    refine J_goto (tgt := 2) hx dX7_tires_49 (by decide) ?_
    refine J_iload_n hx dX7_tires_2 (i := 2) rfl rfl ?_
    refine J_iload_n hx dX7_tires_3 (i := 1) rfl rfl ?_
    refine J_iconst (v := 1) hx dX7_tires_4 (by decide) ?_
    refine J_iadd (v := ((j : Nat) : Int) + 1) hx dX7_tires_5 (w32_id (by omega) (by omega)) ?_
    refine J_icmp_gt (tgt := 52) hx dX7_tires_6 (by decide) (fun c9 => absurd c9 (by omega)) (fun _ => ?_)
    refine J_aload_n hx dX7_tires_9 (i := 0) rfl rfl ?_
    refine J_getR (b := r + 22) hx fl_X7_54 cl_X7 dX7_tires_10 hT.o (by decide) rfl hT.r15 ?_
    refine J_aload_n hx dX7_tires_13 (i := 0) rfl rfl ?_
    refine J_getI2 (v := ((A.tn : Nat) : Int)) hx fl_X7_148 cl_X7 dX7_tires_14 hT.o (by decide) rfl (hN1.s5.trans hW.tni) ?_
    refine J_aald (b := r + 23 + A.tn) hx A.tn dX7_tires_17 hT.k22 (by decide) (by omega) (hT.l22 (by omega)) (hT.f22 (by omega)) ?_
    refine J_iload_n hx dX7_tires_18 (i := 2) rfl rfl ?_
    refine J_iald2 (v := (((A.ch A.tn).getD (j + 1) 0 : Nat) : Int)) hx (j + 1) dX7_tires_19 (hT.kl (by omega)) (by omega) (hT.ll (by omega) (by omega)) (hN1.ln (by omega) (show _ < (A.ch A.tn).length by omega)) ?_
    refine J_istore_n (lsn := [vR (r), vI (((j : Nat) : Int)), vI (((j : Nat) : Int) + 1), vI ((((A.ch A.tn).getD (j + 1) 0 : Nat) : Int))]) hx dX7_tires_20 (i := 3) rfl (Nat.le_of_ble_eq_true rfl) rfl rfl ?_
    refine J_aload_n hx dX7_tires_21 (i := 0) rfl rfl ?_
    refine J_getR (b := r + 20) hx fl_X7_46 cl_X7 dX7_tires_22 hT.o (by decide) rfl hT.r13 ?_
    refine J_iload_n hx dX7_tires_25 (i := 3) rfl rfl ?_
    refine J_dup2 hx dX7_tires_26 rfl rfl ?_
    refine J_iald2 (v := (A.setA 3 ((A.ch A.tn).getD j 0) (tird (A.att 3 ((A.ch A.tn).getD j 0)))).att 3 ((A.ch A.tn).getD (j + 1) 0)) hx ((A.ch A.tn).getD (j + 1) 0) dX7_tires_27 hT.k20 (by omega) (hT.l20 (by omega)) (hN1.ti (show _ < A.n by omega)) ?_
    refine J_aload_n hx dX7_tires_28 (i := 0) rfl rfl ?_
    refine J_getR (b := r + 20) hx fl_X7_46 cl_X7 dX7_tires_29 hT.o (by decide) rfl hT.r13 ?_
    refine J_iload_n hx dX7_tires_32 (i := 3) rfl rfl ?_
    refine J_iald2 (v := (A.setA 3 ((A.ch A.tn).getD j 0) (tird (A.att 3 ((A.ch A.tn).getD j 0)))).att 3 ((A.ch A.tn).getD (j + 1) 0)) hx ((A.ch A.tn).getD (j + 1) 0) dX7_tires_33 hT.k20 (by omega) (hT.l20 (by omega)) (hN1.ti (show _ < A.n by omega)) ?_
    refine J_bipush (v := 20) hx dX7_tires_34 (by decide) ?_
    refine J_icmp_ge (tgt := 43) hx dX7_tires_36 (by decide) (fun c3 => ?_) (fun c3 => ?_)
    · refine J_iconst (v := 0) hx dX7_tires_43 (by decide) ?_
      refine J_iadd (v := tird ((A.setA 3 ((A.ch A.tn).getD j 0) (tird (A.att 3 ((A.ch A.tn).getD j 0)))).att 3 ((A.ch A.tn).getD (j + 1) 0))) hx dX7_tires_44 (by first | exact tird1 (by omega) (by omega) | exact tird0 (by omega) (by omega)) ?_
      refine J_iast hx ((A.ch A.tn).getD (j + 1) 0) dX7_tires_45 hT.k20 (by omega) (hT.l20 (by omega)) ?_
      have hN2 : MN (up2 M1 (r + 20) ((A.ch A.tn).getD (j + 1) 0) (tird ((A.setA 3 ((A.ch A.tn).getD j 0) (tird (A.att 3 ((A.ch A.tn).getD j 0)))).att 3 ((A.ch A.tn).getD (j + 1) 0)))) r ((A.setA 3 ((A.ch A.tn).getD j 0) (tird (A.att 3 ((A.ch A.tn).getD j 0)))).setA 3 ((A.ch A.tn).getD (j + 1) 0) (tird ((A.setA 3 ((A.ch A.tn).getD j 0) (tird (A.att 3 ((A.ch A.tn).getD j 0)))).att 3 ((A.ch A.tn).getD (j + 1) 0)))) := hN1.setA (f := 3) _ (by decide)
      have hF2 : FrN r M (up2 M1 (r + 20) ((A.ch A.tn).getD (j + 1) 0) (tird ((A.setA 3 ((A.ch A.tn).getD j 0) (tird (A.att 3 ((A.ch A.tn).getD j 0)))).att 3 ((A.ch A.tn).getD (j + 1) 0)))) := hF1.up (Or.inl (by omega)) _
      generalize eM2 : up2 M1 (r + 20) ((A.ch A.tn).getD (j + 1) 0) (tird ((A.setA 3 ((A.ch A.tn).getD j 0) (tird (A.att 3 ((A.ch A.tn).getD j 0)))).att 3 ((A.ch A.tn).getD (j + 1) 0))) = M2 at hN2 hF2 ⊢
      refine J_iinc (v := ((j : Nat) : Int) + 1 + 1) (lsn := [vR (r), vI (((j : Nat) : Int)), vI (((j : Nat) : Int) + 1 + 1), vI ((((A.ch A.tn).getD (j + 1) 0 : Nat) : Int))]) hx dX7_tires_46 rfl (jinc1 (by omega) (by omega)) rfl rfl ?_
      refine J_goto (tgt := 2) hx dX7_tires_49 (by decide) ?_
      refine J_iload_n hx dX7_tires_2 (i := 2) rfl rfl ?_
      refine J_iload_n hx dX7_tires_3 (i := 1) rfl rfl ?_
      refine J_iconst (v := 1) hx dX7_tires_4 (by decide) ?_
      refine J_iadd (v := ((j : Nat) : Int) + 1) hx dX7_tires_5 (w32_id (by omega) (by omega)) ?_
      refine J_icmp_gt (tgt := 52) hx dX7_tires_6 (by decide) (fun _ => ?_) (fun c9 => absurd c9 (by omega))
      refine J_vret hx hr dX7_tires_52 ?_
      exact hQ _ hN2 hF2
    · refine J_iconst (v := 1) hx dX7_tires_39 (by decide) ?_
      refine J_goto (tgt := 44) hx dX7_tires_40 (by decide) ?_
      refine J_iadd (v := tird ((A.setA 3 ((A.ch A.tn).getD j 0) (tird (A.att 3 ((A.ch A.tn).getD j 0)))).att 3 ((A.ch A.tn).getD (j + 1) 0))) hx dX7_tires_44 (by first | exact tird1 (by omega) (by omega) | exact tird0 (by omega) (by omega)) ?_
      refine J_iast hx ((A.ch A.tn).getD (j + 1) 0) dX7_tires_45 hT.k20 (by omega) (hT.l20 (by omega)) ?_
      have hN2 : MN (up2 M1 (r + 20) ((A.ch A.tn).getD (j + 1) 0) (tird ((A.setA 3 ((A.ch A.tn).getD j 0) (tird (A.att 3 ((A.ch A.tn).getD j 0)))).att 3 ((A.ch A.tn).getD (j + 1) 0)))) r ((A.setA 3 ((A.ch A.tn).getD j 0) (tird (A.att 3 ((A.ch A.tn).getD j 0)))).setA 3 ((A.ch A.tn).getD (j + 1) 0) (tird ((A.setA 3 ((A.ch A.tn).getD j 0) (tird (A.att 3 ((A.ch A.tn).getD j 0)))).att 3 ((A.ch A.tn).getD (j + 1) 0)))) := hN1.setA (f := 3) _ (by decide)
      have hF2 : FrN r M (up2 M1 (r + 20) ((A.ch A.tn).getD (j + 1) 0) (tird ((A.setA 3 ((A.ch A.tn).getD j 0) (tird (A.att 3 ((A.ch A.tn).getD j 0)))).att 3 ((A.ch A.tn).getD (j + 1) 0)))) := hF1.up (Or.inl (by omega)) _
      generalize eM2 : up2 M1 (r + 20) ((A.ch A.tn).getD (j + 1) 0) (tird ((A.setA 3 ((A.ch A.tn).getD j 0) (tird (A.att 3 ((A.ch A.tn).getD j 0)))).att 3 ((A.ch A.tn).getD (j + 1) 0))) = M2 at hN2 hF2 ⊢
      refine J_iinc (v := ((j : Nat) : Int) + 1 + 1) (lsn := [vR (r), vI (((j : Nat) : Int)), vI (((j : Nat) : Int) + 1 + 1), vI ((((A.ch A.tn).getD (j + 1) 0 : Nat) : Int))]) hx dX7_tires_46 rfl (jinc1 (by omega) (by omega)) rfl rfl ?_
      refine J_goto (tgt := 2) hx dX7_tires_49 (by decide) ?_
      refine J_iload_n hx dX7_tires_2 (i := 2) rfl rfl ?_
      refine J_iload_n hx dX7_tires_3 (i := 1) rfl rfl ?_
      refine J_iconst (v := 1) hx dX7_tires_4 (by decide) ?_
      refine J_iadd (v := ((j : Nat) : Int) + 1) hx dX7_tires_5 (w32_id (by omega) (by omega)) ?_
      refine J_icmp_gt (tgt := 52) hx dX7_tires_6 (by decide) (fun _ => ?_) (fun c9 => absurd c9 (by omega))
      refine J_vret hx hr dX7_tires_52 ?_
      exact hQ _ hN2 hF2

set_option maxHeartbeats 4000000 in
theorem lp_X7_goesOut {g : WG} {d : Nat} {T : TT} {M : MM} {r sz : Nat} {A : YA} {Q : MVal → TT → MM → Nat → Prop} (hT : MT T r) (hN : MN M r A) {x : CX} (hx : OKx g x RX7 cX7_goesOut (d + 1)) (hr : RTx g x none Q) {c k : Nat} (hc : c < 2) (hk : k < (A.ch c).length) (h8 : (A.ch c).length ≤ 8) (hQ : ∀ M', MN M' r (A.setC c ((A.ch c).eraseIdx k)) → FrN r M M' → Q vU T M' sz) (j : Nat) (M1 : MM) (hj1 : k ≤ j) (hj : j + 1 ≤ (A.ch c).length) (hrow : ∀ i, M1 (r + 23 + c) i = if k ≤ i ∧ i < j then M (r + 23 + c) (i + 1) else M (r + 23 + c) i) (hz1 : M1 (r + 25) c = (((A.ch c).length : Nat) : Int)) (ho1 : ∀ a, a ≠ r + 23 + c → M1 a = M a) : Jd g x 2 [vR (r), vI (((c : Nat) : Int)), vI (((k : Nat) : Int)), vI (((j : Nat) : Int))] [] T M1 sz 0 0 := by
  refine J_iload_n hx dX7_goesOut_2 (i := 3) rfl rfl ?_
  refine J_aload_n hx dX7_goesOut_3 (i := 0) rfl rfl ?_
  refine J_getR (b := r + 25) hx fl_X7_57 cl_X7 dX7_goesOut_4 hT.o (by decide) rfl hT.r16 ?_
  refine J_iload_n hx dX7_goesOut_7 (i := 1) rfl rfl ?_
  refine J_iald2 (v := (((A.ch c).length : Nat) : Int)) hx c dX7_goesOut_8 hT.k25 (by omega) (hT.l25 (by omega)) hz1 ?_
  refine J_iconst (v := 1) hx dX7_goesOut_9 (by decide) ?_
  refine J_isub (v := (((A.ch c).length : Nat) : Int) - 1) hx dX7_goesOut_10 (w32_id (by omega) (by omega)) ?_
  refine J_icmp_ge (tgt := 38) hx dX7_goesOut_11 (by decide) (fun c1 => ?_) (fun c1 => ?_)
  · refine J_aload_n hx dX7_goesOut_38 (i := 0) rfl rfl ?_
    refine J_getR (b := r + 25) hx fl_X7_57 cl_X7 dX7_goesOut_39 hT.o (by decide) rfl hT.r16 ?_
    refine J_iload_n hx dX7_goesOut_42 (i := 1) rfl rfl ?_
    refine J_dup2 hx dX7_goesOut_43 rfl rfl ?_
    refine J_iald2 (v := (((A.ch c).length : Nat) : Int)) hx c dX7_goesOut_44 hT.k25 (by omega) (hT.l25 (by omega)) hz1 ?_
    refine J_iconst (v := 1) hx dX7_goesOut_45 (by decide) ?_
    refine J_isub (v := (((A.ch c).length : Nat) : Int) - 1) hx dX7_goesOut_46 (w32_id (by omega) (by omega)) ?_
    refine J_iast hx c dX7_goesOut_47 hT.k25 (by omega) (hT.l25 (by omega)) ?_
    generalize eM2 : up2 M1 (r + 25) c ((((A.ch c).length : Nat) : Int) - 1) = M2
    have hM2a : M2 (r + 25) c = (((A.ch c).length : Nat) : Int) - 1 := by rw [← eM2]; exact up2_at
    have hM2o : ∀ b9 j9, (b9 ≠ r + 25 ∨ j9 ≠ c) → M2 b9 j9 = M1 b9 j9 := fun b9 j9 h9 => by rw [← eM2]; exact up2_ne h9
    have hM2r : ∀ b9, b9 ≠ r + 25 → M2 b9 = M1 b9 := fun b9 h9 => by rw [← eM2]; exact up2_row h9
    refine J_vret hx hr dX7_goesOut_48 ?_
    refine hQ M2 (hN.setC hc (fun i hi => ?_) ?_ ?_ (fun a h1 h2 => by rw [hM2r a h2, ho1 a h1])) (fun a i h1 h2 => by rw [hM2r a (by omega), ho1 a (by omega)])
    · have hi2 := erI_len hk
      rw [hM2r _ (by omega), hrow, erI_getD]
      by_cases e : i < k
      · rw [if_neg (by omega), if_pos e]; exact hN.ln hc (by omega)
      · rw [if_pos (by omega), if_neg e]; exact hN.ln hc (by omega)
    · have hi2 := erI_len hk
      rw [hM2a]; omega
    · rw [hM2o _ _ (Or.inr (by omega)), ho1 _ (by omega)]
  · refine J_aload_n hx dX7_goesOut_14 (i := 0) rfl rfl ?_
    refine J_getR (b := r + 22) hx fl_X7_54 cl_X7 dX7_goesOut_15 hT.o (by decide) rfl hT.r15 ?_
    refine J_iload_n hx dX7_goesOut_18 (i := 1) rfl rfl ?_
    refine J_aald (b := r + 23 + c) hx c dX7_goesOut_19 hT.k22 (by decide) (by omega) (hT.l22 (by omega)) (hT.f22 (by omega)) ?_
    refine J_iload_n hx dX7_goesOut_20 (i := 3) rfl rfl ?_
    refine J_aload_n hx dX7_goesOut_21 (i := 0) rfl rfl ?_
    refine J_getR (b := r + 22) hx fl_X7_54 cl_X7 dX7_goesOut_22 hT.o (by decide) rfl hT.r15 ?_
    refine J_iload_n hx dX7_goesOut_25 (i := 1) rfl rfl ?_
    refine J_aald (b := r + 23 + c) hx c dX7_goesOut_26 hT.k22 (by decide) (by omega) (hT.l22 (by omega)) (hT.f22 (by omega)) ?_
    refine J_iload_n hx dX7_goesOut_27 (i := 3) rfl rfl ?_
    refine J_iconst (v := 1) hx dX7_goesOut_28 (by decide) ?_
    refine J_iadd (v := ((j : Nat) : Int) + 1) hx dX7_goesOut_29 (w32_id (by omega) (by omega)) ?_
    refine J_iald2 (v := M1 (r + 23 + c) (j + 1)) hx (j + 1) dX7_goesOut_30 (hT.kl (by omega)) (by omega) (hT.ll (by omega) (by omega)) rfl ?_
    refine J_iast hx j dX7_goesOut_31 (hT.kl (by omega)) (by omega) (hT.ll (by omega) (by omega)) ?_
    generalize eM2 : up2 M1 (r + 23 + c) j (M1 (r + 23 + c) (j + 1)) = M2
    have hM2a : M2 (r + 23 + c) j = M1 (r + 23 + c) (j + 1) := by rw [← eM2]; exact up2_at
    have hM2o : ∀ b9 j9, (b9 ≠ r + 23 + c ∨ j9 ≠ j) → M2 b9 j9 = M1 b9 j9 := fun b9 j9 h9 => by rw [← eM2]; exact up2_ne h9
    have hM2r : ∀ b9, b9 ≠ r + 23 + c → M2 b9 = M1 b9 := fun b9 h9 => by rw [← eM2]; exact up2_row h9
    refine J_iinc (v := ((j : Nat) : Int) + 1) (lsn := [vR (r), vI (((c : Nat) : Int)), vI (((k : Nat) : Int)), vI (((j : Nat) : Int) + 1)]) hx dX7_goesOut_32 rfl (jinc1 (by omega) (by omega)) rfl rfl ?_
    refine J_goto (tgt := 2) hx dX7_goesOut_35 (by decide) ?_
    exact lp_X7_goesOut hT hN hx hr hc hk h8 hQ (j + 1) M2 (by omega) (by omega) (fun i => by
      by_cases e : i = j
      · subst e; rw [hM2a, hrow, if_neg (by omega), if_pos (by omega)]
      · rw [hM2o _ _ (Or.inr e), hrow]
        by_cases e2 : k ≤ i ∧ i < j
        · rw [if_pos e2, if_pos (by omega)]
        · rw [if_neg e2, if_neg (by omega)]) (by rw [hM2r _ (by omega)]; exact hz1) (fun a ha => by rw [hM2r a ha]; exact ho1 a ha)
termination_by (A.ch c).length - j
decreasing_by all_goals omega

set_option maxHeartbeats 4000000 in
theorem c_X7_goesOut {g : WG} {d : Nat} {T : TT} {M : MM} {r sz : Nat} {A : YA} {Q : MVal → TT → MM → Nat → Prop} (hT : MT T r) (hN : MN M r A) {c k : Nat} (hc : c < 2) (hk : k < (A.ch c).length) (h8 : (A.ch c).length ≤ 8) (hQ : ∀ M', MN M' r (A.setC c ((A.ch c).eraseIdx k)) → FrN r M M' → Q vU T M' sz) : Ct g (d + 1) mX7_goesOut [vR (r), vI (((c : Nat) : Int)), vI (((k : Nat) : Int))] T M sz 0 0 Q := by
  refine Ct_of2 (ls := [vR (r), vI (((c : Nat) : Int)), vI (((k : Nat) : Int)), vU]) okX7_goesOut rfl (Nat.le_of_ble_eq_true rfl) rfl ?_
  intro x hx hr hnm
  refine J_iload_n hx dX7_goesOut_0 (i := 2) rfl rfl ?_
  refine J_istore_n (lsn := [vR (r), vI (((c : Nat) : Int)), vI (((k : Nat) : Int)), vI (((k : Nat) : Int))]) hx dX7_goesOut_1 (i := 3) rfl (Nat.le_of_ble_eq_true rfl) rfl rfl ?_
  exact lp_X7_goesOut hT hN hx hr hc hk h8 hQ k M (by omega) (by omega) (fun i => by rw [if_neg (by omega)]) (hN.sz hc) (fun _ _ => rfl)

set_option maxHeartbeats 4000000 in
theorem lp_X7_runsHeld {g : WG} {d : Nat} {T : TT} {M : MM} {r sz : Nat} {A : YA} {Q : MVal → TT → MM → Nat → Prop} (hT : MT T r) (hN : MN M r A) {x : CX} (hx : OKx g x RX7 cX7_runsHeld (d + 2)) (hr : RTx g x none Q) {t p j : Nat} (ht : t < 2) (ht5 : M r 21 = ((t : Nat) : Int)) (h5 : 0 ≤ A.sc 5 ∧ A.sc 5 ≤ 1) (h6 : 0 ≤ A.sc 6 ∧ A.sc 6 ≤ 99) (hk : j + 1 ≤ (A.ch t).length) (hl7 : (A.ch t).length < 8) (hQ : ∀ M', MN M' r (((A.setC t (insAt (A.ch t) (j + 1) p)).setS 5 (1 - A.sc 5)).setS 6 (A.sc 6 + 1)) → FrN r M M' → Q vU T M' sz) (q : Nat) (M1 : MM) (hq1 : j + 1 ≤ q) (hq2 : q ≤ (A.ch t).length) (hrow : ∀ k1, M1 (r + 23 + t) k1 = if q < k1 ∧ k1 ≤ (A.ch t).length then M (r + 23 + t) (k1 - 1) else M (r + 23 + t) k1) (ho1 : ∀ a, a ≠ r + 23 + t → M1 a = M a) : Jd g x 33 [vR (r), vI (((p : Nat) : Int)), vI (((j : Nat) : Int)), vI (((q : Nat) : Int))] [] T M1 sz 0 0 := by
  refine J_iload_n hx dX7_runsHeld_33 (i := 3) rfl rfl ?_
  refine J_iload_n hx dX7_runsHeld_34 (i := 2) rfl rfl ?_
  refine J_iconst (v := 1) hx dX7_runsHeld_35 (by decide) ?_
  refine J_iadd (v := ((j : Nat) : Int) + 1) hx dX7_runsHeld_36 (w32_id (by omega) (by omega)) ?_
  refine J_icmp_le (tgt := 70) hx dX7_runsHeld_37 (by decide) (fun c1 => ?_) (fun c1 => ?_)
  · refine J_aload_n hx dX7_runsHeld_70 (i := 0) rfl rfl ?_
    refine J_getR (b := r + 22) hx fl_X7_54 cl_X7 dX7_runsHeld_71 hT.o (by decide) rfl hT.r15 ?_
    refine J_aload_n hx dX7_runsHeld_74 (i := 0) rfl rfl ?_
    refine J_getI2 (v := ((t : Nat) : Int)) hx fl_X7_148 cl_X7 dX7_runsHeld_75 hT.o (by decide) rfl (by rw [ho1 _ (by omega)]; exact ht5) ?_
    refine J_aald (b := r + 23 + t) hx t dX7_runsHeld_78 hT.k22 (by decide) (by omega) (hT.l22 (by omega)) (hT.f22 (by omega)) ?_
    refine J_iload_n hx dX7_runsHeld_79 (i := 2) rfl rfl ?_
    refine J_iconst (v := 1) hx dX7_runsHeld_80 (by decide) ?_
    refine J_iadd (v := ((j : Nat) : Int) + 1) hx dX7_runsHeld_81 (w32_id (by omega) (by omega)) ?_
    refine J_iload_n hx dX7_runsHeld_82 (i := 1) rfl rfl ?_
    refine J_iast hx (j + 1) dX7_runsHeld_83 (hT.kl (by omega)) (by omega) (hT.ll (by omega) (by omega)) ?_
    generalize eM2 : up2 M1 (r + 23 + t) (j + 1) ((p : Nat) : Int) = M2
    have hM2a : M2 (r + 23 + t) (j + 1) = ((p : Nat) : Int) := by rw [← eM2]; exact up2_at
    have hM2o : ∀ b9 j9, (b9 ≠ r + 23 + t ∨ j9 ≠ j + 1) → M2 b9 j9 = M1 b9 j9 := fun b9 j9 h9 => by rw [← eM2]; exact up2_ne h9
    have hM2r : ∀ b9, b9 ≠ r + 23 + t → M2 b9 = M1 b9 := fun b9 h9 => by rw [← eM2]; exact up2_row h9
    refine J_aload_n hx dX7_runsHeld_84 (i := 0) rfl rfl ?_
    refine J_getR (b := r + 25) hx fl_X7_57 cl_X7 dX7_runsHeld_85 hT.o (by decide) rfl hT.r16 ?_
    refine J_aload_n hx dX7_runsHeld_88 (i := 0) rfl rfl ?_
    refine J_getI2 (v := ((t : Nat) : Int)) hx fl_X7_148 cl_X7 dX7_runsHeld_89 hT.o (by decide) rfl (by rw [hM2r _ (by omega), ho1 _ (by omega)]; exact ht5) ?_
    refine J_dup2 hx dX7_runsHeld_92 rfl rfl ?_
    refine J_iald2 (v := (((A.ch t).length : Nat) : Int)) hx t dX7_runsHeld_93 hT.k25 (by omega) (hT.l25 (by omega)) (by rw [hM2r _ (by omega), ho1 _ (by omega)]; exact hN.sz ht) ?_
    refine J_iconst (v := 1) hx dX7_runsHeld_94 (by decide) ?_
    refine J_iadd (v := (((A.ch t).length : Nat) : Int) + 1) hx dX7_runsHeld_95 (w32_id (by omega) (by omega)) ?_
    refine J_iast hx t dX7_runsHeld_96 hT.k25 (by omega) (hT.l25 (by omega)) ?_
    generalize eM3 : up2 M2 (r + 25) t ((((A.ch t).length : Nat) : Int) + 1) = M3
    have hM3a : M3 (r + 25) t = (((A.ch t).length : Nat) : Int) + 1 := by rw [← eM3]; exact up2_at
    have hM3o : ∀ b9 j9, (b9 ≠ r + 25 ∨ j9 ≠ t) → M3 b9 j9 = M2 b9 j9 := fun b9 j9 h9 => by rw [← eM3]; exact up2_ne h9
    have hM3r : ∀ b9, b9 ≠ r + 25 → M3 b9 = M2 b9 := fun b9 h9 => by rw [← eM3]; exact up2_row h9
    have hN3 : MN M3 r (A.setC t (insAt (A.ch t) (j + 1) p)) := by
      refine hN.setC ht (fun k1 hk1 => ?_) ?_ ?_ (fun a h1 h2 => by rw [hM3r a h2, hM2r a h1, ho1 a h1])
      · rw [insAt_len hk] at hk1
        rw [insAt_getD hk, hM3r _ (by omega)]
        by_cases e : k1 = j + 1
        · subst e; rw [if_neg (by omega), if_pos rfl, hM2a]
        · rw [hM2o _ _ (Or.inr e), hrow]
          by_cases e2 : q < k1 ∧ k1 ≤ (A.ch t).length
          · rw [if_pos e2, if_neg (by omega), if_neg e]; exact hN.ln ht (by omega)
          · rw [if_neg e2, if_pos (by omega)]; exact hN.ln ht (by omega)
      · rw [hM3a, insAt_len hk]; omega
      · rw [hM3o _ _ (Or.inr (by omega)), hM2r _ (by omega), ho1 _ (by omega)]
    have hF3 : FrN r M M3 := fun a i h1 h2 => by rw [hM3r a (by omega), hM2r a (by omega), ho1 a (by omega)]
    refine J_aload_n hx dX7_runsHeld_97 (i := 0) rfl rfl ?_
    refine J_invVv (As := []) (st := []) hx lk_X7_296 okX7_ends dX7_runsHeld_98 hT.o (by decide) rfl rfl rfl (Nat.le_of_ble_eq_true rfl) (Nat.zero_add _).symm (Nat.zero_add _).symm rfl (c_X7_ends hT hN3 h5 h6 ?_)
    intro M4 hN4 hf4
    refine J_vret hx hr dX7_runsHeld_101 ?_
    exact hQ _ hN4 (hF3.tr hf4)
  · refine J_aload_n hx dX7_runsHeld_40 (i := 0) rfl rfl ?_
    refine J_getR (b := r + 22) hx fl_X7_54 cl_X7 dX7_runsHeld_41 hT.o (by decide) rfl hT.r15 ?_
    refine J_aload_n hx dX7_runsHeld_44 (i := 0) rfl rfl ?_
    refine J_getI2 (v := ((t : Nat) : Int)) hx fl_X7_148 cl_X7 dX7_runsHeld_45 hT.o (by decide) rfl (by rw [ho1 _ (by omega)]; exact ht5) ?_
    refine J_aald (b := r + 23 + t) hx t dX7_runsHeld_48 hT.k22 (by decide) (by omega) (hT.l22 (by omega)) (hT.f22 (by omega)) ?_
    refine J_iload_n hx dX7_runsHeld_49 (i := 3) rfl rfl ?_
    refine J_aload_n hx dX7_runsHeld_50 (i := 0) rfl rfl ?_
    refine J_getR (b := r + 22) hx fl_X7_54 cl_X7 dX7_runsHeld_51 hT.o (by decide) rfl hT.r15 ?_
    refine J_aload_n hx dX7_runsHeld_54 (i := 0) rfl rfl ?_
    refine J_getI2 (v := ((t : Nat) : Int)) hx fl_X7_148 cl_X7 dX7_runsHeld_55 hT.o (by decide) rfl (by rw [ho1 _ (by omega)]; exact ht5) ?_
    refine J_aald (b := r + 23 + t) hx t dX7_runsHeld_58 hT.k22 (by decide) (by omega) (hT.l22 (by omega)) (hT.f22 (by omega)) ?_
    refine J_iload_n hx dX7_runsHeld_59 (i := 3) rfl rfl ?_
    refine J_iconst (v := 1) hx dX7_runsHeld_60 (by decide) ?_
    refine J_isub (v := ((q : Nat) : Int) - 1) hx dX7_runsHeld_61 (w32_id (by omega) (by omega)) ?_
    refine J_iald2 (v := M1 (r + 23 + t) (q - 1)) hx (q - 1) dX7_runsHeld_62 (hT.kl (by omega)) (by omega) (hT.ll (by omega) (by omega)) rfl ?_
    refine J_iast hx q dX7_runsHeld_63 (hT.kl (by omega)) (by omega) (hT.ll (by omega) (by omega)) ?_
    generalize eM2 : up2 M1 (r + 23 + t) q (M1 (r + 23 + t) (q - 1)) = M2
    have hM2a : M2 (r + 23 + t) q = M1 (r + 23 + t) (q - 1) := by rw [← eM2]; exact up2_at
    have hM2o : ∀ b9 j9, (b9 ≠ r + 23 + t ∨ j9 ≠ q) → M2 b9 j9 = M1 b9 j9 := fun b9 j9 h9 => by rw [← eM2]; exact up2_ne h9
    have hM2r : ∀ b9, b9 ≠ r + 23 + t → M2 b9 = M1 b9 := fun b9 h9 => by rw [← eM2]; exact up2_row h9
    refine J_iinc (v := ((q - 1 : Nat) : Int)) (lsn := [vR (r), vI (((p : Nat) : Int)), vI (((j : Nat) : Int)), vI (((q - 1 : Nat) : Int))]) hx dX7_runsHeld_64 rfl (by rw [jincm1 (by omega) (by omega)]; omega) rfl rfl ?_
    refine J_goto (tgt := 33) hx dX7_runsHeld_67 (by decide) ?_
    exact lp_X7_runsHeld hT hN hx hr ht ht5 h5 h6 hk hl7 hQ (q - 1) M2 (by omega) (by omega) (fun k1 => by
      by_cases e : k1 = q
      · subst e; rw [if_pos (by omega), hM2a, hrow, if_neg (by omega)]
      · rw [hM2o _ _ (Or.inr e), hrow]
        by_cases e2 : q < k1 ∧ k1 ≤ (A.ch t).length
        · rw [if_pos e2, if_pos (by omega)]
        · rw [if_neg e2, if_neg (by omega)]) (fun a ha => by rw [hM2r a ha]; exact ho1 a ha)
termination_by q
decreasing_by all_goals omega

set_option maxHeartbeats 4000000 in
theorem c_X7_runsHeld {g : WG} {d : Nat} {T : TT} {M : MM} {r sz : Nat} {A : YA} {Q : MVal → TT → MM → Nat → Prop} (hT : MT T r) (hN : MN M r A) (hW : WFY A) {p j : Nat} (hp : p < A.n) (hc : A.co p ≠ A.tn) (hj : j + 1 < (A.ch A.tn).length) (ho : ¬ overY A) (hQ : ∀ M', MN M' r (runH A p j) → FrN r M M' → Q vU T M' sz) : Ct g (d + 2) mX7_runsHeld [vR (r), vI (((p : Nat) : Int)), vI (((j : Nat) : Int))] T M sz 0 0 Q := by
  refine Ct_of2 (ls := [vR (r), vI (((p : Nat) : Int)), vI (((j : Nat) : Int)), vU]) okX7_runsHeld rfl (Nat.le_of_ble_eq_true rfl) rfl ?_
  intro x hx hr hnm
  have ht := hW.tn2
  have hm := hW.called hp hc
  have hL9 := hW.at (c := A.tn) (k := j) ht (by omega)
  have hR9 := hW.at (c := A.tn) (k := j + 1) ht hj
  have hn8 := hW.n8
  have hl8 := hW.len8 ht
  have hl2 := hW.len2
  have hs6 := hW.s6
  have hs4 := hW.s4
  have hs5 := hW.s5
  have ht5 := hW.tni
  have hco : A.co p = 1 - A.tn := by have := A.co2 p; omega
  have hpl : plcY A p < (A.ch (1 - A.tn)).length := by have := plcY_lt hW hp; rw [hco] at this; exact this
  have epl : (A.ch (1 - A.tn)).eraseIdx (plcY A p) = lv_ (A.ch (1 - A.tn)) p := by unfold plcY; rw [hco]; exact erI_lv (hW.nd (by omega)) hm
  have hlv := lv_len1 (hW.nd (show 1 - A.tn < 2 by omega)) hm
  have hl9 := hW.len8 (show 1 - A.tn < 2 by omega)
  have hnv := not_over2 hW ho
  have e0 : (((tirB A ((A.ch A.tn).getD j 0) ((A.ch A.tn).getD (j + 1) 0)).setC (1 - A.tn) ((A.ch (1 - A.tn)).eraseIdx (plcY A p)))).ch A.tn = A.ch A.tn := by rw [YA.ch_ne _ _ (by omega)]; rfl
  refine J_aload_n hx dX7_runsHeld_0 (i := 0) rfl rfl ?_
  refine J_iload_n hx dX7_runsHeld_1 (i := 2) rfl rfl ?_
  refine J_invVv (As := [vI (((j : Nat) : Int))]) (st := []) hx lk_X7_289 okX7_tires dX7_runsHeld_2 hT.o (by decide) rfl rfl rfl (Nat.le_of_ble_eq_true rfl) (Nat.zero_add _).symm (Nat.zero_add _).symm rfl (c_X7_tires hT hN hW (j := j) hj ?_)
  intro M1 hN1 hf1
  have hN1 : MN M1 r (tirB A ((A.ch A.tn).getD j 0) ((A.ch A.tn).getD (j + 1) 0)) := hN1
  have hF1 := (FrN.rf (r := r) (M := M)).tr hf1
  have hW1 : WFY (tirB A ((A.ch A.tn).getD j 0) ((A.ch A.tn).getD (j + 1) 0)) := tirB_wf hW hL9 hR9
  refine J_aload_n hx dX7_runsHeld_5 (i := 0) rfl rfl ?_
  refine J_iconst (v := 1) hx dX7_runsHeld_6 (by decide) ?_
  refine J_aload_n hx dX7_runsHeld_7 (i := 0) rfl rfl ?_
  refine J_getI2 (v := ((A.tn : Nat) : Int)) hx fl_X7_148 cl_X7 dX7_runsHeld_8 hT.o (by decide) rfl (hN1.s5.trans hW.tni) ?_
  refine J_isub (v := ((1 - A.tn : Nat) : Int)) hx dX7_runsHeld_11 (by rw [w32_id (by omega) (by omega)]; omega) ?_
  refine J_aload_n hx dX7_runsHeld_12 (i := 0) rfl rfl ?_
  refine J_iload_n hx dX7_runsHeld_13 (i := 1) rfl rfl ?_
  refine J_invV (As := [vI (((p : Nat) : Int))]) (st := [vI (((1 - A.tn : Nat) : Int)), vR (r)]) hx lk_X7_89 okX7_placeOf dX7_runsHeld_14 hT.o (by decide) rfl rfl rfl (Nat.le_of_ble_eq_true rfl) (Nat.zero_add _).symm (Nat.zero_add _).symm rfl (c_X7_placeOf hT hN1 hW1 (p := p) hp ?_)
  refine J_bipush (v := 10) hx dX7_runsHeld_17 (by decide) ?_
  refine J_irem (v := ((plcY A p : Nat) : Int)) hx dX7_runsHeld_19 (by decide) (by rw [jrem (by omega) (by decide)]; have e9 : (tirB A ((A.ch A.tn).getD j 0) ((A.ch A.tn).getD (j + 1) 0)).co p = A.co p := rfl; have e8 : plcY (tirB A ((A.ch A.tn).getD j 0) ((A.ch A.tn).getD (j + 1) 0)) p = plcY A p := rfl; rw [e9, e8]; omega) ?_
  refine J_invVv (As := [vI (((1 - A.tn : Nat) : Int)), vI (((plcY A p : Nat) : Int))]) (st := []) hx lk_X7_293 okX7_goesOut dX7_runsHeld_20 hT.o (by decide) rfl rfl rfl (Nat.le_of_ble_eq_true rfl) (Nat.zero_add _).symm (Nat.zero_add _).symm rfl (c_X7_goesOut hT hN1 (c := 1 - A.tn) (k := plcY A p) (by omega) hpl (hW.len8 (show 1 - A.tn < 2 by omega)) ?_)
  intro M2 hN2 hf2
  have hN2 : MN M2 r ((tirB A ((A.ch A.tn).getD j 0) ((A.ch A.tn).getD (j + 1) 0)).setC (1 - A.tn) ((A.ch (1 - A.tn)).eraseIdx (plcY A p))) := hN2
  have hF2 := hF1.tr hf2
  refine J_aload_n hx dX7_runsHeld_23 (i := 0) rfl rfl ?_
  refine J_getR (b := r + 25) hx fl_X7_57 cl_X7 dX7_runsHeld_24 hT.o (by decide) rfl hT.r16 ?_
  refine J_aload_n hx dX7_runsHeld_27 (i := 0) rfl rfl ?_
  refine J_getI2 (v := ((A.tn : Nat) : Int)) hx fl_X7_148 cl_X7 dX7_runsHeld_28 hT.o (by decide) rfl (hN2.s5.trans hW.tni) ?_
  refine J_iald2 (v := (((A.ch A.tn).length : Nat) : Int)) hx A.tn dX7_runsHeld_31 hT.k25 (by omega) (hT.l25 (by omega)) (by rw [hN2.sz (by omega), e0]) ?_
  refine J_istore_n (lsn := [vR (r), vI (((p : Nat) : Int)), vI (((j : Nat) : Int)), vI ((((A.ch A.tn).length : Nat) : Int))]) hx dX7_runsHeld_32 (i := 3) rfl (Nat.le_of_ble_eq_true rfl) rfl rfl ?_
  refine lp_X7_runsHeld hT hN2 hx hr (t := A.tn) (p := p) (j := j) ht (hN2.s5.trans hW.tni) hs5 ⟨hs6.1, by show A.sc 6 ≤ 99; omega⟩ (by rw [e0]; omega) (by rw [e0]; omega) (fun M9 h9 f9 => hQ M9 ?_ (hF2.tr f9)) (A.ch A.tn).length M2 (by omega) (by rw [e0]; omega) (fun k1 => by rw [if_neg (by rw [e0]; omega)]) (fun _ _ => rfl)
  have e9 : runH A p j = ((((tirB A ((A.ch A.tn).getD j 0) ((A.ch A.tn).getD (j + 1) 0)).setC (1 - A.tn) ((A.ch (1 - A.tn)).eraseIdx (plcY A p))).setC A.tn (insAt (((tirB A ((A.ch A.tn).getD j 0) ((A.ch A.tn).getD (j + 1) 0)).setC (1 - A.tn) ((A.ch (1 - A.tn)).eraseIdx (plcY A p))).ch A.tn) (j + 1) p)).setS 5 (1 - ((tirB A ((A.ch A.tn).getD j 0) ((A.ch A.tn).getD (j + 1) 0)).setC (1 - A.tn) ((A.ch (1 - A.tn)).eraseIdx (plcY A p))).sc 5)).setS 6 (((tirB A ((A.ch A.tn).getD j 0) ((A.ch A.tn).getD (j + 1) 0)).setC (1 - A.tn) ((A.ch (1 - A.tn)).eraseIdx (plcY A p))).sc 6 + 1) := by
    rw [epl]; show YA.setS (YA.setS _ 5 (1 - ((A.tn : Nat) : Int))) 6 _ = YA.setS (YA.setS _ 5 (1 - A.sc 5)) 6 _; rw [← ht5]; rfl
  rw [e9]; exact h9

set_option maxHeartbeats 4000000 in
theorem c_X7_runsTorn {g : WG} {d : Nat} {T : TT} {M : MM} {r sz : Nat} {A : YA} {Q : MVal → TT → MM → Nat → Prop} (hT : MT T r) (hN : MN M r A) (hW : WFY A) {p j sd : Nat} (hp : p < A.n) (hc : A.co p ≠ A.tn) (hj : j + 1 < (A.ch A.tn).length) (ho : ¬ overY A) (hsd : sd < 2) (hQ : ∀ M', MN M' r (runT A p j (takenY A j sd)) → FrN r M M' → Q vU T M' sz) : Ct g (d + 2) mX7_runsTorn [vR (r), vI (((p : Nat) : Int)), vI (((j : Nat) : Int)), vI (((sd : Nat) : Int))] T M sz 0 0 Q := by
  refine Ct_of2 (ls := [vR (r), vI (((p : Nat) : Int)), vI (((j : Nat) : Int)), vI (((sd : Nat) : Int)), vU, vU]) okX7_runsTorn rfl (Nat.le_of_ble_eq_true rfl) rfl ?_
  intro x hx hr hnm
  have ht := hW.tn2
  have hm := hW.called hp hc
  have hL9 := hW.at (c := A.tn) (k := j) ht (by omega)
  have hR9 := hW.at (c := A.tn) (k := j + 1) ht hj
  have hn8 := hW.n8
  have hl8 := hW.len8 ht
  have hl2 := hW.len2
  have hs6 := hW.s6
  have hs4 := hW.s4
  have hs5 := hW.s5
  have ht5 := hW.tni
  have hco : A.co p = 1 - A.tn := by have := A.co2 p; omega
  have hpl : plcY A p < (A.ch (1 - A.tn)).length := by have := plcY_lt hW hp; rw [hco] at this; exact this
  have epl : (A.ch (1 - A.tn)).eraseIdx (plcY A p) = lv_ (A.ch (1 - A.tn)) p := by unfold plcY; rw [hco]; exact erI_lv (hW.nd (by omega)) hm
  have hlv := lv_len1 (hW.nd (show 1 - A.tn < 2 by omega)) hm
  have hl9 := hW.len8 (show 1 - A.tn < 2 by omega)
  have hnv := not_over2 hW ho
  have e1 : (((tirB A ((A.ch A.tn).getD j 0) ((A.ch A.tn).getD (j + 1) 0)).setC (1 - A.tn) ((A.ch (1 - A.tn)).eraseIdx (plcY A p))).setC (1 - A.tn) (insAt (((tirB A ((A.ch A.tn).getD j 0) ((A.ch A.tn).getD (j + 1) 0)).setC (1 - A.tn) ((A.ch (1 - A.tn)).eraseIdx (plcY A p))).ch (1 - A.tn)) (((tirB A ((A.ch A.tn).getD j 0) ((A.ch A.tn).getD (j + 1) 0)).setC (1 - A.tn) ((A.ch (1 - A.tn)).eraseIdx (plcY A p))).ch (1 - A.tn)).length p)).ch A.tn = A.ch A.tn := by rw [YA.ch_ne _ _ (by omega), YA.ch_ne _ _ (by omega)]; rfl
  have etk : ((((tirB A ((A.ch A.tn).getD j 0) ((A.ch A.tn).getD (j + 1) 0)).setC (1 - A.tn) ((A.ch (1 - A.tn)).eraseIdx (plcY A p))).setC (1 - A.tn) (insAt (((tirB A ((A.ch A.tn).getD j 0) ((A.ch A.tn).getD (j + 1) 0)).setC (1 - A.tn) ((A.ch (1 - A.tn)).eraseIdx (plcY A p))).ch (1 - A.tn)) (((tirB A ((A.ch A.tn).getD j 0) ((A.ch A.tn).getD (j + 1) 0)).setC (1 - A.tn) ((A.ch (1 - A.tn)).eraseIdx (plcY A p))).ch (1 - A.tn)).length p)).ch A.tn).getD (j + sd) 0 = takenY A j sd := by rw [e1]; rfl
  have e0 : (((tirB A ((A.ch A.tn).getD j 0) ((A.ch A.tn).getD (j + 1) 0)).setC (1 - A.tn) ((A.ch (1 - A.tn)).eraseIdx (plcY A p)))).ch (1 - A.tn) = lv_ (A.ch (1 - A.tn)) p := by rw [YA.ch_same]; exact epl
  have e2 : ((((tirB A ((A.ch A.tn).getD j 0) ((A.ch A.tn).getD (j + 1) 0)).setC (1 - A.tn) ((A.ch (1 - A.tn)).eraseIdx (plcY A p))).setC (1 - A.tn) (insAt (((tirB A ((A.ch A.tn).getD j 0) ((A.ch A.tn).getD (j + 1) 0)).setC (1 - A.tn) ((A.ch (1 - A.tn)).eraseIdx (plcY A p))).ch (1 - A.tn)) (((tirB A ((A.ch A.tn).getD j 0) ((A.ch A.tn).getD (j + 1) 0)).setC (1 - A.tn) ((A.ch (1 - A.tn)).eraseIdx (plcY A p))).ch (1 - A.tn)).length p)).ch (1 - A.tn)).length = (lv_ (A.ch (1 - A.tn)) p).length + 1 := by rw [YA.ch_same, insAt_len (Nat.le_refl _), e0]
  have e0l : ((((tirB A ((A.ch A.tn).getD j 0) ((A.ch A.tn).getD (j + 1) 0)).setC (1 - A.tn) ((A.ch (1 - A.tn)).eraseIdx (plcY A p)))).ch (1 - A.tn)).length = (lv_ (A.ch (1 - A.tn)) p).length := by rw [e0]
  have e1l : ((((tirB A ((A.ch A.tn).getD j 0) ((A.ch A.tn).getD (j + 1) 0)).setC (1 - A.tn) ((A.ch (1 - A.tn)).eraseIdx (plcY A p))).setC (1 - A.tn) (insAt (((tirB A ((A.ch A.tn).getD j 0) ((A.ch A.tn).getD (j + 1) 0)).setC (1 - A.tn) ((A.ch (1 - A.tn)).eraseIdx (plcY A p))).ch (1 - A.tn)) (((tirB A ((A.ch A.tn).getD j 0) ((A.ch A.tn).getD (j + 1) 0)).setC (1 - A.tn) ((A.ch (1 - A.tn)).eraseIdx (plcY A p))).ch (1 - A.tn)).length p)).ch A.tn).length = (A.ch A.tn).length := by rw [e1]
  have e3l : (((((tirB A ((A.ch A.tn).getD j 0) ((A.ch A.tn).getD (j + 1) 0)).setC (1 - A.tn) ((A.ch (1 - A.tn)).eraseIdx (plcY A p))).setC (1 - A.tn) (insAt (((tirB A ((A.ch A.tn).getD j 0) ((A.ch A.tn).getD (j + 1) 0)).setC (1 - A.tn) ((A.ch (1 - A.tn)).eraseIdx (plcY A p))).ch (1 - A.tn)) (((tirB A ((A.ch A.tn).getD j 0) ((A.ch A.tn).getD (j + 1) 0)).setC (1 - A.tn) ((A.ch (1 - A.tn)).eraseIdx (plcY A p))).ch (1 - A.tn)).length p)).setC A.tn (((((tirB A ((A.ch A.tn).getD j 0) ((A.ch A.tn).getD (j + 1) 0)).setC (1 - A.tn) ((A.ch (1 - A.tn)).eraseIdx (plcY A p))).setC (1 - A.tn) (insAt (((tirB A ((A.ch A.tn).getD j 0) ((A.ch A.tn).getD (j + 1) 0)).setC (1 - A.tn) ((A.ch (1 - A.tn)).eraseIdx (plcY A p))).ch (1 - A.tn)) (((tirB A ((A.ch A.tn).getD j 0) ((A.ch A.tn).getD (j + 1) 0)).setC (1 - A.tn) ((A.ch (1 - A.tn)).eraseIdx (plcY A p))).ch (1 - A.tn)).length p)).ch A.tn).eraseIdx (j + sd))).ch (1 - A.tn)).length = (lv_ (A.ch (1 - A.tn)) p).length + 1 := by rw [YA.ch_ne _ _ (by omega)]; exact e2
  refine J_aload_n hx dX7_runsTorn_0 (i := 0) rfl rfl ?_
  refine J_iload_n hx dX7_runsTorn_1 (i := 2) rfl rfl ?_
  refine J_invVv (As := [vI (((j : Nat) : Int))]) (st := []) hx lk_X7_289 okX7_tires dX7_runsTorn_2 hT.o (by decide) rfl rfl rfl (Nat.le_of_ble_eq_true rfl) (Nat.zero_add _).symm (Nat.zero_add _).symm rfl (c_X7_tires hT hN hW (j := j) hj ?_)
  intro M1 hN1 hf1
  have hN1 : MN M1 r (tirB A ((A.ch A.tn).getD j 0) ((A.ch A.tn).getD (j + 1) 0)) := hN1
  have hF1 := (FrN.rf (r := r) (M := M)).tr hf1
  have hW1 : WFY (tirB A ((A.ch A.tn).getD j 0) ((A.ch A.tn).getD (j + 1) 0)) := tirB_wf hW hL9 hR9
  refine J_iconst (v := 1) hx dX7_runsTorn_5 (by decide) ?_
  refine J_aload_n hx dX7_runsTorn_6 (i := 0) rfl rfl ?_
  refine J_getI2 (v := ((A.tn : Nat) : Int)) hx fl_X7_148 cl_X7 dX7_runsTorn_7 hT.o (by decide) rfl (hN1.s5.trans hW.tni) ?_
  refine J_isub (v := ((1 - A.tn : Nat) : Int)) hx dX7_runsTorn_10 (by rw [w32_id (by omega) (by omega)]; omega) ?_
  refine J_istore (lsn := [vR (r), vI (((p : Nat) : Int)), vI (((j : Nat) : Int)), vI (((sd : Nat) : Int)), vI (((1 - A.tn : Nat) : Int)), vU]) hx dX7_runsTorn_11 (Nat.le_of_ble_eq_true rfl) rfl rfl ?_
  refine J_aload_n hx dX7_runsTorn_13 (i := 0) rfl rfl ?_
  refine J_iload hx dX7_runsTorn_14 rfl ?_
  refine J_aload_n hx dX7_runsTorn_16 (i := 0) rfl rfl ?_
  refine J_iload_n hx dX7_runsTorn_17 (i := 1) rfl rfl ?_
  refine J_invV (As := [vI (((p : Nat) : Int))]) (st := [vI (((1 - A.tn : Nat) : Int)), vR (r)]) hx lk_X7_89 okX7_placeOf dX7_runsTorn_18 hT.o (by decide) rfl rfl rfl (Nat.le_of_ble_eq_true rfl) (Nat.zero_add _).symm (Nat.zero_add _).symm rfl (c_X7_placeOf hT hN1 hW1 (p := p) hp ?_)
  refine J_bipush (v := 10) hx dX7_runsTorn_21 (by decide) ?_
  refine J_irem (v := ((plcY A p : Nat) : Int)) hx dX7_runsTorn_23 (by decide) (by rw [jrem (by omega) (by decide)]; have e9 : (tirB A ((A.ch A.tn).getD j 0) ((A.ch A.tn).getD (j + 1) 0)).co p = A.co p := rfl; have e8 : plcY (tirB A ((A.ch A.tn).getD j 0) ((A.ch A.tn).getD (j + 1) 0)) p = plcY A p := rfl; rw [e9, e8]; omega) ?_
  refine J_invVv (As := [vI (((1 - A.tn : Nat) : Int)), vI (((plcY A p : Nat) : Int))]) (st := []) hx lk_X7_293 okX7_goesOut dX7_runsTorn_24 hT.o (by decide) rfl rfl rfl (Nat.le_of_ble_eq_true rfl) (Nat.zero_add _).symm (Nat.zero_add _).symm rfl (c_X7_goesOut hT hN1 (c := 1 - A.tn) (k := plcY A p) (by omega) hpl (hW.len8 (show 1 - A.tn < 2 by omega)) ?_)
  intro M2 hN2 hf2
  have hN2 : MN M2 r ((tirB A ((A.ch A.tn).getD j 0) ((A.ch A.tn).getD (j + 1) 0)).setC (1 - A.tn) ((A.ch (1 - A.tn)).eraseIdx (plcY A p))) := hN2
  have hF2 := hF1.tr hf2
  refine J_aload_n hx dX7_runsTorn_27 (i := 0) rfl rfl ?_
  refine J_getR (b := r + 22) hx fl_X7_54 cl_X7 dX7_runsTorn_28 hT.o (by decide) rfl hT.r15 ?_
  refine J_iload hx dX7_runsTorn_31 rfl ?_
  refine J_aald (b := r + 23 + (1 - A.tn)) hx (1 - A.tn) dX7_runsTorn_33 hT.k22 (by decide) (by omega) (hT.l22 (by omega)) (hT.f22 (by omega)) ?_
  refine J_aload_n hx dX7_runsTorn_34 (i := 0) rfl rfl ?_
  refine J_getR (b := r + 25) hx fl_X7_57 cl_X7 dX7_runsTorn_35 hT.o (by decide) rfl hT.r16 ?_
  refine J_iload hx dX7_runsTorn_38 rfl ?_
  refine J_dup2 hx dX7_runsTorn_40 rfl rfl ?_
  refine J_iald2 (v := (((((tirB A ((A.ch A.tn).getD j 0) ((A.ch A.tn).getD (j + 1) 0)).setC (1 - A.tn) ((A.ch (1 - A.tn)).eraseIdx (plcY A p))).ch (1 - A.tn)).length : Nat) : Int)) hx (1 - A.tn) dX7_runsTorn_41 hT.k25 (by omega) (hT.l25 (by omega)) (hN2.sz (by omega)) ?_
  refine J_dup_x2 hx dX7_runsTorn_42 rfl rfl rfl ?_
  refine J_iconst (v := 1) hx dX7_runsTorn_43 (by decide) ?_
  refine J_iadd (v := (((((tirB A ((A.ch A.tn).getD j 0) ((A.ch A.tn).getD (j + 1) 0)).setC (1 - A.tn) ((A.ch (1 - A.tn)).eraseIdx (plcY A p))).ch (1 - A.tn)).length : Nat) : Int) + 1) hx dX7_runsTorn_44 (w32_id (by omega) (by omega)) ?_
  refine J_iast hx (1 - A.tn) dX7_runsTorn_45 hT.k25 (by omega) (hT.l25 (by omega)) ?_
  refine J_iload_n hx dX7_runsTorn_46 (i := 1) rfl rfl ?_
  refine J_iast hx ((((tirB A ((A.ch A.tn).getD j 0) ((A.ch A.tn).getD (j + 1) 0)).setC (1 - A.tn) ((A.ch (1 - A.tn)).eraseIdx (plcY A p))).ch (1 - A.tn)).length) dX7_runsTorn_47 (hT.kl (by omega)) (by omega) (hT.ll (by omega) (by omega)) ?_
  have hN3 : MN (up2 (up2 M2 (r + 25) (1 - A.tn) ((((((tirB A ((A.ch A.tn).getD j 0) ((A.ch A.tn).getD (j + 1) 0)).setC (1 - A.tn) ((A.ch (1 - A.tn)).eraseIdx (plcY A p))).ch (1 - A.tn)).length : Nat) : Int) + 1)) (r + 23 + (1 - A.tn)) ((((tirB A ((A.ch A.tn).getD j 0) ((A.ch A.tn).getD (j + 1) 0)).setC (1 - A.tn) ((A.ch (1 - A.tn)).eraseIdx (plcY A p))).ch (1 - A.tn)).length) ((p : Nat) : Int)) r (((tirB A ((A.ch A.tn).getD j 0) ((A.ch A.tn).getD (j + 1) 0)).setC (1 - A.tn) ((A.ch (1 - A.tn)).eraseIdx (plcY A p))).setC (1 - A.tn) (insAt (((tirB A ((A.ch A.tn).getD j 0) ((A.ch A.tn).getD (j + 1) 0)).setC (1 - A.tn) ((A.ch (1 - A.tn)).eraseIdx (plcY A p))).ch (1 - A.tn)) (((tirB A ((A.ch A.tn).getD j 0) ((A.ch A.tn).getD (j + 1) 0)).setC (1 - A.tn) ((A.ch (1 - A.tn)).eraseIdx (plcY A p))).ch (1 - A.tn)).length p)) := hN2.push (by omega)
  have hF3 : FrN r M (up2 (up2 M2 (r + 25) (1 - A.tn) ((((((tirB A ((A.ch A.tn).getD j 0) ((A.ch A.tn).getD (j + 1) 0)).setC (1 - A.tn) ((A.ch (1 - A.tn)).eraseIdx (plcY A p))).ch (1 - A.tn)).length : Nat) : Int) + 1)) (r + 23 + (1 - A.tn)) ((((tirB A ((A.ch A.tn).getD j 0) ((A.ch A.tn).getD (j + 1) 0)).setC (1 - A.tn) ((A.ch (1 - A.tn)).eraseIdx (plcY A p))).ch (1 - A.tn)).length) ((p : Nat) : Int)) := (hF2.up (Or.inl (by omega)) _).up (Or.inl (by omega)) _
  generalize eM3 : up2 (up2 M2 (r + 25) (1 - A.tn) ((((((tirB A ((A.ch A.tn).getD j 0) ((A.ch A.tn).getD (j + 1) 0)).setC (1 - A.tn) ((A.ch (1 - A.tn)).eraseIdx (plcY A p))).ch (1 - A.tn)).length : Nat) : Int) + 1)) (r + 23 + (1 - A.tn)) ((((tirB A ((A.ch A.tn).getD j 0) ((A.ch A.tn).getD (j + 1) 0)).setC (1 - A.tn) ((A.ch (1 - A.tn)).eraseIdx (plcY A p))).ch (1 - A.tn)).length) ((p : Nat) : Int) = M3 at hN3 hF3 ⊢
  refine J_aload_n hx dX7_runsTorn_48 (i := 0) rfl rfl ?_
  refine J_getR (b := r + 22) hx fl_X7_54 cl_X7 dX7_runsTorn_49 hT.o (by decide) rfl hT.r15 ?_
  refine J_aload_n hx dX7_runsTorn_52 (i := 0) rfl rfl ?_
  refine J_getI2 (v := ((A.tn : Nat) : Int)) hx fl_X7_148 cl_X7 dX7_runsTorn_53 hT.o (by decide) rfl (hN3.s5.trans hW.tni) ?_
  refine J_aald (b := r + 23 + A.tn) hx A.tn dX7_runsTorn_56 hT.k22 (by decide) (by omega) (hT.l22 (by omega)) (hT.f22 (by omega)) ?_
  refine J_iload_n hx dX7_runsTorn_57 (i := 2) rfl rfl ?_
  refine J_iload_n hx dX7_runsTorn_58 (i := 3) rfl rfl ?_
  refine J_iadd (v := ((j : Nat) : Int) + ((sd : Nat) : Int)) hx dX7_runsTorn_59 (w32_id (by omega) (by omega)) ?_
  refine J_iald2 (v := ((((((tirB A ((A.ch A.tn).getD j 0) ((A.ch A.tn).getD (j + 1) 0)).setC (1 - A.tn) ((A.ch (1 - A.tn)).eraseIdx (plcY A p))).setC (1 - A.tn) (insAt (((tirB A ((A.ch A.tn).getD j 0) ((A.ch A.tn).getD (j + 1) 0)).setC (1 - A.tn) ((A.ch (1 - A.tn)).eraseIdx (plcY A p))).ch (1 - A.tn)) (((tirB A ((A.ch A.tn).getD j 0) ((A.ch A.tn).getD (j + 1) 0)).setC (1 - A.tn) ((A.ch (1 - A.tn)).eraseIdx (plcY A p))).ch (1 - A.tn)).length p)).ch A.tn).getD (j + sd) 0 : Nat) : Int)) hx (j + sd) dX7_runsTorn_60 (hT.kl (by omega)) (by omega) (hT.ll (by omega) (by omega)) (hN3.ln (by omega) (by omega)) ?_
  refine J_istore (lsn := [vR (r), vI (((p : Nat) : Int)), vI (((j : Nat) : Int)), vI (((sd : Nat) : Int)), vI (((1 - A.tn : Nat) : Int)), vI (((((((tirB A ((A.ch A.tn).getD j 0) ((A.ch A.tn).getD (j + 1) 0)).setC (1 - A.tn) ((A.ch (1 - A.tn)).eraseIdx (plcY A p))).setC (1 - A.tn) (insAt (((tirB A ((A.ch A.tn).getD j 0) ((A.ch A.tn).getD (j + 1) 0)).setC (1 - A.tn) ((A.ch (1 - A.tn)).eraseIdx (plcY A p))).ch (1 - A.tn)) (((tirB A ((A.ch A.tn).getD j 0) ((A.ch A.tn).getD (j + 1) 0)).setC (1 - A.tn) ((A.ch (1 - A.tn)).eraseIdx (plcY A p))).ch (1 - A.tn)).length p)).ch A.tn).getD (j + sd) 0 : Nat) : Int))]) hx dX7_runsTorn_61 (Nat.le_of_ble_eq_true rfl) rfl rfl ?_
  refine J_aload_n hx dX7_runsTorn_63 (i := 0) rfl rfl ?_
  refine J_aload_n hx dX7_runsTorn_64 (i := 0) rfl rfl ?_
  refine J_getI2 (v := ((A.tn : Nat) : Int)) hx fl_X7_148 cl_X7 dX7_runsTorn_65 hT.o (by decide) rfl (hN3.s5.trans hW.tni) ?_
  refine J_iload_n hx dX7_runsTorn_68 (i := 2) rfl rfl ?_
  refine J_iload_n hx dX7_runsTorn_69 (i := 3) rfl rfl ?_
  refine J_iadd (v := ((j : Nat) : Int) + ((sd : Nat) : Int)) hx dX7_runsTorn_70 (w32_id (by omega) (by omega)) ?_
  refine J_invVv (As := [vI (((A.tn : Nat) : Int)), vI (((j : Nat) : Int) + ((sd : Nat) : Int))]) (st := []) hx lk_X7_293 okX7_goesOut dX7_runsTorn_71 hT.o (by decide) rfl rfl rfl (Nat.le_of_ble_eq_true rfl) (Nat.zero_add _).symm (Nat.zero_add _).symm rfl (c_X7_goesOut hT hN3 (c := A.tn) (k := j + sd) ht (show j + sd < ((((tirB A ((A.ch A.tn).getD j 0) ((A.ch A.tn).getD (j + 1) 0)).setC (1 - A.tn) ((A.ch (1 - A.tn)).eraseIdx (plcY A p))).setC (1 - A.tn) (insAt (((tirB A ((A.ch A.tn).getD j 0) ((A.ch A.tn).getD (j + 1) 0)).setC (1 - A.tn) ((A.ch (1 - A.tn)).eraseIdx (plcY A p))).ch (1 - A.tn)) (((tirB A ((A.ch A.tn).getD j 0) ((A.ch A.tn).getD (j + 1) 0)).setC (1 - A.tn) ((A.ch (1 - A.tn)).eraseIdx (plcY A p))).ch (1 - A.tn)).length p)).ch A.tn).length by rw [e1]; omega) (by rw [e1]; omega) ?_)
  intro M4 hN4 hf4
  have hN4 : MN M4 r ((((tirB A ((A.ch A.tn).getD j 0) ((A.ch A.tn).getD (j + 1) 0)).setC (1 - A.tn) ((A.ch (1 - A.tn)).eraseIdx (plcY A p))).setC (1 - A.tn) (insAt (((tirB A ((A.ch A.tn).getD j 0) ((A.ch A.tn).getD (j + 1) 0)).setC (1 - A.tn) ((A.ch (1 - A.tn)).eraseIdx (plcY A p))).ch (1 - A.tn)) (((tirB A ((A.ch A.tn).getD j 0) ((A.ch A.tn).getD (j + 1) 0)).setC (1 - A.tn) ((A.ch (1 - A.tn)).eraseIdx (plcY A p))).ch (1 - A.tn)).length p)).setC A.tn (((((tirB A ((A.ch A.tn).getD j 0) ((A.ch A.tn).getD (j + 1) 0)).setC (1 - A.tn) ((A.ch (1 - A.tn)).eraseIdx (plcY A p))).setC (1 - A.tn) (insAt (((tirB A ((A.ch A.tn).getD j 0) ((A.ch A.tn).getD (j + 1) 0)).setC (1 - A.tn) ((A.ch (1 - A.tn)).eraseIdx (plcY A p))).ch (1 - A.tn)) (((tirB A ((A.ch A.tn).getD j 0) ((A.ch A.tn).getD (j + 1) 0)).setC (1 - A.tn) ((A.ch (1 - A.tn)).eraseIdx (plcY A p))).ch (1 - A.tn)).length p)).ch A.tn).eraseIdx (j + sd))) := hN4
  have hF4 := hF3.tr hf4
  refine J_aload_n hx dX7_runsTorn_74 (i := 0) rfl rfl ?_
  refine J_getR (b := r + 22) hx fl_X7_54 cl_X7 dX7_runsTorn_75 hT.o (by decide) rfl hT.r15 ?_
  refine J_iload hx dX7_runsTorn_78 rfl ?_
  refine J_aald (b := r + 23 + (1 - A.tn)) hx (1 - A.tn) dX7_runsTorn_80 hT.k22 (by decide) (by omega) (hT.l22 (by omega)) (hT.f22 (by omega)) ?_
  refine J_aload_n hx dX7_runsTorn_81 (i := 0) rfl rfl ?_
  refine J_getR (b := r + 25) hx fl_X7_57 cl_X7 dX7_runsTorn_82 hT.o (by decide) rfl hT.r16 ?_
  refine J_iload hx dX7_runsTorn_85 rfl ?_
  refine J_dup2 hx dX7_runsTorn_87 rfl rfl ?_
  refine J_iald2 (v := (((((((tirB A ((A.ch A.tn).getD j 0) ((A.ch A.tn).getD (j + 1) 0)).setC (1 - A.tn) ((A.ch (1 - A.tn)).eraseIdx (plcY A p))).setC (1 - A.tn) (insAt (((tirB A ((A.ch A.tn).getD j 0) ((A.ch A.tn).getD (j + 1) 0)).setC (1 - A.tn) ((A.ch (1 - A.tn)).eraseIdx (plcY A p))).ch (1 - A.tn)) (((tirB A ((A.ch A.tn).getD j 0) ((A.ch A.tn).getD (j + 1) 0)).setC (1 - A.tn) ((A.ch (1 - A.tn)).eraseIdx (plcY A p))).ch (1 - A.tn)).length p)).setC A.tn (((((tirB A ((A.ch A.tn).getD j 0) ((A.ch A.tn).getD (j + 1) 0)).setC (1 - A.tn) ((A.ch (1 - A.tn)).eraseIdx (plcY A p))).setC (1 - A.tn) (insAt (((tirB A ((A.ch A.tn).getD j 0) ((A.ch A.tn).getD (j + 1) 0)).setC (1 - A.tn) ((A.ch (1 - A.tn)).eraseIdx (plcY A p))).ch (1 - A.tn)) (((tirB A ((A.ch A.tn).getD j 0) ((A.ch A.tn).getD (j + 1) 0)).setC (1 - A.tn) ((A.ch (1 - A.tn)).eraseIdx (plcY A p))).ch (1 - A.tn)).length p)).ch A.tn).eraseIdx (j + sd))).ch (1 - A.tn)).length : Nat) : Int)) hx (1 - A.tn) dX7_runsTorn_88 hT.k25 (by omega) (hT.l25 (by omega)) (hN4.sz (by omega)) ?_
  refine J_dup_x2 hx dX7_runsTorn_89 rfl rfl rfl ?_
  refine J_iconst (v := 1) hx dX7_runsTorn_90 (by decide) ?_
  refine J_iadd (v := (((((((tirB A ((A.ch A.tn).getD j 0) ((A.ch A.tn).getD (j + 1) 0)).setC (1 - A.tn) ((A.ch (1 - A.tn)).eraseIdx (plcY A p))).setC (1 - A.tn) (insAt (((tirB A ((A.ch A.tn).getD j 0) ((A.ch A.tn).getD (j + 1) 0)).setC (1 - A.tn) ((A.ch (1 - A.tn)).eraseIdx (plcY A p))).ch (1 - A.tn)) (((tirB A ((A.ch A.tn).getD j 0) ((A.ch A.tn).getD (j + 1) 0)).setC (1 - A.tn) ((A.ch (1 - A.tn)).eraseIdx (plcY A p))).ch (1 - A.tn)).length p)).setC A.tn (((((tirB A ((A.ch A.tn).getD j 0) ((A.ch A.tn).getD (j + 1) 0)).setC (1 - A.tn) ((A.ch (1 - A.tn)).eraseIdx (plcY A p))).setC (1 - A.tn) (insAt (((tirB A ((A.ch A.tn).getD j 0) ((A.ch A.tn).getD (j + 1) 0)).setC (1 - A.tn) ((A.ch (1 - A.tn)).eraseIdx (plcY A p))).ch (1 - A.tn)) (((tirB A ((A.ch A.tn).getD j 0) ((A.ch A.tn).getD (j + 1) 0)).setC (1 - A.tn) ((A.ch (1 - A.tn)).eraseIdx (plcY A p))).ch (1 - A.tn)).length p)).ch A.tn).eraseIdx (j + sd))).ch (1 - A.tn)).length : Nat) : Int) + 1) hx dX7_runsTorn_91 (w32_id (by omega) (by omega)) ?_
  refine J_iast hx (1 - A.tn) dX7_runsTorn_92 hT.k25 (by omega) (hT.l25 (by omega)) ?_
  refine J_iload hx dX7_runsTorn_93 rfl ?_
  refine J_iast hx ((((((tirB A ((A.ch A.tn).getD j 0) ((A.ch A.tn).getD (j + 1) 0)).setC (1 - A.tn) ((A.ch (1 - A.tn)).eraseIdx (plcY A p))).setC (1 - A.tn) (insAt (((tirB A ((A.ch A.tn).getD j 0) ((A.ch A.tn).getD (j + 1) 0)).setC (1 - A.tn) ((A.ch (1 - A.tn)).eraseIdx (plcY A p))).ch (1 - A.tn)) (((tirB A ((A.ch A.tn).getD j 0) ((A.ch A.tn).getD (j + 1) 0)).setC (1 - A.tn) ((A.ch (1 - A.tn)).eraseIdx (plcY A p))).ch (1 - A.tn)).length p)).setC A.tn (((((tirB A ((A.ch A.tn).getD j 0) ((A.ch A.tn).getD (j + 1) 0)).setC (1 - A.tn) ((A.ch (1 - A.tn)).eraseIdx (plcY A p))).setC (1 - A.tn) (insAt (((tirB A ((A.ch A.tn).getD j 0) ((A.ch A.tn).getD (j + 1) 0)).setC (1 - A.tn) ((A.ch (1 - A.tn)).eraseIdx (plcY A p))).ch (1 - A.tn)) (((tirB A ((A.ch A.tn).getD j 0) ((A.ch A.tn).getD (j + 1) 0)).setC (1 - A.tn) ((A.ch (1 - A.tn)).eraseIdx (plcY A p))).ch (1 - A.tn)).length p)).ch A.tn).eraseIdx (j + sd))).ch (1 - A.tn)).length) dX7_runsTorn_95 (hT.kl (by omega)) (by omega) (hT.ll (by omega) (by omega)) ?_
  have hN5 : MN (up2 (up2 M4 (r + 25) (1 - A.tn) ((((((((tirB A ((A.ch A.tn).getD j 0) ((A.ch A.tn).getD (j + 1) 0)).setC (1 - A.tn) ((A.ch (1 - A.tn)).eraseIdx (plcY A p))).setC (1 - A.tn) (insAt (((tirB A ((A.ch A.tn).getD j 0) ((A.ch A.tn).getD (j + 1) 0)).setC (1 - A.tn) ((A.ch (1 - A.tn)).eraseIdx (plcY A p))).ch (1 - A.tn)) (((tirB A ((A.ch A.tn).getD j 0) ((A.ch A.tn).getD (j + 1) 0)).setC (1 - A.tn) ((A.ch (1 - A.tn)).eraseIdx (plcY A p))).ch (1 - A.tn)).length p)).setC A.tn (((((tirB A ((A.ch A.tn).getD j 0) ((A.ch A.tn).getD (j + 1) 0)).setC (1 - A.tn) ((A.ch (1 - A.tn)).eraseIdx (plcY A p))).setC (1 - A.tn) (insAt (((tirB A ((A.ch A.tn).getD j 0) ((A.ch A.tn).getD (j + 1) 0)).setC (1 - A.tn) ((A.ch (1 - A.tn)).eraseIdx (plcY A p))).ch (1 - A.tn)) (((tirB A ((A.ch A.tn).getD j 0) ((A.ch A.tn).getD (j + 1) 0)).setC (1 - A.tn) ((A.ch (1 - A.tn)).eraseIdx (plcY A p))).ch (1 - A.tn)).length p)).ch A.tn).eraseIdx (j + sd))).ch (1 - A.tn)).length : Nat) : Int) + 1)) (r + 23 + (1 - A.tn)) ((((((tirB A ((A.ch A.tn).getD j 0) ((A.ch A.tn).getD (j + 1) 0)).setC (1 - A.tn) ((A.ch (1 - A.tn)).eraseIdx (plcY A p))).setC (1 - A.tn) (insAt (((tirB A ((A.ch A.tn).getD j 0) ((A.ch A.tn).getD (j + 1) 0)).setC (1 - A.tn) ((A.ch (1 - A.tn)).eraseIdx (plcY A p))).ch (1 - A.tn)) (((tirB A ((A.ch A.tn).getD j 0) ((A.ch A.tn).getD (j + 1) 0)).setC (1 - A.tn) ((A.ch (1 - A.tn)).eraseIdx (plcY A p))).ch (1 - A.tn)).length p)).setC A.tn (((((tirB A ((A.ch A.tn).getD j 0) ((A.ch A.tn).getD (j + 1) 0)).setC (1 - A.tn) ((A.ch (1 - A.tn)).eraseIdx (plcY A p))).setC (1 - A.tn) (insAt (((tirB A ((A.ch A.tn).getD j 0) ((A.ch A.tn).getD (j + 1) 0)).setC (1 - A.tn) ((A.ch (1 - A.tn)).eraseIdx (plcY A p))).ch (1 - A.tn)) (((tirB A ((A.ch A.tn).getD j 0) ((A.ch A.tn).getD (j + 1) 0)).setC (1 - A.tn) ((A.ch (1 - A.tn)).eraseIdx (plcY A p))).ch (1 - A.tn)).length p)).ch A.tn).eraseIdx (j + sd))).ch (1 - A.tn)).length) ((((((tirB A ((A.ch A.tn).getD j 0) ((A.ch A.tn).getD (j + 1) 0)).setC (1 - A.tn) ((A.ch (1 - A.tn)).eraseIdx (plcY A p))).setC (1 - A.tn) (insAt (((tirB A ((A.ch A.tn).getD j 0) ((A.ch A.tn).getD (j + 1) 0)).setC (1 - A.tn) ((A.ch (1 - A.tn)).eraseIdx (plcY A p))).ch (1 - A.tn)) (((tirB A ((A.ch A.tn).getD j 0) ((A.ch A.tn).getD (j + 1) 0)).setC (1 - A.tn) ((A.ch (1 - A.tn)).eraseIdx (plcY A p))).ch (1 - A.tn)).length p)).ch A.tn).getD (j + sd) 0 : Nat) : Int)) r (((((tirB A ((A.ch A.tn).getD j 0) ((A.ch A.tn).getD (j + 1) 0)).setC (1 - A.tn) ((A.ch (1 - A.tn)).eraseIdx (plcY A p))).setC (1 - A.tn) (insAt (((tirB A ((A.ch A.tn).getD j 0) ((A.ch A.tn).getD (j + 1) 0)).setC (1 - A.tn) ((A.ch (1 - A.tn)).eraseIdx (plcY A p))).ch (1 - A.tn)) (((tirB A ((A.ch A.tn).getD j 0) ((A.ch A.tn).getD (j + 1) 0)).setC (1 - A.tn) ((A.ch (1 - A.tn)).eraseIdx (plcY A p))).ch (1 - A.tn)).length p)).setC A.tn (((((tirB A ((A.ch A.tn).getD j 0) ((A.ch A.tn).getD (j + 1) 0)).setC (1 - A.tn) ((A.ch (1 - A.tn)).eraseIdx (plcY A p))).setC (1 - A.tn) (insAt (((tirB A ((A.ch A.tn).getD j 0) ((A.ch A.tn).getD (j + 1) 0)).setC (1 - A.tn) ((A.ch (1 - A.tn)).eraseIdx (plcY A p))).ch (1 - A.tn)) (((tirB A ((A.ch A.tn).getD j 0) ((A.ch A.tn).getD (j + 1) 0)).setC (1 - A.tn) ((A.ch (1 - A.tn)).eraseIdx (plcY A p))).ch (1 - A.tn)).length p)).ch A.tn).eraseIdx (j + sd))).setC (1 - A.tn) (insAt (((((tirB A ((A.ch A.tn).getD j 0) ((A.ch A.tn).getD (j + 1) 0)).setC (1 - A.tn) ((A.ch (1 - A.tn)).eraseIdx (plcY A p))).setC (1 - A.tn) (insAt (((tirB A ((A.ch A.tn).getD j 0) ((A.ch A.tn).getD (j + 1) 0)).setC (1 - A.tn) ((A.ch (1 - A.tn)).eraseIdx (plcY A p))).ch (1 - A.tn)) (((tirB A ((A.ch A.tn).getD j 0) ((A.ch A.tn).getD (j + 1) 0)).setC (1 - A.tn) ((A.ch (1 - A.tn)).eraseIdx (plcY A p))).ch (1 - A.tn)).length p)).setC A.tn (((((tirB A ((A.ch A.tn).getD j 0) ((A.ch A.tn).getD (j + 1) 0)).setC (1 - A.tn) ((A.ch (1 - A.tn)).eraseIdx (plcY A p))).setC (1 - A.tn) (insAt (((tirB A ((A.ch A.tn).getD j 0) ((A.ch A.tn).getD (j + 1) 0)).setC (1 - A.tn) ((A.ch (1 - A.tn)).eraseIdx (plcY A p))).ch (1 - A.tn)) (((tirB A ((A.ch A.tn).getD j 0) ((A.ch A.tn).getD (j + 1) 0)).setC (1 - A.tn) ((A.ch (1 - A.tn)).eraseIdx (plcY A p))).ch (1 - A.tn)).length p)).ch A.tn).eraseIdx (j + sd))).ch (1 - A.tn)) (((((tirB A ((A.ch A.tn).getD j 0) ((A.ch A.tn).getD (j + 1) 0)).setC (1 - A.tn) ((A.ch (1 - A.tn)).eraseIdx (plcY A p))).setC (1 - A.tn) (insAt (((tirB A ((A.ch A.tn).getD j 0) ((A.ch A.tn).getD (j + 1) 0)).setC (1 - A.tn) ((A.ch (1 - A.tn)).eraseIdx (plcY A p))).ch (1 - A.tn)) (((tirB A ((A.ch A.tn).getD j 0) ((A.ch A.tn).getD (j + 1) 0)).setC (1 - A.tn) ((A.ch (1 - A.tn)).eraseIdx (plcY A p))).ch (1 - A.tn)).length p)).setC A.tn (((((tirB A ((A.ch A.tn).getD j 0) ((A.ch A.tn).getD (j + 1) 0)).setC (1 - A.tn) ((A.ch (1 - A.tn)).eraseIdx (plcY A p))).setC (1 - A.tn) (insAt (((tirB A ((A.ch A.tn).getD j 0) ((A.ch A.tn).getD (j + 1) 0)).setC (1 - A.tn) ((A.ch (1 - A.tn)).eraseIdx (plcY A p))).ch (1 - A.tn)) (((tirB A ((A.ch A.tn).getD j 0) ((A.ch A.tn).getD (j + 1) 0)).setC (1 - A.tn) ((A.ch (1 - A.tn)).eraseIdx (plcY A p))).ch (1 - A.tn)).length p)).ch A.tn).eraseIdx (j + sd))).ch (1 - A.tn)).length (((((tirB A ((A.ch A.tn).getD j 0) ((A.ch A.tn).getD (j + 1) 0)).setC (1 - A.tn) ((A.ch (1 - A.tn)).eraseIdx (plcY A p))).setC (1 - A.tn) (insAt (((tirB A ((A.ch A.tn).getD j 0) ((A.ch A.tn).getD (j + 1) 0)).setC (1 - A.tn) ((A.ch (1 - A.tn)).eraseIdx (plcY A p))).ch (1 - A.tn)) (((tirB A ((A.ch A.tn).getD j 0) ((A.ch A.tn).getD (j + 1) 0)).setC (1 - A.tn) ((A.ch (1 - A.tn)).eraseIdx (plcY A p))).ch (1 - A.tn)).length p)).ch A.tn).getD (j + sd) 0))) := hN4.push (by omega)
  have hF5 : FrN r M (up2 (up2 M4 (r + 25) (1 - A.tn) ((((((((tirB A ((A.ch A.tn).getD j 0) ((A.ch A.tn).getD (j + 1) 0)).setC (1 - A.tn) ((A.ch (1 - A.tn)).eraseIdx (plcY A p))).setC (1 - A.tn) (insAt (((tirB A ((A.ch A.tn).getD j 0) ((A.ch A.tn).getD (j + 1) 0)).setC (1 - A.tn) ((A.ch (1 - A.tn)).eraseIdx (plcY A p))).ch (1 - A.tn)) (((tirB A ((A.ch A.tn).getD j 0) ((A.ch A.tn).getD (j + 1) 0)).setC (1 - A.tn) ((A.ch (1 - A.tn)).eraseIdx (plcY A p))).ch (1 - A.tn)).length p)).setC A.tn (((((tirB A ((A.ch A.tn).getD j 0) ((A.ch A.tn).getD (j + 1) 0)).setC (1 - A.tn) ((A.ch (1 - A.tn)).eraseIdx (plcY A p))).setC (1 - A.tn) (insAt (((tirB A ((A.ch A.tn).getD j 0) ((A.ch A.tn).getD (j + 1) 0)).setC (1 - A.tn) ((A.ch (1 - A.tn)).eraseIdx (plcY A p))).ch (1 - A.tn)) (((tirB A ((A.ch A.tn).getD j 0) ((A.ch A.tn).getD (j + 1) 0)).setC (1 - A.tn) ((A.ch (1 - A.tn)).eraseIdx (plcY A p))).ch (1 - A.tn)).length p)).ch A.tn).eraseIdx (j + sd))).ch (1 - A.tn)).length : Nat) : Int) + 1)) (r + 23 + (1 - A.tn)) ((((((tirB A ((A.ch A.tn).getD j 0) ((A.ch A.tn).getD (j + 1) 0)).setC (1 - A.tn) ((A.ch (1 - A.tn)).eraseIdx (plcY A p))).setC (1 - A.tn) (insAt (((tirB A ((A.ch A.tn).getD j 0) ((A.ch A.tn).getD (j + 1) 0)).setC (1 - A.tn) ((A.ch (1 - A.tn)).eraseIdx (plcY A p))).ch (1 - A.tn)) (((tirB A ((A.ch A.tn).getD j 0) ((A.ch A.tn).getD (j + 1) 0)).setC (1 - A.tn) ((A.ch (1 - A.tn)).eraseIdx (plcY A p))).ch (1 - A.tn)).length p)).setC A.tn (((((tirB A ((A.ch A.tn).getD j 0) ((A.ch A.tn).getD (j + 1) 0)).setC (1 - A.tn) ((A.ch (1 - A.tn)).eraseIdx (plcY A p))).setC (1 - A.tn) (insAt (((tirB A ((A.ch A.tn).getD j 0) ((A.ch A.tn).getD (j + 1) 0)).setC (1 - A.tn) ((A.ch (1 - A.tn)).eraseIdx (plcY A p))).ch (1 - A.tn)) (((tirB A ((A.ch A.tn).getD j 0) ((A.ch A.tn).getD (j + 1) 0)).setC (1 - A.tn) ((A.ch (1 - A.tn)).eraseIdx (plcY A p))).ch (1 - A.tn)).length p)).ch A.tn).eraseIdx (j + sd))).ch (1 - A.tn)).length) ((((((tirB A ((A.ch A.tn).getD j 0) ((A.ch A.tn).getD (j + 1) 0)).setC (1 - A.tn) ((A.ch (1 - A.tn)).eraseIdx (plcY A p))).setC (1 - A.tn) (insAt (((tirB A ((A.ch A.tn).getD j 0) ((A.ch A.tn).getD (j + 1) 0)).setC (1 - A.tn) ((A.ch (1 - A.tn)).eraseIdx (plcY A p))).ch (1 - A.tn)) (((tirB A ((A.ch A.tn).getD j 0) ((A.ch A.tn).getD (j + 1) 0)).setC (1 - A.tn) ((A.ch (1 - A.tn)).eraseIdx (plcY A p))).ch (1 - A.tn)).length p)).ch A.tn).getD (j + sd) 0 : Nat) : Int)) := (hF4.up (Or.inl (by omega)) _).up (Or.inl (by omega)) _
  generalize eM5 : up2 (up2 M4 (r + 25) (1 - A.tn) ((((((((tirB A ((A.ch A.tn).getD j 0) ((A.ch A.tn).getD (j + 1) 0)).setC (1 - A.tn) ((A.ch (1 - A.tn)).eraseIdx (plcY A p))).setC (1 - A.tn) (insAt (((tirB A ((A.ch A.tn).getD j 0) ((A.ch A.tn).getD (j + 1) 0)).setC (1 - A.tn) ((A.ch (1 - A.tn)).eraseIdx (plcY A p))).ch (1 - A.tn)) (((tirB A ((A.ch A.tn).getD j 0) ((A.ch A.tn).getD (j + 1) 0)).setC (1 - A.tn) ((A.ch (1 - A.tn)).eraseIdx (plcY A p))).ch (1 - A.tn)).length p)).setC A.tn (((((tirB A ((A.ch A.tn).getD j 0) ((A.ch A.tn).getD (j + 1) 0)).setC (1 - A.tn) ((A.ch (1 - A.tn)).eraseIdx (plcY A p))).setC (1 - A.tn) (insAt (((tirB A ((A.ch A.tn).getD j 0) ((A.ch A.tn).getD (j + 1) 0)).setC (1 - A.tn) ((A.ch (1 - A.tn)).eraseIdx (plcY A p))).ch (1 - A.tn)) (((tirB A ((A.ch A.tn).getD j 0) ((A.ch A.tn).getD (j + 1) 0)).setC (1 - A.tn) ((A.ch (1 - A.tn)).eraseIdx (plcY A p))).ch (1 - A.tn)).length p)).ch A.tn).eraseIdx (j + sd))).ch (1 - A.tn)).length : Nat) : Int) + 1)) (r + 23 + (1 - A.tn)) ((((((tirB A ((A.ch A.tn).getD j 0) ((A.ch A.tn).getD (j + 1) 0)).setC (1 - A.tn) ((A.ch (1 - A.tn)).eraseIdx (plcY A p))).setC (1 - A.tn) (insAt (((tirB A ((A.ch A.tn).getD j 0) ((A.ch A.tn).getD (j + 1) 0)).setC (1 - A.tn) ((A.ch (1 - A.tn)).eraseIdx (plcY A p))).ch (1 - A.tn)) (((tirB A ((A.ch A.tn).getD j 0) ((A.ch A.tn).getD (j + 1) 0)).setC (1 - A.tn) ((A.ch (1 - A.tn)).eraseIdx (plcY A p))).ch (1 - A.tn)).length p)).setC A.tn (((((tirB A ((A.ch A.tn).getD j 0) ((A.ch A.tn).getD (j + 1) 0)).setC (1 - A.tn) ((A.ch (1 - A.tn)).eraseIdx (plcY A p))).setC (1 - A.tn) (insAt (((tirB A ((A.ch A.tn).getD j 0) ((A.ch A.tn).getD (j + 1) 0)).setC (1 - A.tn) ((A.ch (1 - A.tn)).eraseIdx (plcY A p))).ch (1 - A.tn)) (((tirB A ((A.ch A.tn).getD j 0) ((A.ch A.tn).getD (j + 1) 0)).setC (1 - A.tn) ((A.ch (1 - A.tn)).eraseIdx (plcY A p))).ch (1 - A.tn)).length p)).ch A.tn).eraseIdx (j + sd))).ch (1 - A.tn)).length) ((((((tirB A ((A.ch A.tn).getD j 0) ((A.ch A.tn).getD (j + 1) 0)).setC (1 - A.tn) ((A.ch (1 - A.tn)).eraseIdx (plcY A p))).setC (1 - A.tn) (insAt (((tirB A ((A.ch A.tn).getD j 0) ((A.ch A.tn).getD (j + 1) 0)).setC (1 - A.tn) ((A.ch (1 - A.tn)).eraseIdx (plcY A p))).ch (1 - A.tn)) (((tirB A ((A.ch A.tn).getD j 0) ((A.ch A.tn).getD (j + 1) 0)).setC (1 - A.tn) ((A.ch (1 - A.tn)).eraseIdx (plcY A p))).ch (1 - A.tn)).length p)).ch A.tn).getD (j + sd) 0 : Nat) : Int) = M5 at hN5 hF5 ⊢
  refine J_aload_n hx dX7_runsTorn_96 (i := 0) rfl rfl ?_
  refine J_invVv (As := []) (st := []) hx lk_X7_296 okX7_ends dX7_runsTorn_97 hT.o (by decide) rfl rfl rfl (Nat.le_of_ble_eq_true rfl) (Nat.zero_add _).symm (Nat.zero_add _).symm rfl (c_X7_ends hT hN5 hs5 ⟨hs6.1, by show A.sc 6 ≤ 99; omega⟩ ?_)
  intro M6 hN6 hf6
  have hN6 : MN M6 r (((((((tirB A ((A.ch A.tn).getD j 0) ((A.ch A.tn).getD (j + 1) 0)).setC (1 - A.tn) ((A.ch (1 - A.tn)).eraseIdx (plcY A p))).setC (1 - A.tn) (insAt (((tirB A ((A.ch A.tn).getD j 0) ((A.ch A.tn).getD (j + 1) 0)).setC (1 - A.tn) ((A.ch (1 - A.tn)).eraseIdx (plcY A p))).ch (1 - A.tn)) (((tirB A ((A.ch A.tn).getD j 0) ((A.ch A.tn).getD (j + 1) 0)).setC (1 - A.tn) ((A.ch (1 - A.tn)).eraseIdx (plcY A p))).ch (1 - A.tn)).length p)).setC A.tn (((((tirB A ((A.ch A.tn).getD j 0) ((A.ch A.tn).getD (j + 1) 0)).setC (1 - A.tn) ((A.ch (1 - A.tn)).eraseIdx (plcY A p))).setC (1 - A.tn) (insAt (((tirB A ((A.ch A.tn).getD j 0) ((A.ch A.tn).getD (j + 1) 0)).setC (1 - A.tn) ((A.ch (1 - A.tn)).eraseIdx (plcY A p))).ch (1 - A.tn)) (((tirB A ((A.ch A.tn).getD j 0) ((A.ch A.tn).getD (j + 1) 0)).setC (1 - A.tn) ((A.ch (1 - A.tn)).eraseIdx (plcY A p))).ch (1 - A.tn)).length p)).ch A.tn).eraseIdx (j + sd))).setC (1 - A.tn) (insAt (((((tirB A ((A.ch A.tn).getD j 0) ((A.ch A.tn).getD (j + 1) 0)).setC (1 - A.tn) ((A.ch (1 - A.tn)).eraseIdx (plcY A p))).setC (1 - A.tn) (insAt (((tirB A ((A.ch A.tn).getD j 0) ((A.ch A.tn).getD (j + 1) 0)).setC (1 - A.tn) ((A.ch (1 - A.tn)).eraseIdx (plcY A p))).ch (1 - A.tn)) (((tirB A ((A.ch A.tn).getD j 0) ((A.ch A.tn).getD (j + 1) 0)).setC (1 - A.tn) ((A.ch (1 - A.tn)).eraseIdx (plcY A p))).ch (1 - A.tn)).length p)).setC A.tn (((((tirB A ((A.ch A.tn).getD j 0) ((A.ch A.tn).getD (j + 1) 0)).setC (1 - A.tn) ((A.ch (1 - A.tn)).eraseIdx (plcY A p))).setC (1 - A.tn) (insAt (((tirB A ((A.ch A.tn).getD j 0) ((A.ch A.tn).getD (j + 1) 0)).setC (1 - A.tn) ((A.ch (1 - A.tn)).eraseIdx (plcY A p))).ch (1 - A.tn)) (((tirB A ((A.ch A.tn).getD j 0) ((A.ch A.tn).getD (j + 1) 0)).setC (1 - A.tn) ((A.ch (1 - A.tn)).eraseIdx (plcY A p))).ch (1 - A.tn)).length p)).ch A.tn).eraseIdx (j + sd))).ch (1 - A.tn)) (((((tirB A ((A.ch A.tn).getD j 0) ((A.ch A.tn).getD (j + 1) 0)).setC (1 - A.tn) ((A.ch (1 - A.tn)).eraseIdx (plcY A p))).setC (1 - A.tn) (insAt (((tirB A ((A.ch A.tn).getD j 0) ((A.ch A.tn).getD (j + 1) 0)).setC (1 - A.tn) ((A.ch (1 - A.tn)).eraseIdx (plcY A p))).ch (1 - A.tn)) (((tirB A ((A.ch A.tn).getD j 0) ((A.ch A.tn).getD (j + 1) 0)).setC (1 - A.tn) ((A.ch (1 - A.tn)).eraseIdx (plcY A p))).ch (1 - A.tn)).length p)).setC A.tn (((((tirB A ((A.ch A.tn).getD j 0) ((A.ch A.tn).getD (j + 1) 0)).setC (1 - A.tn) ((A.ch (1 - A.tn)).eraseIdx (plcY A p))).setC (1 - A.tn) (insAt (((tirB A ((A.ch A.tn).getD j 0) ((A.ch A.tn).getD (j + 1) 0)).setC (1 - A.tn) ((A.ch (1 - A.tn)).eraseIdx (plcY A p))).ch (1 - A.tn)) (((tirB A ((A.ch A.tn).getD j 0) ((A.ch A.tn).getD (j + 1) 0)).setC (1 - A.tn) ((A.ch (1 - A.tn)).eraseIdx (plcY A p))).ch (1 - A.tn)).length p)).ch A.tn).eraseIdx (j + sd))).ch (1 - A.tn)).length (((((tirB A ((A.ch A.tn).getD j 0) ((A.ch A.tn).getD (j + 1) 0)).setC (1 - A.tn) ((A.ch (1 - A.tn)).eraseIdx (plcY A p))).setC (1 - A.tn) (insAt (((tirB A ((A.ch A.tn).getD j 0) ((A.ch A.tn).getD (j + 1) 0)).setC (1 - A.tn) ((A.ch (1 - A.tn)).eraseIdx (plcY A p))).ch (1 - A.tn)) (((tirB A ((A.ch A.tn).getD j 0) ((A.ch A.tn).getD (j + 1) 0)).setC (1 - A.tn) ((A.ch (1 - A.tn)).eraseIdx (plcY A p))).ch (1 - A.tn)).length p)).ch A.tn).getD (j + sd) 0))).setS 5 (1 - (((((tirB A ((A.ch A.tn).getD j 0) ((A.ch A.tn).getD (j + 1) 0)).setC (1 - A.tn) ((A.ch (1 - A.tn)).eraseIdx (plcY A p))).setC (1 - A.tn) (insAt (((tirB A ((A.ch A.tn).getD j 0) ((A.ch A.tn).getD (j + 1) 0)).setC (1 - A.tn) ((A.ch (1 - A.tn)).eraseIdx (plcY A p))).ch (1 - A.tn)) (((tirB A ((A.ch A.tn).getD j 0) ((A.ch A.tn).getD (j + 1) 0)).setC (1 - A.tn) ((A.ch (1 - A.tn)).eraseIdx (plcY A p))).ch (1 - A.tn)).length p)).setC A.tn (((((tirB A ((A.ch A.tn).getD j 0) ((A.ch A.tn).getD (j + 1) 0)).setC (1 - A.tn) ((A.ch (1 - A.tn)).eraseIdx (plcY A p))).setC (1 - A.tn) (insAt (((tirB A ((A.ch A.tn).getD j 0) ((A.ch A.tn).getD (j + 1) 0)).setC (1 - A.tn) ((A.ch (1 - A.tn)).eraseIdx (plcY A p))).ch (1 - A.tn)) (((tirB A ((A.ch A.tn).getD j 0) ((A.ch A.tn).getD (j + 1) 0)).setC (1 - A.tn) ((A.ch (1 - A.tn)).eraseIdx (plcY A p))).ch (1 - A.tn)).length p)).ch A.tn).eraseIdx (j + sd))).setC (1 - A.tn) (insAt (((((tirB A ((A.ch A.tn).getD j 0) ((A.ch A.tn).getD (j + 1) 0)).setC (1 - A.tn) ((A.ch (1 - A.tn)).eraseIdx (plcY A p))).setC (1 - A.tn) (insAt (((tirB A ((A.ch A.tn).getD j 0) ((A.ch A.tn).getD (j + 1) 0)).setC (1 - A.tn) ((A.ch (1 - A.tn)).eraseIdx (plcY A p))).ch (1 - A.tn)) (((tirB A ((A.ch A.tn).getD j 0) ((A.ch A.tn).getD (j + 1) 0)).setC (1 - A.tn) ((A.ch (1 - A.tn)).eraseIdx (plcY A p))).ch (1 - A.tn)).length p)).setC A.tn (((((tirB A ((A.ch A.tn).getD j 0) ((A.ch A.tn).getD (j + 1) 0)).setC (1 - A.tn) ((A.ch (1 - A.tn)).eraseIdx (plcY A p))).setC (1 - A.tn) (insAt (((tirB A ((A.ch A.tn).getD j 0) ((A.ch A.tn).getD (j + 1) 0)).setC (1 - A.tn) ((A.ch (1 - A.tn)).eraseIdx (plcY A p))).ch (1 - A.tn)) (((tirB A ((A.ch A.tn).getD j 0) ((A.ch A.tn).getD (j + 1) 0)).setC (1 - A.tn) ((A.ch (1 - A.tn)).eraseIdx (plcY A p))).ch (1 - A.tn)).length p)).ch A.tn).eraseIdx (j + sd))).ch (1 - A.tn)) (((((tirB A ((A.ch A.tn).getD j 0) ((A.ch A.tn).getD (j + 1) 0)).setC (1 - A.tn) ((A.ch (1 - A.tn)).eraseIdx (plcY A p))).setC (1 - A.tn) (insAt (((tirB A ((A.ch A.tn).getD j 0) ((A.ch A.tn).getD (j + 1) 0)).setC (1 - A.tn) ((A.ch (1 - A.tn)).eraseIdx (plcY A p))).ch (1 - A.tn)) (((tirB A ((A.ch A.tn).getD j 0) ((A.ch A.tn).getD (j + 1) 0)).setC (1 - A.tn) ((A.ch (1 - A.tn)).eraseIdx (plcY A p))).ch (1 - A.tn)).length p)).setC A.tn (((((tirB A ((A.ch A.tn).getD j 0) ((A.ch A.tn).getD (j + 1) 0)).setC (1 - A.tn) ((A.ch (1 - A.tn)).eraseIdx (plcY A p))).setC (1 - A.tn) (insAt (((tirB A ((A.ch A.tn).getD j 0) ((A.ch A.tn).getD (j + 1) 0)).setC (1 - A.tn) ((A.ch (1 - A.tn)).eraseIdx (plcY A p))).ch (1 - A.tn)) (((tirB A ((A.ch A.tn).getD j 0) ((A.ch A.tn).getD (j + 1) 0)).setC (1 - A.tn) ((A.ch (1 - A.tn)).eraseIdx (plcY A p))).ch (1 - A.tn)).length p)).ch A.tn).eraseIdx (j + sd))).ch (1 - A.tn)).length (((((tirB A ((A.ch A.tn).getD j 0) ((A.ch A.tn).getD (j + 1) 0)).setC (1 - A.tn) ((A.ch (1 - A.tn)).eraseIdx (plcY A p))).setC (1 - A.tn) (insAt (((tirB A ((A.ch A.tn).getD j 0) ((A.ch A.tn).getD (j + 1) 0)).setC (1 - A.tn) ((A.ch (1 - A.tn)).eraseIdx (plcY A p))).ch (1 - A.tn)) (((tirB A ((A.ch A.tn).getD j 0) ((A.ch A.tn).getD (j + 1) 0)).setC (1 - A.tn) ((A.ch (1 - A.tn)).eraseIdx (plcY A p))).ch (1 - A.tn)).length p)).ch A.tn).getD (j + sd) 0))).sc 5)).setS 6 ((((((tirB A ((A.ch A.tn).getD j 0) ((A.ch A.tn).getD (j + 1) 0)).setC (1 - A.tn) ((A.ch (1 - A.tn)).eraseIdx (plcY A p))).setC (1 - A.tn) (insAt (((tirB A ((A.ch A.tn).getD j 0) ((A.ch A.tn).getD (j + 1) 0)).setC (1 - A.tn) ((A.ch (1 - A.tn)).eraseIdx (plcY A p))).ch (1 - A.tn)) (((tirB A ((A.ch A.tn).getD j 0) ((A.ch A.tn).getD (j + 1) 0)).setC (1 - A.tn) ((A.ch (1 - A.tn)).eraseIdx (plcY A p))).ch (1 - A.tn)).length p)).setC A.tn (((((tirB A ((A.ch A.tn).getD j 0) ((A.ch A.tn).getD (j + 1) 0)).setC (1 - A.tn) ((A.ch (1 - A.tn)).eraseIdx (plcY A p))).setC (1 - A.tn) (insAt (((tirB A ((A.ch A.tn).getD j 0) ((A.ch A.tn).getD (j + 1) 0)).setC (1 - A.tn) ((A.ch (1 - A.tn)).eraseIdx (plcY A p))).ch (1 - A.tn)) (((tirB A ((A.ch A.tn).getD j 0) ((A.ch A.tn).getD (j + 1) 0)).setC (1 - A.tn) ((A.ch (1 - A.tn)).eraseIdx (plcY A p))).ch (1 - A.tn)).length p)).ch A.tn).eraseIdx (j + sd))).setC (1 - A.tn) (insAt (((((tirB A ((A.ch A.tn).getD j 0) ((A.ch A.tn).getD (j + 1) 0)).setC (1 - A.tn) ((A.ch (1 - A.tn)).eraseIdx (plcY A p))).setC (1 - A.tn) (insAt (((tirB A ((A.ch A.tn).getD j 0) ((A.ch A.tn).getD (j + 1) 0)).setC (1 - A.tn) ((A.ch (1 - A.tn)).eraseIdx (plcY A p))).ch (1 - A.tn)) (((tirB A ((A.ch A.tn).getD j 0) ((A.ch A.tn).getD (j + 1) 0)).setC (1 - A.tn) ((A.ch (1 - A.tn)).eraseIdx (plcY A p))).ch (1 - A.tn)).length p)).setC A.tn (((((tirB A ((A.ch A.tn).getD j 0) ((A.ch A.tn).getD (j + 1) 0)).setC (1 - A.tn) ((A.ch (1 - A.tn)).eraseIdx (plcY A p))).setC (1 - A.tn) (insAt (((tirB A ((A.ch A.tn).getD j 0) ((A.ch A.tn).getD (j + 1) 0)).setC (1 - A.tn) ((A.ch (1 - A.tn)).eraseIdx (plcY A p))).ch (1 - A.tn)) (((tirB A ((A.ch A.tn).getD j 0) ((A.ch A.tn).getD (j + 1) 0)).setC (1 - A.tn) ((A.ch (1 - A.tn)).eraseIdx (plcY A p))).ch (1 - A.tn)).length p)).ch A.tn).eraseIdx (j + sd))).ch (1 - A.tn)) (((((tirB A ((A.ch A.tn).getD j 0) ((A.ch A.tn).getD (j + 1) 0)).setC (1 - A.tn) ((A.ch (1 - A.tn)).eraseIdx (plcY A p))).setC (1 - A.tn) (insAt (((tirB A ((A.ch A.tn).getD j 0) ((A.ch A.tn).getD (j + 1) 0)).setC (1 - A.tn) ((A.ch (1 - A.tn)).eraseIdx (plcY A p))).ch (1 - A.tn)) (((tirB A ((A.ch A.tn).getD j 0) ((A.ch A.tn).getD (j + 1) 0)).setC (1 - A.tn) ((A.ch (1 - A.tn)).eraseIdx (plcY A p))).ch (1 - A.tn)).length p)).setC A.tn (((((tirB A ((A.ch A.tn).getD j 0) ((A.ch A.tn).getD (j + 1) 0)).setC (1 - A.tn) ((A.ch (1 - A.tn)).eraseIdx (plcY A p))).setC (1 - A.tn) (insAt (((tirB A ((A.ch A.tn).getD j 0) ((A.ch A.tn).getD (j + 1) 0)).setC (1 - A.tn) ((A.ch (1 - A.tn)).eraseIdx (plcY A p))).ch (1 - A.tn)) (((tirB A ((A.ch A.tn).getD j 0) ((A.ch A.tn).getD (j + 1) 0)).setC (1 - A.tn) ((A.ch (1 - A.tn)).eraseIdx (plcY A p))).ch (1 - A.tn)).length p)).ch A.tn).eraseIdx (j + sd))).ch (1 - A.tn)).length (((((tirB A ((A.ch A.tn).getD j 0) ((A.ch A.tn).getD (j + 1) 0)).setC (1 - A.tn) ((A.ch (1 - A.tn)).eraseIdx (plcY A p))).setC (1 - A.tn) (insAt (((tirB A ((A.ch A.tn).getD j 0) ((A.ch A.tn).getD (j + 1) 0)).setC (1 - A.tn) ((A.ch (1 - A.tn)).eraseIdx (plcY A p))).ch (1 - A.tn)) (((tirB A ((A.ch A.tn).getD j 0) ((A.ch A.tn).getD (j + 1) 0)).setC (1 - A.tn) ((A.ch (1 - A.tn)).eraseIdx (plcY A p))).ch (1 - A.tn)).length p)).ch A.tn).getD (j + sd) 0))).sc 6 + 1)) := hN6
  have hF6 := hF5.tr hf6
  refine J_vret hx hr dX7_runsTorn_100 ?_
  refine hQ _ ?_ hF6
  have e9 : runT A p j (takenY A j sd) = (((((((tirB A ((A.ch A.tn).getD j 0) ((A.ch A.tn).getD (j + 1) 0)).setC (1 - A.tn) ((A.ch (1 - A.tn)).eraseIdx (plcY A p))).setC (1 - A.tn) (insAt (((tirB A ((A.ch A.tn).getD j 0) ((A.ch A.tn).getD (j + 1) 0)).setC (1 - A.tn) ((A.ch (1 - A.tn)).eraseIdx (plcY A p))).ch (1 - A.tn)) (((tirB A ((A.ch A.tn).getD j 0) ((A.ch A.tn).getD (j + 1) 0)).setC (1 - A.tn) ((A.ch (1 - A.tn)).eraseIdx (plcY A p))).ch (1 - A.tn)).length p)).setC A.tn (((((tirB A ((A.ch A.tn).getD j 0) ((A.ch A.tn).getD (j + 1) 0)).setC (1 - A.tn) ((A.ch (1 - A.tn)).eraseIdx (plcY A p))).setC (1 - A.tn) (insAt (((tirB A ((A.ch A.tn).getD j 0) ((A.ch A.tn).getD (j + 1) 0)).setC (1 - A.tn) ((A.ch (1 - A.tn)).eraseIdx (plcY A p))).ch (1 - A.tn)) (((tirB A ((A.ch A.tn).getD j 0) ((A.ch A.tn).getD (j + 1) 0)).setC (1 - A.tn) ((A.ch (1 - A.tn)).eraseIdx (plcY A p))).ch (1 - A.tn)).length p)).ch A.tn).eraseIdx (j + sd))).setC (1 - A.tn) (insAt (((((tirB A ((A.ch A.tn).getD j 0) ((A.ch A.tn).getD (j + 1) 0)).setC (1 - A.tn) ((A.ch (1 - A.tn)).eraseIdx (plcY A p))).setC (1 - A.tn) (insAt (((tirB A ((A.ch A.tn).getD j 0) ((A.ch A.tn).getD (j + 1) 0)).setC (1 - A.tn) ((A.ch (1 - A.tn)).eraseIdx (plcY A p))).ch (1 - A.tn)) (((tirB A ((A.ch A.tn).getD j 0) ((A.ch A.tn).getD (j + 1) 0)).setC (1 - A.tn) ((A.ch (1 - A.tn)).eraseIdx (plcY A p))).ch (1 - A.tn)).length p)).setC A.tn (((((tirB A ((A.ch A.tn).getD j 0) ((A.ch A.tn).getD (j + 1) 0)).setC (1 - A.tn) ((A.ch (1 - A.tn)).eraseIdx (plcY A p))).setC (1 - A.tn) (insAt (((tirB A ((A.ch A.tn).getD j 0) ((A.ch A.tn).getD (j + 1) 0)).setC (1 - A.tn) ((A.ch (1 - A.tn)).eraseIdx (plcY A p))).ch (1 - A.tn)) (((tirB A ((A.ch A.tn).getD j 0) ((A.ch A.tn).getD (j + 1) 0)).setC (1 - A.tn) ((A.ch (1 - A.tn)).eraseIdx (plcY A p))).ch (1 - A.tn)).length p)).ch A.tn).eraseIdx (j + sd))).ch (1 - A.tn)) (((((tirB A ((A.ch A.tn).getD j 0) ((A.ch A.tn).getD (j + 1) 0)).setC (1 - A.tn) ((A.ch (1 - A.tn)).eraseIdx (plcY A p))).setC (1 - A.tn) (insAt (((tirB A ((A.ch A.tn).getD j 0) ((A.ch A.tn).getD (j + 1) 0)).setC (1 - A.tn) ((A.ch (1 - A.tn)).eraseIdx (plcY A p))).ch (1 - A.tn)) (((tirB A ((A.ch A.tn).getD j 0) ((A.ch A.tn).getD (j + 1) 0)).setC (1 - A.tn) ((A.ch (1 - A.tn)).eraseIdx (plcY A p))).ch (1 - A.tn)).length p)).setC A.tn (((((tirB A ((A.ch A.tn).getD j 0) ((A.ch A.tn).getD (j + 1) 0)).setC (1 - A.tn) ((A.ch (1 - A.tn)).eraseIdx (plcY A p))).setC (1 - A.tn) (insAt (((tirB A ((A.ch A.tn).getD j 0) ((A.ch A.tn).getD (j + 1) 0)).setC (1 - A.tn) ((A.ch (1 - A.tn)).eraseIdx (plcY A p))).ch (1 - A.tn)) (((tirB A ((A.ch A.tn).getD j 0) ((A.ch A.tn).getD (j + 1) 0)).setC (1 - A.tn) ((A.ch (1 - A.tn)).eraseIdx (plcY A p))).ch (1 - A.tn)).length p)).ch A.tn).eraseIdx (j + sd))).ch (1 - A.tn)).length (((((tirB A ((A.ch A.tn).getD j 0) ((A.ch A.tn).getD (j + 1) 0)).setC (1 - A.tn) ((A.ch (1 - A.tn)).eraseIdx (plcY A p))).setC (1 - A.tn) (insAt (((tirB A ((A.ch A.tn).getD j 0) ((A.ch A.tn).getD (j + 1) 0)).setC (1 - A.tn) ((A.ch (1 - A.tn)).eraseIdx (plcY A p))).ch (1 - A.tn)) (((tirB A ((A.ch A.tn).getD j 0) ((A.ch A.tn).getD (j + 1) 0)).setC (1 - A.tn) ((A.ch (1 - A.tn)).eraseIdx (plcY A p))).ch (1 - A.tn)).length p)).ch A.tn).getD (j + sd) 0))).setS 5 (1 - (((((tirB A ((A.ch A.tn).getD j 0) ((A.ch A.tn).getD (j + 1) 0)).setC (1 - A.tn) ((A.ch (1 - A.tn)).eraseIdx (plcY A p))).setC (1 - A.tn) (insAt (((tirB A ((A.ch A.tn).getD j 0) ((A.ch A.tn).getD (j + 1) 0)).setC (1 - A.tn) ((A.ch (1 - A.tn)).eraseIdx (plcY A p))).ch (1 - A.tn)) (((tirB A ((A.ch A.tn).getD j 0) ((A.ch A.tn).getD (j + 1) 0)).setC (1 - A.tn) ((A.ch (1 - A.tn)).eraseIdx (plcY A p))).ch (1 - A.tn)).length p)).setC A.tn (((((tirB A ((A.ch A.tn).getD j 0) ((A.ch A.tn).getD (j + 1) 0)).setC (1 - A.tn) ((A.ch (1 - A.tn)).eraseIdx (plcY A p))).setC (1 - A.tn) (insAt (((tirB A ((A.ch A.tn).getD j 0) ((A.ch A.tn).getD (j + 1) 0)).setC (1 - A.tn) ((A.ch (1 - A.tn)).eraseIdx (plcY A p))).ch (1 - A.tn)) (((tirB A ((A.ch A.tn).getD j 0) ((A.ch A.tn).getD (j + 1) 0)).setC (1 - A.tn) ((A.ch (1 - A.tn)).eraseIdx (plcY A p))).ch (1 - A.tn)).length p)).ch A.tn).eraseIdx (j + sd))).setC (1 - A.tn) (insAt (((((tirB A ((A.ch A.tn).getD j 0) ((A.ch A.tn).getD (j + 1) 0)).setC (1 - A.tn) ((A.ch (1 - A.tn)).eraseIdx (plcY A p))).setC (1 - A.tn) (insAt (((tirB A ((A.ch A.tn).getD j 0) ((A.ch A.tn).getD (j + 1) 0)).setC (1 - A.tn) ((A.ch (1 - A.tn)).eraseIdx (plcY A p))).ch (1 - A.tn)) (((tirB A ((A.ch A.tn).getD j 0) ((A.ch A.tn).getD (j + 1) 0)).setC (1 - A.tn) ((A.ch (1 - A.tn)).eraseIdx (plcY A p))).ch (1 - A.tn)).length p)).setC A.tn (((((tirB A ((A.ch A.tn).getD j 0) ((A.ch A.tn).getD (j + 1) 0)).setC (1 - A.tn) ((A.ch (1 - A.tn)).eraseIdx (plcY A p))).setC (1 - A.tn) (insAt (((tirB A ((A.ch A.tn).getD j 0) ((A.ch A.tn).getD (j + 1) 0)).setC (1 - A.tn) ((A.ch (1 - A.tn)).eraseIdx (plcY A p))).ch (1 - A.tn)) (((tirB A ((A.ch A.tn).getD j 0) ((A.ch A.tn).getD (j + 1) 0)).setC (1 - A.tn) ((A.ch (1 - A.tn)).eraseIdx (plcY A p))).ch (1 - A.tn)).length p)).ch A.tn).eraseIdx (j + sd))).ch (1 - A.tn)) (((((tirB A ((A.ch A.tn).getD j 0) ((A.ch A.tn).getD (j + 1) 0)).setC (1 - A.tn) ((A.ch (1 - A.tn)).eraseIdx (plcY A p))).setC (1 - A.tn) (insAt (((tirB A ((A.ch A.tn).getD j 0) ((A.ch A.tn).getD (j + 1) 0)).setC (1 - A.tn) ((A.ch (1 - A.tn)).eraseIdx (plcY A p))).ch (1 - A.tn)) (((tirB A ((A.ch A.tn).getD j 0) ((A.ch A.tn).getD (j + 1) 0)).setC (1 - A.tn) ((A.ch (1 - A.tn)).eraseIdx (plcY A p))).ch (1 - A.tn)).length p)).setC A.tn (((((tirB A ((A.ch A.tn).getD j 0) ((A.ch A.tn).getD (j + 1) 0)).setC (1 - A.tn) ((A.ch (1 - A.tn)).eraseIdx (plcY A p))).setC (1 - A.tn) (insAt (((tirB A ((A.ch A.tn).getD j 0) ((A.ch A.tn).getD (j + 1) 0)).setC (1 - A.tn) ((A.ch (1 - A.tn)).eraseIdx (plcY A p))).ch (1 - A.tn)) (((tirB A ((A.ch A.tn).getD j 0) ((A.ch A.tn).getD (j + 1) 0)).setC (1 - A.tn) ((A.ch (1 - A.tn)).eraseIdx (plcY A p))).ch (1 - A.tn)).length p)).ch A.tn).eraseIdx (j + sd))).ch (1 - A.tn)).length (((((tirB A ((A.ch A.tn).getD j 0) ((A.ch A.tn).getD (j + 1) 0)).setC (1 - A.tn) ((A.ch (1 - A.tn)).eraseIdx (plcY A p))).setC (1 - A.tn) (insAt (((tirB A ((A.ch A.tn).getD j 0) ((A.ch A.tn).getD (j + 1) 0)).setC (1 - A.tn) ((A.ch (1 - A.tn)).eraseIdx (plcY A p))).ch (1 - A.tn)) (((tirB A ((A.ch A.tn).getD j 0) ((A.ch A.tn).getD (j + 1) 0)).setC (1 - A.tn) ((A.ch (1 - A.tn)).eraseIdx (plcY A p))).ch (1 - A.tn)).length p)).ch A.tn).getD (j + sd) 0))).sc 5)).setS 6 ((((((tirB A ((A.ch A.tn).getD j 0) ((A.ch A.tn).getD (j + 1) 0)).setC (1 - A.tn) ((A.ch (1 - A.tn)).eraseIdx (plcY A p))).setC (1 - A.tn) (insAt (((tirB A ((A.ch A.tn).getD j 0) ((A.ch A.tn).getD (j + 1) 0)).setC (1 - A.tn) ((A.ch (1 - A.tn)).eraseIdx (plcY A p))).ch (1 - A.tn)) (((tirB A ((A.ch A.tn).getD j 0) ((A.ch A.tn).getD (j + 1) 0)).setC (1 - A.tn) ((A.ch (1 - A.tn)).eraseIdx (plcY A p))).ch (1 - A.tn)).length p)).setC A.tn (((((tirB A ((A.ch A.tn).getD j 0) ((A.ch A.tn).getD (j + 1) 0)).setC (1 - A.tn) ((A.ch (1 - A.tn)).eraseIdx (plcY A p))).setC (1 - A.tn) (insAt (((tirB A ((A.ch A.tn).getD j 0) ((A.ch A.tn).getD (j + 1) 0)).setC (1 - A.tn) ((A.ch (1 - A.tn)).eraseIdx (plcY A p))).ch (1 - A.tn)) (((tirB A ((A.ch A.tn).getD j 0) ((A.ch A.tn).getD (j + 1) 0)).setC (1 - A.tn) ((A.ch (1 - A.tn)).eraseIdx (plcY A p))).ch (1 - A.tn)).length p)).ch A.tn).eraseIdx (j + sd))).setC (1 - A.tn) (insAt (((((tirB A ((A.ch A.tn).getD j 0) ((A.ch A.tn).getD (j + 1) 0)).setC (1 - A.tn) ((A.ch (1 - A.tn)).eraseIdx (plcY A p))).setC (1 - A.tn) (insAt (((tirB A ((A.ch A.tn).getD j 0) ((A.ch A.tn).getD (j + 1) 0)).setC (1 - A.tn) ((A.ch (1 - A.tn)).eraseIdx (plcY A p))).ch (1 - A.tn)) (((tirB A ((A.ch A.tn).getD j 0) ((A.ch A.tn).getD (j + 1) 0)).setC (1 - A.tn) ((A.ch (1 - A.tn)).eraseIdx (plcY A p))).ch (1 - A.tn)).length p)).setC A.tn (((((tirB A ((A.ch A.tn).getD j 0) ((A.ch A.tn).getD (j + 1) 0)).setC (1 - A.tn) ((A.ch (1 - A.tn)).eraseIdx (plcY A p))).setC (1 - A.tn) (insAt (((tirB A ((A.ch A.tn).getD j 0) ((A.ch A.tn).getD (j + 1) 0)).setC (1 - A.tn) ((A.ch (1 - A.tn)).eraseIdx (plcY A p))).ch (1 - A.tn)) (((tirB A ((A.ch A.tn).getD j 0) ((A.ch A.tn).getD (j + 1) 0)).setC (1 - A.tn) ((A.ch (1 - A.tn)).eraseIdx (plcY A p))).ch (1 - A.tn)).length p)).ch A.tn).eraseIdx (j + sd))).ch (1 - A.tn)) (((((tirB A ((A.ch A.tn).getD j 0) ((A.ch A.tn).getD (j + 1) 0)).setC (1 - A.tn) ((A.ch (1 - A.tn)).eraseIdx (plcY A p))).setC (1 - A.tn) (insAt (((tirB A ((A.ch A.tn).getD j 0) ((A.ch A.tn).getD (j + 1) 0)).setC (1 - A.tn) ((A.ch (1 - A.tn)).eraseIdx (plcY A p))).ch (1 - A.tn)) (((tirB A ((A.ch A.tn).getD j 0) ((A.ch A.tn).getD (j + 1) 0)).setC (1 - A.tn) ((A.ch (1 - A.tn)).eraseIdx (plcY A p))).ch (1 - A.tn)).length p)).setC A.tn (((((tirB A ((A.ch A.tn).getD j 0) ((A.ch A.tn).getD (j + 1) 0)).setC (1 - A.tn) ((A.ch (1 - A.tn)).eraseIdx (plcY A p))).setC (1 - A.tn) (insAt (((tirB A ((A.ch A.tn).getD j 0) ((A.ch A.tn).getD (j + 1) 0)).setC (1 - A.tn) ((A.ch (1 - A.tn)).eraseIdx (plcY A p))).ch (1 - A.tn)) (((tirB A ((A.ch A.tn).getD j 0) ((A.ch A.tn).getD (j + 1) 0)).setC (1 - A.tn) ((A.ch (1 - A.tn)).eraseIdx (plcY A p))).ch (1 - A.tn)).length p)).ch A.tn).eraseIdx (j + sd))).ch (1 - A.tn)).length (((((tirB A ((A.ch A.tn).getD j 0) ((A.ch A.tn).getD (j + 1) 0)).setC (1 - A.tn) ((A.ch (1 - A.tn)).eraseIdx (plcY A p))).setC (1 - A.tn) (insAt (((tirB A ((A.ch A.tn).getD j 0) ((A.ch A.tn).getD (j + 1) 0)).setC (1 - A.tn) ((A.ch (1 - A.tn)).eraseIdx (plcY A p))).ch (1 - A.tn)) (((tirB A ((A.ch A.tn).getD j 0) ((A.ch A.tn).getD (j + 1) 0)).setC (1 - A.tn) ((A.ch (1 - A.tn)).eraseIdx (plcY A p))).ch (1 - A.tn)).length p)).ch A.tn).getD (j + sd) 0))).sc 6 + 1)) := by
    have e8 : (runTB A p j).ch A.tn = A.ch A.tn := by
      show (YA.setC _ (1 - A.tn) _).ch A.tn = _
      rw [YA.ch_ne _ _ (by omega), YA.ch_ne _ _ (by omega)]; rfl
    unfold runT
    rw [e8, ← ht5]
    have e7 : lv_ (A.ch A.tn) (takenY A j sd) = (A.ch A.tn).eraseIdx (j + sd) := (erI_at (hW.nd ht) (by omega)).symm
    rw [e7]
    unfold runTB
    rw [← epl, e1]; rfl
  rw [e9]; exact hN6

