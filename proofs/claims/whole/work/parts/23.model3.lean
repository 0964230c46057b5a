theorem YA.setS_same (A : YA) (q : Nat) : A.setS q (A.sc q) = A := by
  obtain ⟨n, at_, ch, sc⟩ := A
  show (n, at_, ch, fun q' => if q' = q then sc q else sc q') = _
  congr 3
  funext q'
  by_cases e : q' = q
  · rw [if_pos e, e]
  · rw [if_neg e]
def mayQ (what v : Int) : Prop := (what = 0 ∧ 0 ≤ v ∧ v ≤ 30) ∨ (what = 1 ∧ 1 ≤ v ∧ v ≤ 10) ∨ ((what = 2 ∨ what = 4) ∧ 0 ≤ v ∧ v ≤ 1) ∨ (what = 3 ∧ 1 ≤ v ∧ v ≤ 99)
theorem who_some {A : YA} (h : WFY A) (ho : ¬ overY A) (rule : Int) : ∃ p : Nat, whoY A rule = ((p : Nat) : Int) ∧ p < A.n ∧ A.co p ≠ A.tn := by
  have hl := (not_over2 h ho).2.1
  have ht := h.tn2
  have hm := h.mem (c := 1 - A.tn) (k := 0) (by omega) (by omega)
  have hp := h.lt (show 1 - A.tn < 2 by omega) hm
  have hc := h.co (show 1 - A.tn < 2 by omega) hm
  obtain ⟨b, b1, b2, b3, -⟩ := pick_some (P := calY A) (k := keyY A rule) hp (by unfold calY; rw [hc]; simp; omega)
  refine ⟨b, pkI_of b1, b2, ?_⟩
  unfold calY at b3
  simpa using b3
/-- a run by a rule -/
def playY (A : YA) (rule : Int) : YA :=
  if 500000 ≤ oddsY A (whoY A rule).toNat (atY A (whoY A rule).toNat) then runT A (whoY A rule).toNat (atY A (whoY A rule).toNat) (takenY A (atY A (whoY A rule).toNat) (sidY A (atY A (whoY A rule).toNat))) else runH A (whoY A rule).toNat (atY A (whoY A rule).toNat)
theorem taken_mem {A : YA} (h : WFY A) {j sd : Nat} (hj : j + 1 < (A.ch A.tn).length) (hs : sd < 2) : takenY A j sd ∈ A.ch A.tn := h.mem h.tn2 (by omega)
theorem playY_wf {A : YA} (h : WFY A) (ho : ¬ overY A) (rule : Int) : WFY (playY A rule) := by
  obtain ⟨p, e, h1, h2⟩ := who_some h ho rule
  have hj := atY_lt (not_over2 h ho).1 p
  unfold playY
  rw [e]
  simp only [Int.toNat_natCast]
  split
  · exact runT_wf h h1 h2 hj ho (taken_mem h hj (sidY_lt A _))
  · exact runH_wf h h1 h2 hj ho
theorem MN.addN {M M1 M2 M3 M4 M5 M6 M7 M8 : MM} {r : Nat} {A : YA} (hN : MN M r A) (hW : WFY A) {c : Nat} (hc : c < 2) {kd gr w a : Int}
    (e1 : up2 M (r + 17) A.n kd = M1) (e2 : up2 M1 (r + 18) A.n gr = M2) (e3 : up2 M2 (r + 19) A.n w = M3) (e4 : up2 M3 (r + 20) A.n 0 = M4) (e5 : up2 M4 (r + 21) A.n a = M5)
    (e6 : up2 M5 (r + 25) c ((((A.ch c).length : Nat) : Int) + 1) = M6) (e7 : up2 M6 (r + 23 + c) (A.ch c).length ((A.n : Nat) : Int) = M7) (e8 : up2 M7 r 9 (((A.n : Nat) : Int) + 1) = M8) : MN M8 r (addY A c kd gr w a) := by
  subst e1; subst e2; subst e3; subst e4; subst e5; subst e6; subst e7; subst e8
  have hl8 := hW.len8 hc
  refine ⟨fun f hf i hi => ?_, fun c9 hc9 k9 hk9 => ?_, fun c9 hc9 => ?_, ?_, fun q9 h1 h2 => ?_⟩
  · have hi2 : i < A.n + 1 := hi
    rw [up2_row (by omega), up2_row (by omega), up2_row (by omega)]
    by_cases e : i = A.n
    · subst e
      rcases (show f = 0 ∨ f = 1 ∨ f = 2 ∨ f = 3 ∨ f = 4 by omega) with rfl | rfl | rfl | rfl | rfl
      · rw [up2_row (by omega), up2_row (by omega), up2_row (by omega), up2_row (by omega), up2_at]; show _ = (if A.n = A.n then (if (0 : Nat) = 0 then kd else if (0 : Nat) = 1 then gr else if (0 : Nat) = 2 then w else if (0 : Nat) = 3 then 0 else a) else A.att 0 A.n); rw [if_pos rfl]; rfl
      · rw [up2_row (by omega), up2_row (by omega), up2_row (by omega), up2_at]; show _ = (if A.n = A.n then (if (1 : Nat) = 0 then kd else if (1 : Nat) = 1 then gr else if (1 : Nat) = 2 then w else if (1 : Nat) = 3 then 0 else a) else A.att 1 A.n); rw [if_pos rfl]; rfl
      · rw [up2_row (by omega), up2_row (by omega), up2_at]; show _ = (if A.n = A.n then (if (2 : Nat) = 0 then kd else if (2 : Nat) = 1 then gr else if (2 : Nat) = 2 then w else if (2 : Nat) = 3 then 0 else a) else A.att 2 A.n); rw [if_pos rfl]; rfl
      · rw [up2_row (by omega), up2_at]; show _ = (if A.n = A.n then (if (3 : Nat) = 0 then kd else if (3 : Nat) = 1 then gr else if (3 : Nat) = 2 then w else if (3 : Nat) = 3 then 0 else a) else A.att 3 A.n); rw [if_pos rfl]; rfl
      · rw [up2_at]; show _ = (if A.n = A.n then (if (4 : Nat) = 0 then kd else if (4 : Nat) = 1 then gr else if (4 : Nat) = 2 then w else if (4 : Nat) = 3 then 0 else a) else A.att 4 A.n); rw [if_pos rfl]; rfl
    · show _ = (if i = A.n then _ else A.att f i)
      rw [if_neg e, up2_ne (Or.inr e), up2_ne (Or.inr e), up2_ne (Or.inr e), up2_ne (Or.inr e), up2_ne (Or.inr e)]
      exact hN.1 f hf i (by omega)
  · have ec : (addY A c kd gr w a).ch c9 = if c9 = c then insAt (A.ch c) (A.ch c).length A.n else A.ch c9 := rfl
    rw [ec] at hk9 ⊢
    rw [up2_row (by omega)]
    by_cases e : c9 = c
    · subst e
      rw [if_pos rfl] at hk9 ⊢
      rw [insAt_len (Nat.le_refl _)] at hk9
      rw [insAt_getD (Nat.le_refl _)]
      by_cases e2 : k9 = (A.ch c9).length
      · subst e2; rw [if_neg (by omega), if_pos rfl, up2_at]
      · rw [if_pos (by omega), up2_ne (Or.inr e2), up2_row (by omega), up2_row (by omega), up2_row (by omega), up2_row (by omega), up2_row (by omega), up2_row (by omega)]; exact hN.ln hc9 (by omega)
    · rw [if_neg e] at hk9 ⊢
      rw [up2_row (by omega), up2_row (by omega), up2_row (by omega), up2_row (by omega), up2_row (by omega), up2_row (by omega), up2_row (by omega)]; exact hN.ln hc9 hk9
  · have ec : (addY A c kd gr w a).ch c9 = if c9 = c then insAt (A.ch c) (A.ch c).length A.n else A.ch c9 := rfl
    rw [ec, up2_row (by omega), up2_row (by omega)]
    by_cases e : c9 = c
    · subst e; rw [if_pos rfl, up2_at, insAt_len (Nat.le_refl _)]; omega
    · rw [if_neg e, up2_ne (Or.inr e), up2_row (by omega), up2_row (by omega), up2_row (by omega), up2_row (by omega), up2_row (by omega)]; exact hN.sz hc9
  · rw [up2_at]; show _ = (((A.n + 1 : Nat)) : Int); omega
  · rw [up2_ne (Or.inr (by omega)), up2_row (by omega), up2_row (by omega), up2_row (by omega), up2_row (by omega), up2_row (by omega), up2_row (by omega), up2_row (by omega)]; exact hN.2.2.2.2 q9 h1 h2

set_option maxHeartbeats 4000000 in
theorem c_X7_changes {g : WG} {d : Nat} {T : TT} {M : MM} {r sz : Nat} {A : YA} {Q : MVal → TT → MM → Nat → Prop} (hT : MT T r) (hN : MN M r A) {c k : Nat} (hc : c < 2) (hk : k + 1 < (A.ch c).length) (h8 : (A.ch c).length ≤ 8) (hQ : ∀ M', MN M' r (A.setC c (swpL (A.ch c) k)) → FrN r M M' → Q vU T M' sz) : Ct g (d + 1) mX7_changes [vR (r), vI (((c : Nat) : Int)), vI (((k : Nat) : Int))] T M sz 0 0 Q := by
  refine Ct_of2 (ls := [vR (r), vI (((c : Nat) : Int)), vI (((k : Nat) : Int)), vU]) okX7_changes rfl (Nat.le_of_ble_eq_true rfl) rfl ?_
  intro x hx hr hnm
  refine J_aload_n hx dX7_changes_0 (i := 0) rfl rfl ?_
  refine J_getR (b := r + 22) hx fl_X7_54 cl_X7 dX7_changes_1 hT.o (by decide) rfl hT.r15 ?_
  refine J_iload_n hx dX7_changes_4 (i := 1) rfl rfl ?_
  refine J_aald (b := r + 23 + c) hx c dX7_changes_5 hT.k22 (by decide) (by omega) (hT.l22 (by omega)) (hT.f22 (by omega)) ?_
  refine J_iload_n hx dX7_changes_6 (i := 2) rfl rfl ?_
  refine J_iald2 (v := (((A.ch c).getD k 0 : Nat) : Int)) hx k dX7_changes_7 (hT.kl (by omega)) (by omega) (hT.ll (by omega) (by omega)) (hN.ln (by omega) (by omega)) ?_
  refine J_istore_n (lsn := [vR (r), vI (((c : Nat) : Int)), vI (((k : Nat) : Int)), vI ((((A.ch c).getD k 0 : Nat) : Int))]) hx dX7_changes_8 (i := 3) rfl (Nat.le_of_ble_eq_true rfl) rfl rfl ?_
  refine J_aload_n hx dX7_changes_9 (i := 0) rfl rfl ?_
  refine J_getR (b := r + 22) hx fl_X7_54 cl_X7 dX7_changes_10 hT.o (by decide) rfl hT.r15 ?_
  refine J_iload_n hx dX7_changes_13 (i := 1) rfl rfl ?_
  refine J_aald (b := r + 23 + c) hx c dX7_changes_14 hT.k22 (by decide) (by omega) (hT.l22 (by omega)) (hT.f22 (by omega)) ?_
  refine J_iload_n hx dX7_changes_15 (i := 2) rfl rfl ?_
  refine J_aload_n hx dX7_changes_16 (i := 0) rfl rfl ?_
  refine J_getR (b := r + 22) hx fl_X7_54 cl_X7 dX7_changes_17 hT.o (by decide) rfl hT.r15 ?_
  refine J_iload_n hx dX7_changes_20 (i := 1) rfl rfl ?_
  refine J_aald (b := r + 23 + c) hx c dX7_changes_21 hT.k22 (by decide) (by omega) (hT.l22 (by omega)) (hT.f22 (by omega)) ?_
  refine J_iload_n hx dX7_changes_22 (i := 2) rfl rfl ?_
  refine J_iconst (v := 1) hx dX7_changes_23 (by decide) ?_
  refine J_iadd (v := ((k : Nat) : Int) + 1) hx dX7_changes_24 (w32_id (by omega) (by omega)) ?_
  refine J_iald2 (v := (((A.ch c).getD (k + 1) 0 : Nat) : Int)) hx (k + 1) dX7_changes_25 (hT.kl (by omega)) (by omega) (hT.ll (by omega) (by omega)) (hN.ln (by omega) (by omega)) ?_
  refine J_iast hx k dX7_changes_26 (hT.kl (by omega)) (by omega) (hT.ll (by omega) (by omega)) ?_
  generalize eM1 : up2 M (r + 23 + c) k (((A.ch c).getD (k + 1) 0 : Nat) : Int) = M1
  have hM1a : M1 (r + 23 + c) k = (((A.ch c).getD (k + 1) 0 : Nat) : Int) := by rw [← eM1]; exact up2_at
  have hM1o : ∀ b9 j9, (b9 ≠ r + 23 + c ∨ j9 ≠ k) → M1 b9 j9 = M b9 j9 := fun b9 j9 h9 => by rw [← eM1]; exact up2_ne h9
  have hM1r : ∀ b9, b9 ≠ r + 23 + c → M1 b9 = M b9 := fun b9 h9 => by rw [← eM1]; exact up2_row h9
  refine J_aload_n hx dX7_changes_27 (i := 0) rfl rfl ?_
  refine J_getR (b := r + 22) hx fl_X7_54 cl_X7 dX7_changes_28 hT.o (by decide) rfl hT.r15 ?_
  refine J_iload_n hx dX7_changes_31 (i := 1) rfl rfl ?_
  refine J_aald (b := r + 23 + c) hx c dX7_changes_32 hT.k22 (by decide) (by omega) (hT.l22 (by omega)) (hT.f22 (by omega)) ?_
  refine J_iload_n hx dX7_changes_33 (i := 2) rfl rfl ?_
  refine J_iconst (v := 1) hx dX7_changes_34 (by decide) ?_
  refine J_iadd (v := ((k : Nat) : Int) + 1) hx dX7_changes_35 (w32_id (by omega) (by omega)) ?_
  refine J_iload_n hx dX7_changes_36 (i := 3) rfl rfl ?_
  refine J_iast hx (k + 1) dX7_changes_37 (hT.kl (by omega)) (by omega) (hT.ll (by omega) (by omega)) ?_
  generalize eM2 : up2 M1 (r + 23 + c) (k + 1) (((A.ch c).getD k 0 : Nat) : Int) = M2
  have hM2a : M2 (r + 23 + c) (k + 1) = (((A.ch c).getD k 0 : Nat) : Int) := by rw [← eM2]; exact up2_at
  have hM2o : ∀ b9 j9, (b9 ≠ r + 23 + c ∨ j9 ≠ k + 1) → M2 b9 j9 = M1 b9 j9 := fun b9 j9 h9 => by rw [← eM2]; exact up2_ne h9
  have hM2r : ∀ b9, b9 ≠ r + 23 + c → M2 b9 = M1 b9 := fun b9 h9 => by rw [← eM2]; exact up2_row h9
  refine J_vret hx hr dX7_changes_38 ?_
  refine hQ M2 (hN.setC hc (fun j hj => ?_) ?_ ?_ (fun a h1 h2 => by rw [hM2r a h1, hM1r a h1])) (fun a i h1 h2 => by rw [hM2r a (by omega), hM1r a (by omega)])
  · rw [swpL_len] at hj
    rw [swpL_getD hk]
    by_cases e : j = k + 1
    · subst e; rw [if_neg (by omega), if_pos rfl, hM2a]
    · rw [hM2o _ _ (Or.inr e)]
      by_cases e2 : j = k
      · subst e2; rw [if_pos rfl, hM1a]
      · rw [if_neg e2, if_neg e, hM1o _ _ (Or.inr e2)]; exact hN.ln hc hj
  · rw [hM2r _ (by omega), hM1r _ (by omega), swpL_len]; exact hN.sz hc
  · rw [hM2r _ (by omega), hM1r _ (by omega)]

set_option maxHeartbeats 4000000 in
theorem c_X7_below {g : WG} {d : Nat} {T : TT} {M : MM} {r sz : Nat} {A : YA} {Q : MVal → TT → MM → Nat → Prop} (hT : MT T r) (hN : MN M r A) {n : Int} (hn : 1 ≤ n) (hQ : ∀ M', MN M' r (drawn A) → FrN r M M' → Q (vI (drwS (nxtS (A.sc 7)) n)) T M' sz) : Ct g (d + 1) mX7_below [vR (r), vI (n)] T M sz 0 0 Q := by
  refine Ct_of2 (ls := [vR (r), vI (n)]) okX7_below rfl (Nat.le_of_ble_eq_true rfl) rfl ?_
  intro x hx hr hnm
  refine J_aload_n hx dX7_below_0 (i := 0) rfl rfl ?_
  refine J_aload_n hx dX7_below_1 (i := 0) rfl rfl ?_
  refine J_getI2 (v := A.sc 7) hx fl_X7_70 cl_X7 dX7_below_2 hT.o (by decide) rfl hN.s7 ?_
  refine J_ldcw (v := 1103515245) hx ct_X7_353 dX7_below_5 (by decide) ?_
  refine J_imul (v := w32 (A.sc 7 * 1103515245)) hx dX7_below_8 rfl ?_
  refine J_sipush (v := 12345) hx dX7_below_9 (by decide) ?_
  refine J_iadd (v := nxtS (A.sc 7)) hx dX7_below_12 rfl ?_
  refine J_putI hx fl_X7_70 cl_X7 dX7_below_13 hT.o (by decide) rfl (Or.inl rfl) (by decide) ?_
  have hN1 : MN (up2 M r 23 (nxtS (A.sc 7))) r (A.setS 7 (nxtS (A.sc 7))) := hN.setS (q := 7) _ (by decide)
  have hF1 : FrN r M (up2 M r 23 (nxtS (A.sc 7))) := (FrN.rf (r := r) (M := M)).up (Or.inr (by omega)) _
  generalize eM1 : up2 M r 23 (nxtS (A.sc 7)) = M1 at hN1 hF1 ⊢
  refine J_aload_n hx dX7_below_16 (i := 0) rfl rfl ?_
  refine J_getI2 (v := nxtS (A.sc 7)) hx fl_X7_70 cl_X7 dX7_below_17 hT.o (by decide) rfl (hN1.s7) ?_
  refine J_bipush (v := 16) hx dX7_below_20 (by decide) ?_
  refine J_iushr (v := jushr (nxtS (A.sc 7)) 16) hx dX7_below_22 rfl ?_
  refine J_iload_n hx dX7_below_23 (i := 1) rfl rfl ?_
  refine J_irem (v := drwS (nxtS (A.sc 7)) n) hx dX7_below_24 (by omega) rfl ?_
  refine J_iret hx hr dX7_below_25 ?_
  exact hQ _ hN1 hF1

set_option maxHeartbeats 4000000 in
theorem c_X7_goesRun {g : WG} {d : Nat} {T : TT} {M : MM} {r sz : Nat} {A : YA} {Q : MVal → TT → MM → Nat → Prop} (hT : MT T r) (hN : MN M r A) (hW : WFY A) {p j sd : Nat} (hp : p < A.n) (hc : A.co p ≠ A.tn) (hj : j + 1 < (A.ch A.tn).length) (ho : ¬ overY A) (hsd : sd < 2) (hQ1 : tornY A p j → ∀ M', MN M' r (runT (drawn A) p j (takenY A j sd)) → FrN r M M' → Q (vI 1) T M' sz) (hQ0 : ¬ tornY A p j → ∀ M', MN M' r (runH (drawn A) p j) → FrN r M M' → Q (vI 0) T M' sz) : Ct g (d + 3) mX7_goesRun [vR (r), vI (((p : Nat) : Int)), vI (((j : Nat) : Int)), vI (((sd : Nat) : Int))] T M sz 0 0 Q := by
  refine Ct_of2 (ls := [vR (r), vI (((p : Nat) : Int)), vI (((j : Nat) : Int)), vI (((sd : Nat) : Int)), vU]) okX7_goesRun rfl (Nat.le_of_ble_eq_true rfl) rfl ?_
  intro x hx hr hnm
  have hn8 := hW.n8
  have ht2 := hW.tn2
  refine J_aload_n hx dX7_goesRun_0 (i := 0) rfl rfl ?_
  refine J_iload_n hx dX7_goesRun_1 (i := 1) rfl rfl ?_
  refine J_invV (As := [vI (((p : Nat) : Int))]) (st := []) hx lk_X7_126 okX7_force dX7_goesRun_2 hT.o (by decide) rfl rfl rfl (Nat.le_of_ble_eq_true rfl) (Nat.zero_add _).symm (Nat.zero_add _).symm rfl (c_X7_force hT hN hW (p := p) (by omega) ?_)
  have rg1 := force_rg hW (p := p) (by omega)
  refine J_aload_n hx dX7_goesRun_5 (i := 0) rfl rfl ?_
  refine J_aload_n hx dX7_goesRun_6 (i := 0) rfl rfl ?_
  refine J_getI2 (v := A.sc 2) hx fl_X7_64 cl_X7 dX7_goesRun_7 hT.o (by decide) rfl hN.s2 ?_
  have rg2 := hW.s2
  refine J_invV (As := [vI (A.sc 2)]) (st := [vI (force A p)]) hx lk_X7_354 okX7_below dX7_goesRun_10 hT.o (by decide) rfl rfl rfl (Nat.le_of_ble_eq_true rfl) (Nat.zero_add _).symm (Nat.zero_add _).symm rfl (c_X7_below hT hN (by omega) ?_)
  intro M1 hN1 hf1
  have hW1 := drawn_wf hW
  have rgd := drwS_rg (nxtS (A.sc 7)) (n := A.sc 2) (by omega)
  have rgt := hW1.tn2
  have rgl := hW1.len8 rgt
  have hj1 : j + 1 < ((drawn A).ch (drawn A).tn).length := hj
  refine J_iadd (v := force A p + (drwS (nxtS (A.sc 7)) (A.sc 2))) hx dX7_goesRun_13 (w32_id (by omega) (by omega)) ?_
  refine J_aload_n hx dX7_goesRun_14 (i := 0) rfl rfl ?_
  refine J_aload_n hx dX7_goesRun_15 (i := 0) rfl rfl ?_
  refine J_getR (b := r + 22) hx fl_X7_54 cl_X7 dX7_goesRun_16 hT.o (by decide) rfl hT.r15 ?_
  refine J_aload_n hx dX7_goesRun_19 (i := 0) rfl rfl ?_
  refine J_getI2 (v := (((drawn A).tn : Nat) : Int)) hx fl_X7_148 cl_X7 dX7_goesRun_20 hT.o (by decide) rfl (hN1.tn hW1) ?_
  have rg3 := hW1.tn2
  refine J_aald (b := r + 23 + ((drawn A).tn)) hx ((drawn A).tn) dX7_goesRun_23 hT.k22 (by decide) (by omega) (hT.l22 (by omega)) (hT.f22 (by omega)) ?_
  refine J_aload_n hx dX7_goesRun_24 (i := 0) rfl rfl ?_
  refine J_getR (b := r + 25) hx fl_X7_57 cl_X7 dX7_goesRun_25 hT.o (by decide) rfl hT.r16 ?_
  refine J_aload_n hx dX7_goesRun_28 (i := 0) rfl rfl ?_
  refine J_getI2 (v := (((drawn A).tn : Nat) : Int)) hx fl_X7_148 cl_X7 dX7_goesRun_29 hT.o (by decide) rfl (hN1.tn hW1) ?_
  have rg4 := hW1.tn2
  refine J_iald2 (v := ((((drawn A).ch ((drawn A).tn)).length : Nat) : Int)) hx ((drawn A).tn) dX7_goesRun_32 hT.k25 (by omega) (hT.l25 (by omega)) (hN1.sz (by omega)) ?_
  have rg5 := hW1.len8 (c := (drawn A).tn) (by omega)
  have rg6 := hW1.lenN (c := (drawn A).tn) (by omega)
  refine J_iload_n hx dX7_goesRun_33 (i := 2) rfl rfl ?_
  refine J_invV (As := [vR (r + 23 + ((drawn A).tn)), vI (((((drawn A).ch ((drawn A).tn)).length : Nat) : Int)), vI (((j : Nat) : Int))]) (st := [vI (force A p + (drwS (nxtS (A.sc 7)) (A.sc 2)))]) hx lk_X7_266 okX7_strengthOf dX7_goesRun_34 hT.o (by decide) rfl rfl rfl (Nat.le_of_ble_eq_true rfl) (Nat.zero_add _).symm (Nat.zero_add _).symm rfl (c_X7_strengthOf hT hN1 hW1 (l := (drawn A).ch ((drawn A).tn)) (q := r + 23 + ((drawn A).tn)) (hT.kl (by omega)) (hT.nl (by omega)) (fun k9 h9 => hN1.ln (by omega) h9) (fun p9 h9 => hW1.lt (by omega) h9) (by omega) (j := j) (by omega) ?_)
  have rg7 := strl_rg hW1 (l := (drawn A).ch ((drawn A).tn)) (fun p9 h9 => hW1.lt (by omega) h9) (j := j) (by omega)
  refine J_icmp_le (tgt := 44) hx dX7_goesRun_37 (by decide) (fun c8 => ?_) (fun c8 => ?_)
  · refine J_iconst (v := 0) hx dX7_goesRun_44 (by decide) ?_
    refine J_istore (lsn := [vR (r), vI (((p : Nat) : Int)), vI (((j : Nat) : Int)), vI (((sd : Nat) : Int)), vI (0)]) hx dX7_goesRun_45 (Nat.le_of_ble_eq_true rfl) rfl rfl ?_
    refine J_iload hx dX7_goesRun_47 rfl ?_
    refine J_if_eq (tgt := 62) hx dX7_goesRun_49 (by decide) (fun _ => ?_) (fun c9 => absurd c9 (by decide))
    refine J_aload_n hx dX7_goesRun_62 (i := 0) rfl rfl ?_
    refine J_iload_n hx dX7_goesRun_63 (i := 1) rfl rfl ?_
    refine J_iload_n hx dX7_goesRun_64 (i := 2) rfl rfl ?_
    refine J_invVv (As := [vI (((p : Nat) : Int)), vI (((j : Nat) : Int))]) (st := []) hx lk_X7_219 okX7_runsHeld dX7_goesRun_65 hT.o (by decide) rfl rfl rfl (Nat.le_of_ble_eq_true rfl) (Nat.zero_add _).symm (Nat.zero_add _).symm rfl (c_X7_runsHeld hT hN1 hW1 (p := p) (j := j) hp hc hj ho ?_)
    intro M2 hN2 hf2
    refine J_iload hx dX7_goesRun_68 rfl ?_
    refine J_zret hx hr dX7_goesRun_70 (by omega) ?_
    exact hQ0 (by unfold tornY; show ¬ strl (drawn A) ((drawn A).ch (drawn A).tn) j < force A p + _; omega) M2 hN2 (hf1.tr hf2)
  · refine J_iconst (v := 1) hx dX7_goesRun_40 (by decide) ?_
    refine J_goto (tgt := 45) hx dX7_goesRun_41 (by decide) ?_
    refine J_istore (lsn := [vR (r), vI (((p : Nat) : Int)), vI (((j : Nat) : Int)), vI (((sd : Nat) : Int)), vI (1)]) hx dX7_goesRun_45 (Nat.le_of_ble_eq_true rfl) rfl rfl ?_
    refine J_iload hx dX7_goesRun_47 rfl ?_
    refine J_if_eq (tgt := 62) hx dX7_goesRun_49 (by decide) (fun c9 => absurd c9 (by decide)) (fun _ => ?_)
    refine J_aload_n hx dX7_goesRun_52 (i := 0) rfl rfl ?_
    refine J_iload_n hx dX7_goesRun_53 (i := 1) rfl rfl ?_
    refine J_iload_n hx dX7_goesRun_54 (i := 2) rfl rfl ?_
    refine J_iload_n hx dX7_goesRun_55 (i := 3) rfl rfl ?_
    refine J_invVv (As := [vI (((p : Nat) : Int)), vI (((j : Nat) : Int)), vI (((sd : Nat) : Int))]) (st := []) hx lk_X7_214 okX7_runsTorn dX7_goesRun_56 hT.o (by decide) rfl rfl rfl (Nat.le_of_ble_eq_true rfl) (Nat.zero_add _).symm (Nat.zero_add _).symm rfl (c_X7_runsTorn hT hN1 hW1 (p := p) (j := j) (sd := sd) hp hc hj ho hsd ?_)
    intro M2 hN2 hf2
    refine J_goto (tgt := 68) hx dX7_goesRun_59 (by decide) ?_
    refine J_iload hx dX7_goesRun_68 rfl ?_
    refine J_zret hx hr dX7_goesRun_70 (by omega) ?_
    exact hQ1 (by unfold tornY; show strl (drawn A) ((drawn A).ch (drawn A).tn) j < force A p + _; omega) M2 hN2 (hf1.tr hf2)

set_option maxHeartbeats 4000000 in
theorem c_X7_plays {g : WG} {d : Nat} {T : TT} {M : MM} {r sz : Nat} {A : YA} {Q : MVal → TT → MM → Nat → Prop} (hT : MT T r) (hN : MN M r A) (hW : WFY A) {rule : Int} (hrule : rule = 0 ∨ rule = 1) (ho : ¬ overY A) (hQ : ∀ M', MN M' r (playY A rule) → FrN r M M' → Q vU T M' sz) : Ct g (d + 6) mX7_plays [vR (r), vI (rule)] T M sz 0 0 Q := by
  refine Ct_of2 (ls := [vR (r), vI (rule), vU, vU]) okX7_plays rfl (Nat.le_of_ble_eq_true rfl) rfl ?_
  intro x hx hr hnm
  have hnv := not_over2 hW ho
  have hn8 := hW.n8
  have hl8 := hW.len8 hW.tn2
  obtain ⟨p, ew, hp, hc⟩ := who_some hW ho rule
  refine J_aload_n hx dX7_plays_0 (i := 0) rfl rfl ?_
  refine J_iload_n hx dX7_plays_1 (i := 1) rfl rfl ?_
  refine J_invV (As := [vI (rule)]) (st := []) hx lk_X7_286 okX7_callBy dX7_plays_2 hT.o (by decide) rfl rfl rfl (Nat.le_of_ble_eq_true rfl) (Nat.zero_add _).symm (Nat.zero_add _).symm rfl (c_X7_callBy hT hN hW (rule := rule) hrule hnv.1 ?_)
  rw [ew]
  refine J_istore_n (lsn := [vR (r), vI (rule), vI (((p : Nat) : Int)), vU]) hx dX7_plays_5 (i := 2) rfl (Nat.le_of_ble_eq_true rfl) rfl rfl ?_
  refine J_aload_n hx dX7_plays_6 (i := 0) rfl rfl ?_
  refine J_iload_n hx dX7_plays_7 (i := 2) rfl rfl ?_
  refine J_invV (As := [vI (((p : Nat) : Int))]) (st := []) hx lk_X7_280 okX7_atOf dX7_plays_8 hT.o (by decide) rfl rfl rfl (Nat.le_of_ble_eq_true rfl) (Nat.zero_add _).symm (Nat.zero_add _).symm rfl (c_X7_atOf hT hN hW (p := p) hp hnv.1 ?_)
  have hj := atY_lt (A := A) hnv.1 p
  refine J_istore_n (lsn := [vR (r), vI (rule), vI (((p : Nat) : Int)), vI (((atY A p : Nat) : Int))]) hx dX7_plays_11 (i := 3) rfl (Nat.le_of_ble_eq_true rfl) rfl rfl ?_
  refine J_aload_n hx dX7_plays_12 (i := 0) rfl rfl ?_
  refine J_iload_n hx dX7_plays_13 (i := 2) rfl rfl ?_
  refine J_iload_n hx dX7_plays_14 (i := 3) rfl rfl ?_
  refine J_invV (As := [vI (((p : Nat) : Int)), vI (((atY A p : Nat) : Int))]) (st := []) hx lk_X7_211 okX7_oddsOf dX7_plays_15 hT.o (by decide) rfl rfl rfl (Nat.le_of_ble_eq_true rfl) (Nat.zero_add _).symm (Nat.zero_add _).symm rfl (c_X7_oddsOf hT hN hW (p := p) (by omega) (j := atY A p) (by omega) ?_)
  have rg1 : 0 ≤ oddsY A p (atY A p) ∧ oddsY A p (atY A p) ≤ 1000000 := oddsB_rg hW _ _
  refine J_ldcw (v := 500000) hx ct_X7_304 dX7_plays_18 (by decide) ?_
  refine J_icmp_lt (tgt := 38) hx dX7_plays_21 (by decide) (fun c2 => ?_) (fun c2 => ?_)
  · refine J_aload_n hx dX7_plays_38 (i := 0) rfl rfl ?_
    refine J_iload_n hx dX7_plays_39 (i := 2) rfl rfl ?_
    refine J_iload_n hx dX7_plays_40 (i := 3) rfl rfl ?_
    refine J_invVv (As := [vI (((p : Nat) : Int)), vI (((atY A p : Nat) : Int))]) (st := []) hx lk_X7_219 okX7_runsHeld dX7_plays_41 hT.o (by decide) rfl rfl rfl (Nat.le_of_ble_eq_true rfl) (Nat.zero_add _).symm (Nat.zero_add _).symm rfl (c_X7_runsHeld hT hN hW (p := p) (j := atY A p) hp hc hj ho ?_)
    intro M2 hN2 hf2
    refine J_vret hx hr dX7_plays_44 ?_
    refine hQ M2 ?_ hf2
    unfold playY
    rw [ew]
    simp only [Int.toNat_natCast]
    first
    | (rw [if_pos (by omega)]; exact hN2)
    | (rw [if_neg (by omega)]; exact hN2)
  · refine J_aload_n hx dX7_plays_24 (i := 0) rfl rfl ?_
    refine J_iload_n hx dX7_plays_25 (i := 2) rfl rfl ?_
    refine J_iload_n hx dX7_plays_26 (i := 3) rfl rfl ?_
    refine J_aload_n hx dX7_plays_27 (i := 0) rfl rfl ?_
    refine J_iload_n hx dX7_plays_28 (i := 3) rfl rfl ?_
    refine J_invV (As := [vI (((atY A p : Nat) : Int))]) (st := [vI (((atY A p : Nat) : Int)), vI (((p : Nat) : Int)), vR (r)]) hx lk_X7_283 okX7_takeAt dX7_plays_29 hT.o (by decide) rfl rfl rfl (Nat.le_of_ble_eq_true rfl) (Nat.zero_add _).symm (Nat.zero_add _).symm rfl (c_X7_takeAt hT hN hW (j := atY A p) (by omega) ?_)
    have rg3 := sidY_lt A (atY A p)
    refine J_invVv (As := [vI (((p : Nat) : Int)), vI (((atY A p : Nat) : Int)), vI (((sidY A (atY A p) : Nat) : Int))]) (st := []) hx lk_X7_214 okX7_runsTorn dX7_plays_32 hT.o (by decide) rfl rfl rfl (Nat.le_of_ble_eq_true rfl) (Nat.zero_add _).symm (Nat.zero_add _).symm rfl (c_X7_runsTorn hT hN hW (p := p) (j := atY A p) (sd := sidY A (atY A p)) hp hc hj ho (sidY_lt A _) ?_)
    intro M2 hN2 hf2
    refine J_goto (tgt := 44) hx dX7_plays_35 (by decide) ?_
    refine J_vret hx hr dX7_plays_44 ?_
    refine hQ M2 ?_ hf2
    unfold playY
    rw [ew]
    simp only [Int.toNat_natCast]
    first
    | (rw [if_pos (by omega)]; exact hN2)
    | (rw [if_neg (by omega)]; exact hN2)

set_option maxHeartbeats 4000000 in
theorem c_X7_addOne {g : WG} {d : Nat} {T : TT} {M : MM} {r sz : Nat} {A : YA} {Q : MVal → TT → MM → Nat → Prop} (hT : MT T r) (hN : MN M r A) (hW : WFY A) {c : Nat} {kd gr w a : Int} (hc : c < 2) (hn7 : A.n < 8) (hQ : ∀ M', MN M' r (addY A c kd gr w a) → FrN r M M' → Q vU T M' sz) : Ct g (d + 1) mX7_addOne [vR (r), vI (((c : Nat) : Int)), vI (kd), vI (gr), vI (w), vI (a)] T M sz 0 0 Q := by
  refine Ct_of2 (ls := [vR (r), vI (((c : Nat) : Int)), vI (kd), vI (gr), vI (w), vI (a)]) okX7_addOne rfl (Nat.le_of_ble_eq_true rfl) rfl ?_
  intro x hx hr hnm
  have hl8 := hW.len8 hc
  have hlN := hW.lenN hc
  refine J_aload_n hx dX7_addOne_0 (i := 0) rfl rfl ?_
  refine J_getR (b := r + 17) hx fl_X7_37 cl_X7 dX7_addOne_1 hT.o (by decide) rfl hT.r10 ?_
  refine J_aload_n hx dX7_addOne_4 (i := 0) rfl rfl ?_
  refine J_getI2 (v := ((A.n : Nat) : Int)) hx fl_X7_82 cl_X7 dX7_addOne_5 hT.o (by decide) rfl (by exact hN.pp) ?_
  refine J_iload_n hx dX7_addOne_8 (i := 2) rfl rfl ?_
  refine J_iast hx A.n dX7_addOne_9 hT.k17 (by omega) (hT.l17 (by omega)) ?_
  generalize eM1 : up2 M (r + 17) A.n kd = M1
  have hM1a : M1 (r + 17) A.n = kd := by rw [← eM1]; exact up2_at
  have hM1o : ∀ b9 j9, (b9 ≠ r + 17 ∨ j9 ≠ A.n) → M1 b9 j9 = M b9 j9 := fun b9 j9 h9 => by rw [← eM1]; exact up2_ne h9
  have hM1r : ∀ b9, b9 ≠ r + 17 → M1 b9 = M b9 := fun b9 h9 => by rw [← eM1]; exact up2_row h9
  refine J_aload_n hx dX7_addOne_10 (i := 0) rfl rfl ?_
  refine J_getR (b := r + 18) hx fl_X7_40 cl_X7 dX7_addOne_11 hT.o (by decide) rfl hT.r11 ?_
  refine J_aload_n hx dX7_addOne_14 (i := 0) rfl rfl ?_
  refine J_getI2 (v := ((A.n : Nat) : Int)) hx fl_X7_82 cl_X7 dX7_addOne_15 hT.o (by decide) rfl (by rw [hM1r _ (by omega)]; exact hN.pp) ?_
  refine J_iload_n hx dX7_addOne_18 (i := 3) rfl rfl ?_
  refine J_iast hx A.n dX7_addOne_19 hT.k18 (by omega) (hT.l18 (by omega)) ?_
  generalize eM2 : up2 M1 (r + 18) A.n gr = M2
  have hM2a : M2 (r + 18) A.n = gr := by rw [← eM2]; exact up2_at
  have hM2o : ∀ b9 j9, (b9 ≠ r + 18 ∨ j9 ≠ A.n) → M2 b9 j9 = M1 b9 j9 := fun b9 j9 h9 => by rw [← eM2]; exact up2_ne h9
  have hM2r : ∀ b9, b9 ≠ r + 18 → M2 b9 = M1 b9 := fun b9 h9 => by rw [← eM2]; exact up2_row h9
  refine J_aload_n hx dX7_addOne_20 (i := 0) rfl rfl ?_
  refine J_getR (b := r + 19) hx fl_X7_43 cl_X7 dX7_addOne_21 hT.o (by decide) rfl hT.r12 ?_
  refine J_aload_n hx dX7_addOne_24 (i := 0) rfl rfl ?_
  refine J_getI2 (v := ((A.n : Nat) : Int)) hx fl_X7_82 cl_X7 dX7_addOne_25 hT.o (by decide) rfl (by rw [hM2r _ (by omega), hM1r _ (by omega)]; exact hN.pp) ?_
  refine J_iload hx dX7_addOne_28 rfl ?_
  refine J_iast hx A.n dX7_addOne_30 hT.k19 (by omega) (hT.l19 (by omega)) ?_
  generalize eM3 : up2 M2 (r + 19) A.n w = M3
  have hM3a : M3 (r + 19) A.n = w := by rw [← eM3]; exact up2_at
  have hM3o : ∀ b9 j9, (b9 ≠ r + 19 ∨ j9 ≠ A.n) → M3 b9 j9 = M2 b9 j9 := fun b9 j9 h9 => by rw [← eM3]; exact up2_ne h9
  have hM3r : ∀ b9, b9 ≠ r + 19 → M3 b9 = M2 b9 := fun b9 h9 => by rw [← eM3]; exact up2_row h9
  refine J_aload_n hx dX7_addOne_31 (i := 0) rfl rfl ?_
  refine J_getR (b := r + 20) hx fl_X7_46 cl_X7 dX7_addOne_32 hT.o (by decide) rfl hT.r13 ?_
  refine J_aload_n hx dX7_addOne_35 (i := 0) rfl rfl ?_
  refine J_getI2 (v := ((A.n : Nat) : Int)) hx fl_X7_82 cl_X7 dX7_addOne_36 hT.o (by decide) rfl (by rw [hM3r _ (by omega), hM2r _ (by omega), hM1r _ (by omega)]; exact hN.pp) ?_
  refine J_iconst (v := 0) hx dX7_addOne_39 (by decide) ?_
  refine J_iast hx A.n dX7_addOne_40 hT.k20 (by omega) (hT.l20 (by omega)) ?_
  generalize eM4 : up2 M3 (r + 20) A.n 0 = M4
  have hM4a : M4 (r + 20) A.n = 0 := by rw [← eM4]; exact up2_at
  have hM4o : ∀ b9 j9, (b9 ≠ r + 20 ∨ j9 ≠ A.n) → M4 b9 j9 = M3 b9 j9 := fun b9 j9 h9 => by rw [← eM4]; exact up2_ne h9
  have hM4r : ∀ b9, b9 ≠ r + 20 → M4 b9 = M3 b9 := fun b9 h9 => by rw [← eM4]; exact up2_row h9
  refine J_aload_n hx dX7_addOne_41 (i := 0) rfl rfl ?_
  refine J_getR (b := r + 21) hx fl_X7_49 cl_X7 dX7_addOne_42 hT.o (by decide) rfl hT.r14 ?_
  refine J_aload_n hx dX7_addOne_45 (i := 0) rfl rfl ?_
  refine J_getI2 (v := ((A.n : Nat) : Int)) hx fl_X7_82 cl_X7 dX7_addOne_46 hT.o (by decide) rfl (by rw [hM4r _ (by omega), hM3r _ (by omega), hM2r _ (by omega), hM1r _ (by omega)]; exact hN.pp) ?_
  refine J_iload hx dX7_addOne_49 rfl ?_
  refine J_iast hx A.n dX7_addOne_51 hT.k21 (by omega) (hT.l21 (by omega)) ?_
  generalize eM5 : up2 M4 (r + 21) A.n a = M5
  have hM5a : M5 (r + 21) A.n = a := by rw [← eM5]; exact up2_at
  have hM5o : ∀ b9 j9, (b9 ≠ r + 21 ∨ j9 ≠ A.n) → M5 b9 j9 = M4 b9 j9 := fun b9 j9 h9 => by rw [← eM5]; exact up2_ne h9
  have hM5r : ∀ b9, b9 ≠ r + 21 → M5 b9 = M4 b9 := fun b9 h9 => by rw [← eM5]; exact up2_row h9
  refine J_aload_n hx dX7_addOne_52 (i := 0) rfl rfl ?_
  refine J_getR (b := r + 22) hx fl_X7_54 cl_X7 dX7_addOne_53 hT.o (by decide) rfl hT.r15 ?_
  refine J_iload_n hx dX7_addOne_56 (i := 1) rfl rfl ?_
  refine J_aald (b := r + 23 + c) hx c dX7_addOne_57 hT.k22 (by decide) (by omega) (hT.l22 (by omega)) (hT.f22 (by omega)) ?_
  refine J_aload_n hx dX7_addOne_58 (i := 0) rfl rfl ?_
  refine J_getR (b := r + 25) hx fl_X7_57 cl_X7 dX7_addOne_59 hT.o (by decide) rfl hT.r16 ?_
  refine J_iload_n hx dX7_addOne_62 (i := 1) rfl rfl ?_
  refine J_dup2 hx dX7_addOne_63 rfl rfl ?_
  refine J_iald2 (v := (((A.ch c).length : Nat) : Int)) hx c dX7_addOne_64 hT.k25 (by omega) (hT.l25 (by omega)) (by rw [hM5r _ (by omega), hM4r _ (by omega), hM3r _ (by omega), hM2r _ (by omega), hM1r _ (by omega)]; exact hN.sz hc) ?_
  refine J_dup_x2 hx dX7_addOne_65 rfl rfl rfl ?_
  refine J_iconst (v := 1) hx dX7_addOne_66 (by decide) ?_
  refine J_iadd (v := (((A.ch c).length : Nat) : Int) + 1) hx dX7_addOne_67 (w32_id (by omega) (by omega)) ?_
  refine J_iast hx c dX7_addOne_68 hT.k25 (by omega) (hT.l25 (by omega)) ?_
  generalize eM6 : up2 M5 (r + 25) c ((((A.ch c).length : Nat) : Int) + 1) = M6
  have hM6a : M6 (r + 25) c = (((A.ch c).length : Nat) : Int) + 1 := by rw [← eM6]; exact up2_at
  have hM6o : ∀ b9 j9, (b9 ≠ r + 25 ∨ j9 ≠ c) → M6 b9 j9 = M5 b9 j9 := fun b9 j9 h9 => by rw [← eM6]; exact up2_ne h9
  have hM6r : ∀ b9, b9 ≠ r + 25 → M6 b9 = M5 b9 := fun b9 h9 => by rw [← eM6]; exact up2_row h9
  refine J_aload_n hx dX7_addOne_69 (i := 0) rfl rfl ?_
  refine J_getI2 (v := ((A.n : Nat) : Int)) hx fl_X7_82 cl_X7 dX7_addOne_70 hT.o (by decide) rfl (by rw [hM6r _ (by omega), hM5r _ (by omega), hM4r _ (by omega), hM3r _ (by omega), hM2r _ (by omega), hM1r _ (by omega)]; exact hN.pp) ?_
  refine J_iast hx ((A.ch c).length) dX7_addOne_73 (hT.kl (by omega)) (by omega) (hT.ll (by omega) (by omega)) ?_
  generalize eM7 : up2 M6 (r + 23 + c) ((A.ch c).length) ((A.n : Nat) : Int) = M7
  have hM7a : M7 (r + 23 + c) ((A.ch c).length) = ((A.n : Nat) : Int) := by rw [← eM7]; exact up2_at
  have hM7o : ∀ b9 j9, (b9 ≠ r + 23 + c ∨ j9 ≠ (A.ch c).length) → M7 b9 j9 = M6 b9 j9 := fun b9 j9 h9 => by rw [← eM7]; exact up2_ne h9
  have hM7r : ∀ b9, b9 ≠ r + 23 + c → M7 b9 = M6 b9 := fun b9 h9 => by rw [← eM7]; exact up2_row h9
  refine J_aload_n hx dX7_addOne_74 (i := 0) rfl rfl ?_
  refine J_dup hx dX7_addOne_75 rfl ?_
  refine J_getI2 (v := ((A.n : Nat) : Int)) hx fl_X7_82 cl_X7 dX7_addOne_76 hT.o (by decide) rfl (by rw [hM7r _ (by omega), hM6r _ (by omega), hM5r _ (by omega), hM4r _ (by omega), hM3r _ (by omega), hM2r _ (by omega), hM1r _ (by omega)]; exact hN.pp) ?_
  refine J_iconst (v := 1) hx dX7_addOne_79 (by decide) ?_
  refine J_iadd (v := ((A.n : Nat) : Int) + 1) hx dX7_addOne_80 (w32_id (by omega) (by omega)) ?_
  refine J_putI hx fl_X7_82 cl_X7 dX7_addOne_81 hT.o (by decide) rfl (Or.inl rfl) (by decide) ?_
  generalize eM8 : up2 M7 r 9 (((A.n : Nat) : Int) + 1) = M8
  have hM8a : M8 r 9 = ((A.n : Nat) : Int) + 1 := by rw [← eM8]; exact up2_at
  have hM8o : ∀ b9 j9, (b9 ≠ r ∨ j9 ≠ 9) → M8 b9 j9 = M7 b9 j9 := fun b9 j9 h9 => by rw [← eM8]; exact up2_ne h9
  have hM8r : ∀ b9, b9 ≠ r → M8 b9 = M7 b9 := fun b9 h9 => by rw [← eM8]; exact up2_row h9
  refine J_vret hx hr dX7_addOne_84 ?_
  exact hQ M8 (hN.addN hW hc eM1 eM2 eM3 eM4 eM5 eM6 eM7 eM8) (fun a9 i9 h1 h2 => by rw [hM8o _ _ (by omega), hM7r _ (by omega), hM6r _ (by omega), hM5r _ (by omega), hM4r _ (by omega), hM3r _ (by omega), hM2r _ (by omega), hM1r _ (by omega)])

set_option maxHeartbeats 4000000 in
theorem c_X7_becomes_0 {g : WG} {d : Nat} {T : TT} {M : MM} {r sz : Nat} {A : YA} {Q : MVal → TT → MM → Nat → Prop} (hT : MT T r) (hN : MN M r A) {v : Int} (hQ : ∀ M', MN M' r (A.setS 1 v) → FrN r M M' → Q vU T M' sz) : Ct g (d + 1) mX7_becomes [vR (r), vI (0), vI (v)] T M sz 0 0 Q := by
  refine Ct_of2 (ls := [vR (r), vI (0), vI (v)]) okX7_becomes rfl (Nat.le_of_ble_eq_true rfl) rfl ?_
  intro x hx hr hnm
  refine J_aload_n hx dX7_becomes_0 (i := 0) rfl rfl ?_
  refine J_iload_n hx dX7_becomes_1 (i := 1) rfl rfl ?_
  refine J_if_ne (tgt := 9) hx dX7_becomes_2 (by decide) (fun c9 => absurd c9 (by decide)) (fun _ => ?_)
  refine J_iload_n hx dX7_becomes_5 (i := 2) rfl rfl ?_
  refine J_goto (tgt := 13) hx dX7_becomes_6 (by decide) ?_
  refine J_putI hx fl_X7_60 cl_X7 dX7_becomes_13 hT.o (by decide) rfl (Or.inl rfl) (by decide) ?_
  have hN1 : MN (up2 M r 17 v) r (A.setS 1 v) := hN.setS (q := 1) _ (by decide)
  have hF1 : FrN r M (up2 M r 17 v) := (FrN.rf (r := r) (M := M)).up (Or.inr (by omega)) _
  generalize eM1 : up2 M r 17 v = M1 at hN1 hF1 ⊢
  refine J_aload_n hx dX7_becomes_16 (i := 0) rfl rfl ?_
  refine J_iload_n hx dX7_becomes_17 (i := 1) rfl rfl ?_
  refine J_iconst (v := 1) hx dX7_becomes_18 (by decide) ?_
  refine J_icmp_ne (tgt := 26) hx dX7_becomes_19 (by decide) (fun _ => ?_) (fun c9 => absurd c9 (by decide))
  refine J_aload_n hx dX7_becomes_26 (i := 0) rfl rfl ?_
  refine J_getI2 (v := (A.setS 1 v).sc 2) hx fl_X7_64 cl_X7 dX7_becomes_27 hT.o (by decide) rfl hN1.s2 ?_
  refine J_putI hx fl_X7_64 cl_X7 dX7_becomes_30 hT.o (by decide) rfl (Or.inl rfl) (by decide) ?_
  have hN2 : MN (up2 M1 r 18 ((A.setS 1 v).sc 2)) r ((A.setS 1 v)) := by have h9 := hN1.setS (q := 2) ((A.setS 1 v).sc 2) (by decide); rw [YA.setS_same] at h9; exact h9
  have hF2 : FrN r M (up2 M1 r 18 ((A.setS 1 v).sc 2)) := hF1.up (Or.inr (by omega)) _
  generalize eM2 : up2 M1 r 18 ((A.setS 1 v).sc 2) = M2 at hN2 hF2 ⊢
  refine J_aload_n hx dX7_becomes_33 (i := 0) rfl rfl ?_
  refine J_iload_n hx dX7_becomes_34 (i := 1) rfl rfl ?_
  refine J_iconst (v := 2) hx dX7_becomes_35 (by decide) ?_
  refine J_icmp_ne (tgt := 43) hx dX7_becomes_36 (by decide) (fun _ => ?_) (fun c9 => absurd c9 (by decide))
  refine J_aload_n hx dX7_becomes_43 (i := 0) rfl rfl ?_
  refine J_getI2 (v := ((A.setS 1 v)).sc 3) hx fl_X7_145 cl_X7 dX7_becomes_44 hT.o (by decide) rfl hN2.s3 ?_
  refine J_putI hx fl_X7_145 cl_X7 dX7_becomes_47 hT.o (by decide) rfl (Or.inl rfl) (by decide) ?_
  have hN3 : MN (up2 M2 r 19 (((A.setS 1 v)).sc 3)) r (((A.setS 1 v))) := by have h9 := hN2.setS (q := 3) (((A.setS 1 v)).sc 3) (by decide); rw [YA.setS_same] at h9; exact h9
  have hF3 : FrN r M (up2 M2 r 19 (((A.setS 1 v)).sc 3)) := hF2.up (Or.inr (by omega)) _
  generalize eM3 : up2 M2 r 19 (((A.setS 1 v)).sc 3) = M3 at hN3 hF3 ⊢
  refine J_aload_n hx dX7_becomes_50 (i := 0) rfl rfl ?_
  refine J_iload_n hx dX7_becomes_51 (i := 1) rfl rfl ?_
  refine J_iconst (v := 3) hx dX7_becomes_52 (by decide) ?_
  refine J_icmp_ne (tgt := 60) hx dX7_becomes_53 (by decide) (fun _ => ?_) (fun c9 => absurd c9 (by decide))
  refine J_aload_n hx dX7_becomes_60 (i := 0) rfl rfl ?_
  refine J_getI2 (v := (((A.setS 1 v))).sc 4) hx fl_X7_67 cl_X7 dX7_becomes_61 hT.o (by decide) rfl hN3.s4 ?_
  refine J_putI hx fl_X7_67 cl_X7 dX7_becomes_64 hT.o (by decide) rfl (Or.inl rfl) (by decide) ?_
  have hN4 : MN (up2 M3 r 20 ((((A.setS 1 v))).sc 4)) r ((((A.setS 1 v)))) := by have h9 := hN3.setS (q := 4) ((((A.setS 1 v))).sc 4) (by decide); rw [YA.setS_same] at h9; exact h9
  have hF4 : FrN r M (up2 M3 r 20 ((((A.setS 1 v))).sc 4)) := hF3.up (Or.inr (by omega)) _
  generalize eM4 : up2 M3 r 20 ((((A.setS 1 v))).sc 4) = M4 at hN4 hF4 ⊢
  refine J_aload_n hx dX7_becomes_67 (i := 0) rfl rfl ?_
  refine J_iload_n hx dX7_becomes_68 (i := 1) rfl rfl ?_
  refine J_iconst (v := 4) hx dX7_becomes_69 (by decide) ?_
  refine J_icmp_ne (tgt := 77) hx dX7_becomes_70 (by decide) (fun _ => ?_) (fun c9 => absurd c9 (by decide))
  refine J_aload_n hx dX7_becomes_77 (i := 0) rfl rfl ?_
  refine J_getI2 (v := ((((A.setS 1 v)))).sc 5) hx fl_X7_148 cl_X7 dX7_becomes_78 hT.o (by decide) rfl hN4.s5 ?_
  refine J_putI hx fl_X7_148 cl_X7 dX7_becomes_81 hT.o (by decide) rfl (Or.inl rfl) (by decide) ?_
  have hN5 : MN (up2 M4 r 21 (((((A.setS 1 v)))).sc 5)) r (((((A.setS 1 v))))) := by have h9 := hN4.setS (q := 5) (((((A.setS 1 v)))).sc 5) (by decide); rw [YA.setS_same] at h9; exact h9
  have hF5 : FrN r M (up2 M4 r 21 (((((A.setS 1 v)))).sc 5)) := hF4.up (Or.inr (by omega)) _
  generalize eM5 : up2 M4 r 21 (((((A.setS 1 v)))).sc 5) = M5 at hN5 hF5 ⊢
  refine J_vret hx hr dX7_becomes_84 ?_
  exact hQ _ hN5 hF5

set_option maxHeartbeats 4000000 in
theorem c_X7_becomes_1 {g : WG} {d : Nat} {T : TT} {M : MM} {r sz : Nat} {A : YA} {Q : MVal → TT → MM → Nat → Prop} (hT : MT T r) (hN : MN M r A) {v : Int} (hQ : ∀ M', MN M' r (A.setS 2 v) → FrN r M M' → Q vU T M' sz) : Ct g (d + 1) mX7_becomes [vR (r), vI (1), vI (v)] T M sz 0 0 Q := by
  refine Ct_of2 (ls := [vR (r), vI (1), vI (v)]) okX7_becomes rfl (Nat.le_of_ble_eq_true rfl) rfl ?_
  intro x hx hr hnm
  refine J_aload_n hx dX7_becomes_0 (i := 0) rfl rfl ?_
  refine J_iload_n hx dX7_becomes_1 (i := 1) rfl rfl ?_
  refine J_if_ne (tgt := 9) hx dX7_becomes_2 (by decide) (fun _ => ?_) (fun c9 => absurd c9 (by decide))
  refine J_aload_n hx dX7_becomes_9 (i := 0) rfl rfl ?_
  refine J_getI2 (v := A.sc 1) hx fl_X7_60 cl_X7 dX7_becomes_10 hT.o (by decide) rfl hN.s1 ?_
  refine J_putI hx fl_X7_60 cl_X7 dX7_becomes_13 hT.o (by decide) rfl (Or.inl rfl) (by decide) ?_
  have hN1 : MN (up2 M r 17 (A.sc 1)) r (A) := by have h9 := hN.setS (q := 1) (A.sc 1) (by decide); rw [YA.setS_same] at h9; exact h9
  have hF1 : FrN r M (up2 M r 17 (A.sc 1)) := (FrN.rf (r := r) (M := M)).up (Or.inr (by omega)) _
  generalize eM1 : up2 M r 17 (A.sc 1) = M1 at hN1 hF1 ⊢
  refine J_aload_n hx dX7_becomes_16 (i := 0) rfl rfl ?_
  refine J_iload_n hx dX7_becomes_17 (i := 1) rfl rfl ?_
  refine J_iconst (v := 1) hx dX7_becomes_18 (by decide) ?_
  refine J_icmp_ne (tgt := 26) hx dX7_becomes_19 (by decide) (fun c9 => absurd c9 (by decide)) (fun _ => ?_)
  refine J_iload_n hx dX7_becomes_22 (i := 2) rfl rfl ?_
  refine J_goto (tgt := 30) hx dX7_becomes_23 (by decide) ?_
  refine J_putI hx fl_X7_64 cl_X7 dX7_becomes_30 hT.o (by decide) rfl (Or.inl rfl) (by decide) ?_
  have hN2 : MN (up2 M1 r 18 v) r ((A).setS 2 v) := hN1.setS (q := 2) _ (by decide)
  have hF2 : FrN r M (up2 M1 r 18 v) := hF1.up (Or.inr (by omega)) _
  generalize eM2 : up2 M1 r 18 v = M2 at hN2 hF2 ⊢
  refine J_aload_n hx dX7_becomes_33 (i := 0) rfl rfl ?_
  refine J_iload_n hx dX7_becomes_34 (i := 1) rfl rfl ?_
  refine J_iconst (v := 2) hx dX7_becomes_35 (by decide) ?_
  refine J_icmp_ne (tgt := 43) hx dX7_becomes_36 (by decide) (fun _ => ?_) (fun c9 => absurd c9 (by decide))
  refine J_aload_n hx dX7_becomes_43 (i := 0) rfl rfl ?_
  refine J_getI2 (v := ((A).setS 2 v).sc 3) hx fl_X7_145 cl_X7 dX7_becomes_44 hT.o (by decide) rfl hN2.s3 ?_
  refine J_putI hx fl_X7_145 cl_X7 dX7_becomes_47 hT.o (by decide) rfl (Or.inl rfl) (by decide) ?_
  have hN3 : MN (up2 M2 r 19 (((A).setS 2 v).sc 3)) r (((A).setS 2 v)) := by have h9 := hN2.setS (q := 3) (((A).setS 2 v).sc 3) (by decide); rw [YA.setS_same] at h9; exact h9
  have hF3 : FrN r M (up2 M2 r 19 (((A).setS 2 v).sc 3)) := hF2.up (Or.inr (by omega)) _
  generalize eM3 : up2 M2 r 19 (((A).setS 2 v).sc 3) = M3 at hN3 hF3 ⊢
  refine J_aload_n hx dX7_becomes_50 (i := 0) rfl rfl ?_
  refine J_iload_n hx dX7_becomes_51 (i := 1) rfl rfl ?_
  refine J_iconst (v := 3) hx dX7_becomes_52 (by decide) ?_
  refine J_icmp_ne (tgt := 60) hx dX7_becomes_53 (by decide) (fun _ => ?_) (fun c9 => absurd c9 (by decide))
  refine J_aload_n hx dX7_becomes_60 (i := 0) rfl rfl ?_
  refine J_getI2 (v := (((A).setS 2 v)).sc 4) hx fl_X7_67 cl_X7 dX7_becomes_61 hT.o (by decide) rfl hN3.s4 ?_
  refine J_putI hx fl_X7_67 cl_X7 dX7_becomes_64 hT.o (by decide) rfl (Or.inl rfl) (by decide) ?_
  have hN4 : MN (up2 M3 r 20 ((((A).setS 2 v)).sc 4)) r ((((A).setS 2 v))) := by have h9 := hN3.setS (q := 4) ((((A).setS 2 v)).sc 4) (by decide); rw [YA.setS_same] at h9; exact h9
  have hF4 : FrN r M (up2 M3 r 20 ((((A).setS 2 v)).sc 4)) := hF3.up (Or.inr (by omega)) _
  generalize eM4 : up2 M3 r 20 ((((A).setS 2 v)).sc 4) = M4 at hN4 hF4 ⊢
  refine J_aload_n hx dX7_becomes_67 (i := 0) rfl rfl ?_
  refine J_iload_n hx dX7_becomes_68 (i := 1) rfl rfl ?_
  refine J_iconst (v := 4) hx dX7_becomes_69 (by decide) ?_
  refine J_icmp_ne (tgt := 77) hx dX7_becomes_70 (by decide) (fun _ => ?_) (fun c9 => absurd c9 (by decide))
  refine J_aload_n hx dX7_becomes_77 (i := 0) rfl rfl ?_
  refine J_getI2 (v := ((((A).setS 2 v))).sc 5) hx fl_X7_148 cl_X7 dX7_becomes_78 hT.o (by decide) rfl hN4.s5 ?_
  refine J_putI hx fl_X7_148 cl_X7 dX7_becomes_81 hT.o (by decide) rfl (Or.inl rfl) (by decide) ?_
  have hN5 : MN (up2 M4 r 21 (((((A).setS 2 v))).sc 5)) r (((((A).setS 2 v)))) := by have h9 := hN4.setS (q := 5) (((((A).setS 2 v))).sc 5) (by decide); rw [YA.setS_same] at h9; exact h9
  have hF5 : FrN r M (up2 M4 r 21 (((((A).setS 2 v))).sc 5)) := hF4.up (Or.inr (by omega)) _
  generalize eM5 : up2 M4 r 21 (((((A).setS 2 v))).sc 5) = M5 at hN5 hF5 ⊢
  refine J_vret hx hr dX7_becomes_84 ?_
  exact hQ _ hN5 hF5

set_option maxHeartbeats 4000000 in
theorem c_X7_becomes_2 {g : WG} {d : Nat} {T : TT} {M : MM} {r sz : Nat} {A : YA} {Q : MVal → TT → MM → Nat → Prop} (hT : MT T r) (hN : MN M r A) {v : Int} (hQ : ∀ M', MN M' r (A.setS 3 v) → FrN r M M' → Q vU T M' sz) : Ct g (d + 1) mX7_becomes [vR (r), vI (2), vI (v)] T M sz 0 0 Q := by
  refine Ct_of2 (ls := [vR (r), vI (2), vI (v)]) okX7_becomes rfl (Nat.le_of_ble_eq_true rfl) rfl ?_
  intro x hx hr hnm
  refine J_aload_n hx dX7_becomes_0 (i := 0) rfl rfl ?_
  refine J_iload_n hx dX7_becomes_1 (i := 1) rfl rfl ?_
  refine J_if_ne (tgt := 9) hx dX7_becomes_2 (by decide) (fun _ => ?_) (fun c9 => absurd c9 (by decide))
  refine J_aload_n hx dX7_becomes_9 (i := 0) rfl rfl ?_
  refine J_getI2 (v := A.sc 1) hx fl_X7_60 cl_X7 dX7_becomes_10 hT.o (by decide) rfl hN.s1 ?_
  refine J_putI hx fl_X7_60 cl_X7 dX7_becomes_13 hT.o (by decide) rfl (Or.inl rfl) (by decide) ?_
  have hN1 : MN (up2 M r 17 (A.sc 1)) r (A) := by have h9 := hN.setS (q := 1) (A.sc 1) (by decide); rw [YA.setS_same] at h9; exact h9
  have hF1 : FrN r M (up2 M r 17 (A.sc 1)) := (FrN.rf (r := r) (M := M)).up (Or.inr (by omega)) _
  generalize eM1 : up2 M r 17 (A.sc 1) = M1 at hN1 hF1 ⊢
  refine J_aload_n hx dX7_becomes_16 (i := 0) rfl rfl ?_
  refine J_iload_n hx dX7_becomes_17 (i := 1) rfl rfl ?_
  refine J_iconst (v := 1) hx dX7_becomes_18 (by decide) ?_
  refine J_icmp_ne (tgt := 26) hx dX7_becomes_19 (by decide) (fun _ => ?_) (fun c9 => absurd c9 (by decide))
  refine J_aload_n hx dX7_becomes_26 (i := 0) rfl rfl ?_
  refine J_getI2 (v := (A).sc 2) hx fl_X7_64 cl_X7 dX7_becomes_27 hT.o (by decide) rfl hN1.s2 ?_
  refine J_putI hx fl_X7_64 cl_X7 dX7_becomes_30 hT.o (by decide) rfl (Or.inl rfl) (by decide) ?_
  have hN2 : MN (up2 M1 r 18 ((A).sc 2)) r ((A)) := by have h9 := hN1.setS (q := 2) ((A).sc 2) (by decide); rw [YA.setS_same] at h9; exact h9
  have hF2 : FrN r M (up2 M1 r 18 ((A).sc 2)) := hF1.up (Or.inr (by omega)) _
  generalize eM2 : up2 M1 r 18 ((A).sc 2) = M2 at hN2 hF2 ⊢
  refine J_aload_n hx dX7_becomes_33 (i := 0) rfl rfl ?_
  refine J_iload_n hx dX7_becomes_34 (i := 1) rfl rfl ?_
  refine J_iconst (v := 2) hx dX7_becomes_35 (by decide) ?_
  refine J_icmp_ne (tgt := 43) hx dX7_becomes_36 (by decide) (fun c9 => absurd c9 (by decide)) (fun _ => ?_)
  refine J_iload_n hx dX7_becomes_39 (i := 2) rfl rfl ?_
  refine J_goto (tgt := 47) hx dX7_becomes_40 (by decide) ?_
  refine J_putI hx fl_X7_145 cl_X7 dX7_becomes_47 hT.o (by decide) rfl (Or.inl rfl) (by decide) ?_
  have hN3 : MN (up2 M2 r 19 v) r (((A)).setS 3 v) := hN2.setS (q := 3) _ (by decide)
  have hF3 : FrN r M (up2 M2 r 19 v) := hF2.up (Or.inr (by omega)) _
  generalize eM3 : up2 M2 r 19 v = M3 at hN3 hF3 ⊢
  refine J_aload_n hx dX7_becomes_50 (i := 0) rfl rfl ?_
  refine J_iload_n hx dX7_becomes_51 (i := 1) rfl rfl ?_
  refine J_iconst (v := 3) hx dX7_becomes_52 (by decide) ?_
  refine J_icmp_ne (tgt := 60) hx dX7_becomes_53 (by decide) (fun _ => ?_) (fun c9 => absurd c9 (by decide))
  refine J_aload_n hx dX7_becomes_60 (i := 0) rfl rfl ?_
  refine J_getI2 (v := (((A)).setS 3 v).sc 4) hx fl_X7_67 cl_X7 dX7_becomes_61 hT.o (by decide) rfl hN3.s4 ?_
  refine J_putI hx fl_X7_67 cl_X7 dX7_becomes_64 hT.o (by decide) rfl (Or.inl rfl) (by decide) ?_
  have hN4 : MN (up2 M3 r 20 ((((A)).setS 3 v).sc 4)) r ((((A)).setS 3 v)) := by have h9 := hN3.setS (q := 4) ((((A)).setS 3 v).sc 4) (by decide); rw [YA.setS_same] at h9; exact h9
  have hF4 : FrN r M (up2 M3 r 20 ((((A)).setS 3 v).sc 4)) := hF3.up (Or.inr (by omega)) _
  generalize eM4 : up2 M3 r 20 ((((A)).setS 3 v).sc 4) = M4 at hN4 hF4 ⊢
  refine J_aload_n hx dX7_becomes_67 (i := 0) rfl rfl ?_
  refine J_iload_n hx dX7_becomes_68 (i := 1) rfl rfl ?_
  refine J_iconst (v := 4) hx dX7_becomes_69 (by decide) ?_
  refine J_icmp_ne (tgt := 77) hx dX7_becomes_70 (by decide) (fun _ => ?_) (fun c9 => absurd c9 (by decide))
  refine J_aload_n hx dX7_becomes_77 (i := 0) rfl rfl ?_
  refine J_getI2 (v := ((((A)).setS 3 v)).sc 5) hx fl_X7_148 cl_X7 dX7_becomes_78 hT.o (by decide) rfl hN4.s5 ?_
  refine J_putI hx fl_X7_148 cl_X7 dX7_becomes_81 hT.o (by decide) rfl (Or.inl rfl) (by decide) ?_
  have hN5 : MN (up2 M4 r 21 (((((A)).setS 3 v)).sc 5)) r (((((A)).setS 3 v))) := by have h9 := hN4.setS (q := 5) (((((A)).setS 3 v)).sc 5) (by decide); rw [YA.setS_same] at h9; exact h9
  have hF5 : FrN r M (up2 M4 r 21 (((((A)).setS 3 v)).sc 5)) := hF4.up (Or.inr (by omega)) _
  generalize eM5 : up2 M4 r 21 (((((A)).setS 3 v)).sc 5) = M5 at hN5 hF5 ⊢
  refine J_vret hx hr dX7_becomes_84 ?_
  exact hQ _ hN5 hF5

set_option maxHeartbeats 4000000 in
theorem c_X7_becomes_3 {g : WG} {d : Nat} {T : TT} {M : MM} {r sz : Nat} {A : YA} {Q : MVal → TT → MM → Nat → Prop} (hT : MT T r) (hN : MN M r A) {v : Int} (hQ : ∀ M', MN M' r (A.setS 4 v) → FrN r M M' → Q vU T M' sz) : Ct g (d + 1) mX7_becomes [vR (r), vI (3), vI (v)] T M sz 0 0 Q := by
  refine Ct_of2 (ls := [vR (r), vI (3), vI (v)]) okX7_becomes rfl (Nat.le_of_ble_eq_true rfl) rfl ?_
  intro x hx hr hnm
  refine J_aload_n hx dX7_becomes_0 (i := 0) rfl rfl ?_
  refine J_iload_n hx dX7_becomes_1 (i := 1) rfl rfl ?_
  refine J_if_ne (tgt := 9) hx dX7_becomes_2 (by decide) (fun _ => ?_) (fun c9 => absurd c9 (by decide))
  refine J_aload_n hx dX7_becomes_9 (i := 0) rfl rfl ?_
  refine J_getI2 (v := A.sc 1) hx fl_X7_60 cl_X7 dX7_becomes_10 hT.o (by decide) rfl hN.s1 ?_
  refine J_putI hx fl_X7_60 cl_X7 dX7_becomes_13 hT.o (by decide) rfl (Or.inl rfl) (by decide) ?_
  have hN1 : MN (up2 M r 17 (A.sc 1)) r (A) := by have h9 := hN.setS (q := 1) (A.sc 1) (by decide); rw [YA.setS_same] at h9; exact h9
  have hF1 : FrN r M (up2 M r 17 (A.sc 1)) := (FrN.rf (r := r) (M := M)).up (Or.inr (by omega)) _
  generalize eM1 : up2 M r 17 (A.sc 1) = M1 at hN1 hF1 ⊢
  refine J_aload_n hx dX7_becomes_16 (i := 0) rfl rfl ?_
  refine J_iload_n hx dX7_becomes_17 (i := 1) rfl rfl ?_
  refine J_iconst (v := 1) hx dX7_becomes_18 (by decide) ?_
  refine J_icmp_ne (tgt := 26) hx dX7_becomes_19 (by decide) (fun _ => ?_) (fun c9 => absurd c9 (by decide))
  refine J_aload_n hx dX7_becomes_26 (i := 0) rfl rfl ?_
  refine J_getI2 (v := (A).sc 2) hx fl_X7_64 cl_X7 dX7_becomes_27 hT.o (by decide) rfl hN1.s2 ?_
  refine J_putI hx fl_X7_64 cl_X7 dX7_becomes_30 hT.o (by decide) rfl (Or.inl rfl) (by decide) ?_
  have hN2 : MN (up2 M1 r 18 ((A).sc 2)) r ((A)) := by have h9 := hN1.setS (q := 2) ((A).sc 2) (by decide); rw [YA.setS_same] at h9; exact h9
  have hF2 : FrN r M (up2 M1 r 18 ((A).sc 2)) := hF1.up (Or.inr (by omega)) _
  generalize eM2 : up2 M1 r 18 ((A).sc 2) = M2 at hN2 hF2 ⊢
  refine J_aload_n hx dX7_becomes_33 (i := 0) rfl rfl ?_
  refine J_iload_n hx dX7_becomes_34 (i := 1) rfl rfl ?_
  refine J_iconst (v := 2) hx dX7_becomes_35 (by decide) ?_
  refine J_icmp_ne (tgt := 43) hx dX7_becomes_36 (by decide) (fun _ => ?_) (fun c9 => absurd c9 (by decide))
  refine J_aload_n hx dX7_becomes_43 (i := 0) rfl rfl ?_
  refine J_getI2 (v := ((A)).sc 3) hx fl_X7_145 cl_X7 dX7_becomes_44 hT.o (by decide) rfl hN2.s3 ?_
  refine J_putI hx fl_X7_145 cl_X7 dX7_becomes_47 hT.o (by decide) rfl (Or.inl rfl) (by decide) ?_
  have hN3 : MN (up2 M2 r 19 (((A)).sc 3)) r (((A))) := by have h9 := hN2.setS (q := 3) (((A)).sc 3) (by decide); rw [YA.setS_same] at h9; exact h9
  have hF3 : FrN r M (up2 M2 r 19 (((A)).sc 3)) := hF2.up (Or.inr (by omega)) _
  generalize eM3 : up2 M2 r 19 (((A)).sc 3) = M3 at hN3 hF3 ⊢
  refine J_aload_n hx dX7_becomes_50 (i := 0) rfl rfl ?_
  refine J_iload_n hx dX7_becomes_51 (i := 1) rfl rfl ?_
  refine J_iconst (v := 3) hx dX7_becomes_52 (by decide) ?_
  refine J_icmp_ne (tgt := 60) hx dX7_becomes_53 (by decide) (fun c9 => absurd c9 (by decide)) (fun _ => ?_)
  refine J_iload_n hx dX7_becomes_56 (i := 2) rfl rfl ?_
  refine J_goto (tgt := 64) hx dX7_becomes_57 (by decide) ?_
  refine J_putI hx fl_X7_67 cl_X7 dX7_becomes_64 hT.o (by decide) rfl (Or.inl rfl) (by decide) ?_
  have hN4 : MN (up2 M3 r 20 v) r ((((A))).setS 4 v) := hN3.setS (q := 4) _ (by decide)
  have hF4 : FrN r M (up2 M3 r 20 v) := hF3.up (Or.inr (by omega)) _
  generalize eM4 : up2 M3 r 20 v = M4 at hN4 hF4 ⊢
  refine J_aload_n hx dX7_becomes_67 (i := 0) rfl rfl ?_
  refine J_iload_n hx dX7_becomes_68 (i := 1) rfl rfl ?_
  refine J_iconst (v := 4) hx dX7_becomes_69 (by decide) ?_
  refine J_icmp_ne (tgt := 77) hx dX7_becomes_70 (by decide) (fun _ => ?_) (fun c9 => absurd c9 (by decide))
  refine J_aload_n hx dX7_becomes_77 (i := 0) rfl rfl ?_
  refine J_getI2 (v := ((((A))).setS 4 v).sc 5) hx fl_X7_148 cl_X7 dX7_becomes_78 hT.o (by decide) rfl hN4.s5 ?_
  refine J_putI hx fl_X7_148 cl_X7 dX7_becomes_81 hT.o (by decide) rfl (Or.inl rfl) (by decide) ?_
  have hN5 : MN (up2 M4 r 21 (((((A))).setS 4 v).sc 5)) r (((((A))).setS 4 v)) := by have h9 := hN4.setS (q := 5) (((((A))).setS 4 v).sc 5) (by decide); rw [YA.setS_same] at h9; exact h9
  have hF5 : FrN r M (up2 M4 r 21 (((((A))).setS 4 v).sc 5)) := hF4.up (Or.inr (by omega)) _
  generalize eM5 : up2 M4 r 21 (((((A))).setS 4 v).sc 5) = M5 at hN5 hF5 ⊢
  refine J_vret hx hr dX7_becomes_84 ?_
  exact hQ _ hN5 hF5

set_option maxHeartbeats 4000000 in
theorem c_X7_becomes_4 {g : WG} {d : Nat} {T : TT} {M : MM} {r sz : Nat} {A : YA} {Q : MVal → TT → MM → Nat → Prop} (hT : MT T r) (hN : MN M r A) {v : Int} (hQ : ∀ M', MN M' r (A.setS 5 v) → FrN r M M' → Q vU T M' sz) : Ct g (d + 1) mX7_becomes [vR (r), vI (4), vI (v)] T M sz 0 0 Q := by
  refine Ct_of2 (ls := [vR (r), vI (4), vI (v)]) okX7_becomes rfl (Nat.le_of_ble_eq_true rfl) rfl ?_
  intro x hx hr hnm
  refine J_aload_n hx dX7_becomes_0 (i := 0) rfl rfl ?_
  refine J_iload_n hx dX7_becomes_1 (i := 1) rfl rfl ?_
  refine J_if_ne (tgt := 9) hx dX7_becomes_2 (by decide) (fun _ => ?_) (fun c9 => absurd c9 (by decide))
  refine J_aload_n hx dX7_becomes_9 (i := 0) rfl rfl ?_
  refine J_getI2 (v := A.sc 1) hx fl_X7_60 cl_X7 dX7_becomes_10 hT.o (by decide) rfl hN.s1 ?_
  refine J_putI hx fl_X7_60 cl_X7 dX7_becomes_13 hT.o (by decide) rfl (Or.inl rfl) (by decide) ?_
  have hN1 : MN (up2 M r 17 (A.sc 1)) r (A) := by have h9 := hN.setS (q := 1) (A.sc 1) (by decide); rw [YA.setS_same] at h9; exact h9
  have hF1 : FrN r M (up2 M r 17 (A.sc 1)) := (FrN.rf (r := r) (M := M)).up (Or.inr (by omega)) _
  generalize eM1 : up2 M r 17 (A.sc 1) = M1 at hN1 hF1 ⊢
  refine J_aload_n hx dX7_becomes_16 (i := 0) rfl rfl ?_
  refine J_iload_n hx dX7_becomes_17 (i := 1) rfl rfl ?_
  refine J_iconst (v := 1) hx dX7_becomes_18 (by decide) ?_
  refine J_icmp_ne (tgt := 26) hx dX7_becomes_19 (by decide) (fun _ => ?_) (fun c9 => absurd c9 (by decide))
  refine J_aload_n hx dX7_becomes_26 (i := 0) rfl rfl ?_
  refine J_getI2 (v := (A).sc 2) hx fl_X7_64 cl_X7 dX7_becomes_27 hT.o (by decide) rfl hN1.s2 ?_
  refine J_putI hx fl_X7_64 cl_X7 dX7_becomes_30 hT.o (by decide) rfl (Or.inl rfl) (by decide) ?_
  have hN2 : MN (up2 M1 r 18 ((A).sc 2)) r ((A)) := by have h9 := hN1.setS (q := 2) ((A).sc 2) (by decide); rw [YA.setS_same] at h9; exact h9
  have hF2 : FrN r M (up2 M1 r 18 ((A).sc 2)) := hF1.up (Or.inr (by omega)) _
  generalize eM2 : up2 M1 r 18 ((A).sc 2) = M2 at hN2 hF2 ⊢
  refine J_aload_n hx dX7_becomes_33 (i := 0) rfl rfl ?_
  refine J_iload_n hx dX7_becomes_34 (i := 1) rfl rfl ?_
  refine J_iconst (v := 2) hx dX7_becomes_35 (by decide) ?_
  refine J_icmp_ne (tgt := 43) hx dX7_becomes_36 (by decide) (fun _ => ?_) (fun c9 => absurd c9 (by decide))
  refine J_aload_n hx dX7_becomes_43 (i := 0) rfl rfl ?_
  refine J_getI2 (v := ((A)).sc 3) hx fl_X7_145 cl_X7 dX7_becomes_44 hT.o (by decide) rfl hN2.s3 ?_
  refine J_putI hx fl_X7_145 cl_X7 dX7_becomes_47 hT.o (by decide) rfl (Or.inl rfl) (by decide) ?_
  have hN3 : MN (up2 M2 r 19 (((A)).sc 3)) r (((A))) := by have h9 := hN2.setS (q := 3) (((A)).sc 3) (by decide); rw [YA.setS_same] at h9; exact h9
  have hF3 : FrN r M (up2 M2 r 19 (((A)).sc 3)) := hF2.up (Or.inr (by omega)) _
  generalize eM3 : up2 M2 r 19 (((A)).sc 3) = M3 at hN3 hF3 ⊢
  refine J_aload_n hx dX7_becomes_50 (i := 0) rfl rfl ?_
  refine J_iload_n hx dX7_becomes_51 (i := 1) rfl rfl ?_
  refine J_iconst (v := 3) hx dX7_becomes_52 (by decide) ?_
  refine J_icmp_ne (tgt := 60) hx dX7_becomes_53 (by decide) (fun _ => ?_) (fun c9 => absurd c9 (by decide))
  refine J_aload_n hx dX7_becomes_60 (i := 0) rfl rfl ?_
  refine J_getI2 (v := (((A))).sc 4) hx fl_X7_67 cl_X7 dX7_becomes_61 hT.o (by decide) rfl hN3.s4 ?_
  refine J_putI hx fl_X7_67 cl_X7 dX7_becomes_64 hT.o (by decide) rfl (Or.inl rfl) (by decide) ?_
  have hN4 : MN (up2 M3 r 20 ((((A))).sc 4)) r ((((A)))) := by have h9 := hN3.setS (q := 4) ((((A))).sc 4) (by decide); rw [YA.setS_same] at h9; exact h9
  have hF4 : FrN r M (up2 M3 r 20 ((((A))).sc 4)) := hF3.up (Or.inr (by omega)) _
  generalize eM4 : up2 M3 r 20 ((((A))).sc 4) = M4 at hN4 hF4 ⊢
  refine J_aload_n hx dX7_becomes_67 (i := 0) rfl rfl ?_
  refine J_iload_n hx dX7_becomes_68 (i := 1) rfl rfl ?_
  refine J_iconst (v := 4) hx dX7_becomes_69 (by decide) ?_
  refine J_icmp_ne (tgt := 77) hx dX7_becomes_70 (by decide) (fun c9 => absurd c9 (by decide)) (fun _ => ?_)
  refine J_iload_n hx dX7_becomes_73 (i := 2) rfl rfl ?_
  refine J_goto (tgt := 81) hx dX7_becomes_74 (by decide) ?_
  refine J_putI hx fl_X7_148 cl_X7 dX7_becomes_81 hT.o (by decide) rfl (Or.inl rfl) (by decide) ?_
  have hN5 : MN (up2 M4 r 21 v) r (((((A)))).setS 5 v) := hN4.setS (q := 5) _ (by decide)
  have hF5 : FrN r M (up2 M4 r 21 v) := hF4.up (Or.inr (by omega)) _
  generalize eM5 : up2 M4 r 21 v = M5 at hN5 hF5 ⊢
  refine J_vret hx hr dX7_becomes_84 ?_
  exact hQ _ hN5 hF5

theorem c_X7_becomes {g : WG} {d : Nat} {T : TT} {M : MM} {r sz : Nat} {A : YA} {Q : MVal → TT → MM → Nat → Prop} (hT : MT T r) (hN : MN M r A) {what v : Int} (hw : 0 ≤ what ∧ what ≤ 4) (hQ : ∀ M', MN M' r (A.setS (what.toNat + 1) v) → FrN r M M' → Q vU T M' sz) : Ct g (d + 1) mX7_becomes [vR (r), vI (what), vI (v)] T M sz 0 0 Q := by
  rcases (show what = 0 ∨ what = 1 ∨ what = 2 ∨ what = 3 ∨ what = 4 by omega) with rfl | rfl | rfl | rfl | rfl
  · exact c_X7_becomes_0 hT hN hQ
  · exact c_X7_becomes_1 hT hN hQ
  · exact c_X7_becomes_2 hT hN hQ
  · exact c_X7_becomes_3 hT hN hQ
  · exact c_X7_becomes_4 hT hN hQ
set_option maxHeartbeats 4000000 in
theorem c_X7_asked {g : WG} {d : Nat} {T : TT} {M : MM} {r sz : Nat} {A : YA} {Q : MVal → TT → MM → Nat → Prop} (hT : MT T r) (hN : MN M r A) {what : Int} (hw : 0 ≤ what ∧ what ≤ 4) (hQ : Q (vI (A.sc (what.toNat + 1))) T M sz) : Ct g (d + 1) mX7_asked [vR (r), vI (what)] T M sz 0 0 Q := by
  refine Ct_of2 (ls := [vR (r), vI (what)]) okX7_asked rfl (Nat.le_of_ble_eq_true rfl) rfl ?_
  intro x hx hr hnm
  refine J_iload_n hx dX7_asked_0 (i := 1) rfl rfl ?_
  refine J_if_ne (tgt := 11) hx dX7_asked_1 (by decide) (fun c1 => ?_) (fun c1 => ?_)
  · refine J_iload_n hx dX7_asked_11 (i := 1) rfl rfl ?_
    refine J_iconst (v := 1) hx dX7_asked_12 (by decide) ?_
    refine J_icmp_ne (tgt := 23) hx dX7_asked_13 (by decide) (fun c2 => ?_) (fun c2 => ?_)
    · refine J_iload_n hx dX7_asked_23 (i := 1) rfl rfl ?_
      refine J_iconst (v := 2) hx dX7_asked_24 (by decide) ?_
      refine J_icmp_ne (tgt := 35) hx dX7_asked_25 (by decide) (fun c3 => ?_) (fun c3 => ?_)
      · refine J_iload_n hx dX7_asked_35 (i := 1) rfl rfl ?_
        refine J_iconst (v := 3) hx dX7_asked_36 (by decide) ?_
        refine J_icmp_ne (tgt := 47) hx dX7_asked_37 (by decide) (fun c4 => ?_) (fun c4 => ?_)
        · refine J_aload_n hx dX7_asked_47 (i := 0) rfl rfl ?_
          refine J_getI2 (v := A.sc 5) hx fl_X7_148 cl_X7 dX7_asked_48 hT.o (by decide) rfl hN.s5 ?_
          refine J_iret hx hr dX7_asked_51 ?_
          have e9 : what = 4 := by omega
          subst e9
          exact hQ
        · refine J_aload_n hx dX7_asked_40 (i := 0) rfl rfl ?_
          refine J_getI2 (v := A.sc 4) hx fl_X7_67 cl_X7 dX7_asked_41 hT.o (by decide) rfl hN.s4 ?_
          refine J_goto (tgt := 51) hx dX7_asked_44 (by decide) ?_
          refine J_iret hx hr dX7_asked_51 ?_
          have e9 : what = 3 := by omega
          subst e9
          exact hQ
      · refine J_aload_n hx dX7_asked_28 (i := 0) rfl rfl ?_
        refine J_getI2 (v := A.sc 3) hx fl_X7_145 cl_X7 dX7_asked_29 hT.o (by decide) rfl hN.s3 ?_
        refine J_goto (tgt := 51) hx dX7_asked_32 (by decide) ?_
        refine J_iret hx hr dX7_asked_51 ?_
        have e9 : what = 2 := by omega
        subst e9
        exact hQ
    · refine J_aload_n hx dX7_asked_16 (i := 0) rfl rfl ?_
      refine J_getI2 (v := A.sc 2) hx fl_X7_64 cl_X7 dX7_asked_17 hT.o (by decide) rfl hN.s2 ?_
      refine J_goto (tgt := 51) hx dX7_asked_20 (by decide) ?_
      refine J_iret hx hr dX7_asked_51 ?_
      have e9 : what = 1 := by omega
      subst e9
      exact hQ
  · refine J_aload_n hx dX7_asked_4 (i := 0) rfl rfl ?_
    refine J_getI2 (v := A.sc 1) hx fl_X7_60 cl_X7 dX7_asked_5 hT.o (by decide) rfl hN.s1 ?_
    refine J_goto (tgt := 51) hx dX7_asked_8 (by decide) ?_
    refine J_iret hx hr dX7_asked_51 ?_
    have e9 : what = 0 := by omega
    subst e9
    exact hQ

set_option maxHeartbeats 4000000 in
theorem c_X7_mayAsk {g : WG} {d : Nat} {T : TT} {M : MM} {sz : Nat} {Q : MVal → TT → MM → Nat → Prop} {what v : Int} (hQ : ∀ b : Int, ((b = 1 ∧ mayQ what v) ∨ (b = 0 ∧ ¬ mayQ what v)) → Q (vI b) T M sz) : Ct g (d + 2) mX7_mayAsk [vI (what), vI (v)] T M sz 0 0 Q := by
  refine Ct_of2 (ls := [vI (what), vI (v)]) okX7_mayAsk rfl (Nat.le_of_ble_eq_true rfl) rfl ?_
  intro x hx hr hnm
  refine J_iload_n hx dX7_mayAsk_0 (i := 0) rfl rfl ?_
  by_cases t1_0 : what = 0
  · refine J_tswIn (tgt := 36) (off := 35) hx dX7_mayAsk_1 (by omega) (by omega) (by rw [t1_0]; rfl) (by decide) ?_
    refine J_iload_n hx dX7_mayAsk_36 (i := 1) rfl rfl ?_
    refine J_i2l hx dX7_mayAsk_37 ?_
    refine J_lconst (v := 0) hx dX7_mayAsk_38 (by decide) ?_
    refine J_ldc2 (v := 30) hx ct_X7_139 dX7_mayAsk_39 (by decide) ?_
    refine J_invS (As := [vL (v), vL (0), vL (30)]) (st := []) hx lk_X7_85 okX7_in dX7_mayAsk_42 rfl rfl (Nat.le_of_ble_eq_true rfl) (Nat.zero_add _).symm (Nat.zero_add _).symm rfl (c_X7_in (a := v) (lo := 0) (hi := 30) ?_)
    intro v2 hv2
    refine J_zret hx hr dX7_mayAsk_45 (by omega) ?_
    exact hQ _ (by unfold mayQ; omega)
  by_cases t1_1 : what = 1
  · refine J_tswIn (tgt := 46) (off := 45) hx dX7_mayAsk_1 (by omega) (by omega) (by rw [t1_1]; rfl) (by decide) ?_
    refine J_iload_n hx dX7_mayAsk_46 (i := 1) rfl rfl ?_
    refine J_i2l hx dX7_mayAsk_47 ?_
    refine J_lconst (v := 1) hx dX7_mayAsk_48 (by decide) ?_
    refine J_ldc2 (v := 10) hx ct_X7_141 dX7_mayAsk_49 (by decide) ?_
    refine J_invS (As := [vL (v), vL (1), vL (10)]) (st := []) hx lk_X7_85 okX7_in dX7_mayAsk_52 rfl rfl (Nat.le_of_ble_eq_true rfl) (Nat.zero_add _).symm (Nat.zero_add _).symm rfl (c_X7_in (a := v) (lo := 1) (hi := 10) ?_)
    intro v3 hv3
    refine J_zret hx hr dX7_mayAsk_55 (by omega) ?_
    exact hQ _ (by unfold mayQ; omega)
  by_cases t1_2 : what = 2
  · refine J_tswIn (tgt := 56) (off := 55) hx dX7_mayAsk_1 (by omega) (by omega) (by rw [t1_2]; rfl) (by decide) ?_
    refine J_iload_n hx dX7_mayAsk_56 (i := 1) rfl rfl ?_
    refine J_i2l hx dX7_mayAsk_57 ?_
    refine J_lconst (v := 0) hx dX7_mayAsk_58 (by decide) ?_
    refine J_lconst (v := 1) hx dX7_mayAsk_59 (by decide) ?_
    refine J_invS (As := [vL (v), vL (0), vL (1)]) (st := []) hx lk_X7_85 okX7_in dX7_mayAsk_60 rfl rfl (Nat.le_of_ble_eq_true rfl) (Nat.zero_add _).symm (Nat.zero_add _).symm rfl (c_X7_in (a := v) (lo := 0) (hi := 1) ?_)
    intro v4 hv4
    refine J_zret hx hr dX7_mayAsk_63 (by omega) ?_
    exact hQ _ (by unfold mayQ; omega)
  by_cases t1_3 : what = 3
  · refine J_tswIn (tgt := 64) (off := 63) hx dX7_mayAsk_1 (by omega) (by omega) (by rw [t1_3]; rfl) (by decide) ?_
    refine J_iload_n hx dX7_mayAsk_64 (i := 0) rfl rfl ?_
    refine J_iconst (v := 3) hx dX7_mayAsk_65 (by decide) ?_
    refine J_icmp_ne (tgt := 85) hx dX7_mayAsk_66 (by decide) (fun c5 => ?_) (fun c5 => ?_)
    · refine J_iconst (v := 0) hx dX7_mayAsk_85 (by decide) ?_
      refine J_zret hx hr dX7_mayAsk_86 (by omega) ?_
      exact hQ _ (by unfold mayQ; omega)
    · refine J_iload_n hx dX7_mayAsk_69 (i := 1) rfl rfl ?_
      refine J_i2l hx dX7_mayAsk_70 ?_
      refine J_lconst (v := 1) hx dX7_mayAsk_71 (by decide) ?_
      refine J_ldc2 (v := 99) hx ct_X7_143 dX7_mayAsk_72 (by decide) ?_
      refine J_invS (As := [vL (v), vL (1), vL (99)]) (st := []) hx lk_X7_85 okX7_in dX7_mayAsk_75 rfl rfl (Nat.le_of_ble_eq_true rfl) (Nat.zero_add _).symm (Nat.zero_add _).symm rfl (c_X7_in (a := v) (lo := 1) (hi := 99) ?_)
      intro v6 hv6
      refine J_if_eq (tgt := 85) hx dX7_mayAsk_78 (by decide) (fun c7 => ?_) (fun c7 => ?_)
      · refine J_iconst (v := 0) hx dX7_mayAsk_85 (by decide) ?_
        refine J_zret hx hr dX7_mayAsk_86 (by omega) ?_
        exact hQ _ (by unfold mayQ; omega)
      · refine J_iconst (v := 1) hx dX7_mayAsk_81 (by decide) ?_
        refine J_goto (tgt := 86) hx dX7_mayAsk_82 (by decide) ?_
        refine J_zret hx hr dX7_mayAsk_86 (by omega) ?_
        exact hQ _ (by unfold mayQ; omega)
  by_cases t1_4 : what = 4
  · refine J_tswIn (tgt := 56) (off := 55) hx dX7_mayAsk_1 (by omega) (by omega) (by rw [t1_4]; rfl) (by decide) ?_
    refine J_iload_n hx dX7_mayAsk_56 (i := 1) rfl rfl ?_
    refine J_i2l hx dX7_mayAsk_57 ?_
    refine J_lconst (v := 0) hx dX7_mayAsk_58 (by decide) ?_
    refine J_lconst (v := 1) hx dX7_mayAsk_59 (by decide) ?_
    refine J_invS (As := [vL (v), vL (0), vL (1)]) (st := []) hx lk_X7_85 okX7_in dX7_mayAsk_60 rfl rfl (Nat.le_of_ble_eq_true rfl) (Nat.zero_add _).symm (Nat.zero_add _).symm rfl (c_X7_in (a := v) (lo := 0) (hi := 1) ?_)
    intro v8 hv8
    refine J_zret hx hr dX7_mayAsk_63 (by omega) ?_
    exact hQ _ (by unfold mayQ; omega)
  refine J_tswOut (tgt := 64) hx dX7_mayAsk_1 (by omega) (by decide) ?_
  refine J_iload_n hx dX7_mayAsk_64 (i := 0) rfl rfl ?_
  refine J_iconst (v := 3) hx dX7_mayAsk_65 (by decide) ?_
  refine J_icmp_ne (tgt := 85) hx dX7_mayAsk_66 (by decide) (fun c9 => ?_) (fun c9 => ?_)
  · refine J_iconst (v := 0) hx dX7_mayAsk_85 (by decide) ?_
    refine J_zret hx hr dX7_mayAsk_86 (by omega) ?_
    exact hQ _ (by unfold mayQ; omega)
  · refine J_iload_n hx dX7_mayAsk_69 (i := 1) rfl rfl ?_
    refine J_i2l hx dX7_mayAsk_70 ?_
    refine J_lconst (v := 1) hx dX7_mayAsk_71 (by decide) ?_
    refine J_ldc2 (v := 99) hx ct_X7_143 dX7_mayAsk_72 (by decide) ?_
    refine J_invS (As := [vL (v), vL (1), vL (99)]) (st := []) hx lk_X7_85 okX7_in dX7_mayAsk_75 rfl rfl (Nat.le_of_ble_eq_true rfl) (Nat.zero_add _).symm (Nat.zero_add _).symm rfl (c_X7_in (a := v) (lo := 1) (hi := 99) ?_)
    intro v10 hv10
    refine J_if_eq (tgt := 85) hx dX7_mayAsk_78 (by decide) (fun c11 => ?_) (fun c11 => ?_)
    · refine J_iconst (v := 0) hx dX7_mayAsk_85 (by decide) ?_
      refine J_zret hx hr dX7_mayAsk_86 (by omega) ?_
      exact hQ _ (by unfold mayQ; omega)
    · refine J_iconst (v := 1) hx dX7_mayAsk_81 (by decide) ?_
      refine J_goto (tgt := 86) hx dX7_mayAsk_82 (by decide) ?_
      refine J_zret hx hr dX7_mayAsk_86 (by omega) ?_
      exact hQ _ (by unfold mayQ; omega)

set_option maxHeartbeats 4000000 in
theorem c_X7_refuse {g : WG} {d : Nat} {T : TT} {M : MM} {r sz : Nat} {Q : MVal → TT → MM → Nat → Prop} (hT : MT T r) {k : Nat} (hk : k < 8) (hb : 0 ≤ M (r + 16) k ∧ M (r + 16) k < 1000000) (hQ : Q (vI (-((k : Nat) : Int))) T (up2 M (r + 16) k (M (r + 16) k + 1)) sz) : Ct g (d + 1) mX7_refuse [vR (r), vI (-((k : Nat) : Int))] T M sz 0 0 Q := by
  refine Ct_of2 (ls := [vR (r), vI (-((k : Nat) : Int))]) okX7_refuse rfl (Nat.le_of_ble_eq_true rfl) rfl ?_
  intro x hx hr hnm
  refine J_aload_n hx dX7_refuse_0 (i := 0) rfl rfl ?_
  refine J_getR (b := r + 16) hx fl_X7_34 cl_X7 dX7_refuse_1 hT.o (by decide) rfl hT.r8 ?_
  refine J_iload_n hx dX7_refuse_4 (i := 1) rfl rfl ?_
  refine J_ineg (v := ((k : Nat) : Int)) hx dX7_refuse_5 (by rw [w32_id (by omega) (by omega)]; omega) ?_
  refine J_dup2 hx dX7_refuse_6 rfl rfl ?_
  refine J_iald2 (v := M (r + 16) k) hx k dX7_refuse_7 hT.k16 (by omega) (hT.l16 (by omega)) rfl ?_
  refine J_iconst (v := 1) hx dX7_refuse_8 (by decide) ?_
  refine J_iadd (v := M (r + 16) k + 1) hx dX7_refuse_9 (w32_id (by omega) (by omega)) ?_
  refine J_iast hx k dX7_refuse_10 hT.k16 (by omega) (hT.l16 (by omega)) ?_
  refine J_iload_n hx dX7_refuse_11 (i := 1) rfl rfl ?_
  refine J_iret hx hr dX7_refuse_12 ?_
  exact hQ

set_option maxHeartbeats 4000000 in
theorem lp_X7_copied {g : WG} {d : Nat} {T : TT} {M : MM} {sz : Nat} {Q : MVal → TT → MM → Nat → Prop} {a b n : Nat} (hka : (T a).1 = 10) (hna : (T a).2.1 = n) (hkb : (T b).1 = 10) (hnb : n ≤ (T b).2.1) (hab : a ≠ b) (hn : n ≤ 1000) (hQ : ∀ M', (∀ i, i < n → M' b i = M a i) → (∀ c, c ≠ b → M' c = M c) → Q vU T M' sz) {x : CX} (hx : OKx g x RX7 cX7_copied (d + 1)) (hr : RTx g x none Q) (i : Nat) (M1 : MM) (hi : i ≤ n) (hb1 : ∀ k, k < i → M1 b k = M a k) (ho1 : ∀ c, c ≠ b → ∀ k, M1 c k = M c k) : Jd g x 2 [vR (a), vR (b), vI (((i : Nat) : Int))] [] T M1 sz 0 0 := by
  refine J_iload_n hx dX7_copied_2 (i := 2) rfl rfl ?_
  refine J_aload_n hx dX7_copied_3 (i := 0) rfl rfl ?_
  refine J_alen2 (v := ((n : Nat) : Int)) hx dX7_copied_4 hka (by rw [hna]; exact ⟨rfl, by omega⟩) ?_
  refine J_icmp_ge (tgt := 20) hx dX7_copied_5 (by decide) (fun c1 => ?_) (fun c1 => ?_)
  · refine J_vret hx hr dX7_copied_20 ?_
    exact hQ M1 (fun i9 h9 => hb1 i9 (by omega)) (fun c9 h9 => funext (ho1 c9 h9))
  · refine J_aload_n hx dX7_copied_8 (i := 1) rfl rfl ?_
    refine J_iload_n hx dX7_copied_9 (i := 2) rfl rfl ?_
    refine J_aload_n hx dX7_copied_10 (i := 0) rfl rfl ?_
    refine J_iload_n hx dX7_copied_11 (i := 2) rfl rfl ?_
    refine J_iald2 (v := M a i) hx i dX7_copied_12 hka (by omega) (by rw [hna]; omega) (ho1 a hab i) ?_
    refine J_iast hx i dX7_copied_13 hkb (by omega) (by omega) ?_
    generalize eM2 : up2 M1 b i (M a i) = M2
    have hM2a : M2 b i = M a i := by rw [← eM2]; exact up2_at
    have hM2o : ∀ b9 j9, (b9 ≠ b ∨ j9 ≠ i) → M2 b9 j9 = M1 b9 j9 := fun b9 j9 h9 => by rw [← eM2]; exact up2_ne h9
    have hM2r : ∀ b9, b9 ≠ b → M2 b9 = M1 b9 := fun b9 h9 => by rw [← eM2]; exact up2_row h9
    refine J_iinc (v := ((i : Nat) : Int) + 1) (lsn := [vR (a), vR (b), vI (((i : Nat) : Int) + 1)]) hx dX7_copied_14 rfl (jinc1 (by omega) (by omega)) rfl rfl ?_
    refine J_goto (tgt := 2) hx dX7_copied_17 (by decide) ?_
    exact lp_X7_copied hka hna hkb hnb hab hn hQ hx hr (i + 1) M2 (by omega) (fun i9 h9 => by
        by_cases e : i9 = i
        · subst e; exact hM2a
        · rw [hM2o _ _ (Or.inr e)]; exact hb1 i9 (by omega)) (fun c9 h9 i9 => by rw [hM2r _ h9]; exact ho1 c9 h9 i9)
termination_by n - i
decreasing_by all_goals omega

set_option maxHeartbeats 4000000 in
theorem c_X7_copied {g : WG} {d : Nat} {T : TT} {M : MM} {sz : Nat} {Q : MVal → TT → MM → Nat → Prop} {a b n : Nat} (hka : (T a).1 = 10) (hna : (T a).2.1 = n) (hkb : (T b).1 = 10) (hnb : n ≤ (T b).2.1) (hab : a ≠ b) (hn : n ≤ 1000) (hQ : ∀ M', (∀ i, i < n → M' b i = M a i) → (∀ c, c ≠ b → M' c = M c) → Q vU T M' sz) : Ct g (d + 1) mX7_copied [vR (a), vR (b)] T M sz 0 0 Q := by
  refine Ct_of2 (ls := [vR (a), vR (b), vU]) okX7_copied rfl (Nat.le_of_ble_eq_true rfl) rfl ?_
  intro x hx hr hnm
  refine J_iconst (v := 0) hx dX7_copied_0 (by decide) ?_
  refine J_istore_n (lsn := [vR (a), vR (b), vI (0)]) hx dX7_copied_1 (i := 2) rfl (Nat.le_of_ble_eq_true rfl) rfl rfl ?_
  exact lp_X7_copied hka hna hkb hnb hab hn hQ hx hr 0 M (by omega) (fun k h => absurd h (Nat.not_lt_zero k)) (fun _ _ _ => rfl)

set_option maxHeartbeats 4000000 in
theorem c_X7_takeFrom {g : WG} {d : Nat} {T : TT} {M : MM} {r f sz : Nat} {B : YA} {Q : MVal → TT → MM → Nat → Prop} (hT : MT T r) (hTf : MT T f) (hNf : MN M f B) (hW : WFY B) (hdj : r + 29 ≤ f ∨ f + 29 ≤ r) (hQ : ∀ M', MN M' r B → FrN r M M' → Q vU T M' sz) : Ct g (d + 2) mX7_takeFrom [vR (r), vR (f)] T M sz 0 0 Q := by
  refine Ct_of2 (ls := [vR (r), vR (f)]) okX7_takeFrom rfl (Nat.le_of_ble_eq_true rfl) rfl ?_
  intro x hx hr hnm
  refine J_aload_n hx dX7_takeFrom_0 (i := 0) rfl rfl ?_
  refine J_aload_n hx dX7_takeFrom_1 (i := 1) rfl rfl ?_
  refine J_getI2 (v := ((B.n : Nat) : Int)) hx fl_X7_82 cl_X7 dX7_takeFrom_2 hTf.o (by decide) rfl (by exact hNf.pp) ?_
  refine J_putI hx fl_X7_82 cl_X7 dX7_takeFrom_5 hT.o (by decide) rfl (Or.inl rfl) (by decide) ?_
  generalize eM1 : up2 M r 9 ((B.n : Nat) : Int) = M1
  have hM1a : M1 r 9 = ((B.n : Nat) : Int) := by rw [← eM1]; exact up2_at
  have hM1o : ∀ b9 j9, (b9 ≠ r ∨ j9 ≠ 9) → M1 b9 j9 = M b9 j9 := fun b9 j9 h9 => by rw [← eM1]; exact up2_ne h9
  have hM1r : ∀ b9, b9 ≠ r → M1 b9 = M b9 := fun b9 h9 => by rw [← eM1]; exact up2_row h9
  refine J_aload_n hx dX7_takeFrom_8 (i := 1) rfl rfl ?_
  refine J_getR (b := f + 17) hx fl_X7_37 cl_X7 dX7_takeFrom_9 hTf.o (by decide) rfl hTf.r10 ?_
  refine J_aload_n hx dX7_takeFrom_12 (i := 0) rfl rfl ?_
  refine J_getR (b := r + 17) hx fl_X7_37 cl_X7 dX7_takeFrom_13 hT.o (by decide) rfl hT.r10 ?_
  refine J_invSv (As := [vR (f + 17), vR (r + 17)]) (st := []) hx lk_X7_360 okX7_copied dX7_takeFrom_16 rfl rfl (Nat.le_of_ble_eq_true rfl) (Nat.zero_add _).symm (Nat.zero_add _).symm rfl (c_X7_copied hTf.k17 hTf.n17 hT.k17 (Nat.le_of_eq hT.n17.symm) (by omega) (by decide) ?_)
  intro M2 hM2a hM2r
  refine J_aload_n hx dX7_takeFrom_19 (i := 1) rfl rfl ?_
  refine J_getR (b := f + 18) hx fl_X7_40 cl_X7 dX7_takeFrom_20 hTf.o (by decide) rfl hTf.r11 ?_
  refine J_aload_n hx dX7_takeFrom_23 (i := 0) rfl rfl ?_
  refine J_getR (b := r + 18) hx fl_X7_40 cl_X7 dX7_takeFrom_24 hT.o (by decide) rfl hT.r11 ?_
  refine J_invSv (As := [vR (f + 18), vR (r + 18)]) (st := []) hx lk_X7_360 okX7_copied dX7_takeFrom_27 rfl rfl (Nat.le_of_ble_eq_true rfl) (Nat.zero_add _).symm (Nat.zero_add _).symm rfl (c_X7_copied hTf.k18 hTf.n18 hT.k18 (Nat.le_of_eq hT.n18.symm) (by omega) (by decide) ?_)
  intro M3 hM3a hM3r
  refine J_aload_n hx dX7_takeFrom_30 (i := 1) rfl rfl ?_
  refine J_getR (b := f + 19) hx fl_X7_43 cl_X7 dX7_takeFrom_31 hTf.o (by decide) rfl hTf.r12 ?_
  refine J_aload_n hx dX7_takeFrom_34 (i := 0) rfl rfl ?_
  refine J_getR (b := r + 19) hx fl_X7_43 cl_X7 dX7_takeFrom_35 hT.o (by decide) rfl hT.r12 ?_
  refine J_invSv (As := [vR (f + 19), vR (r + 19)]) (st := []) hx lk_X7_360 okX7_copied dX7_takeFrom_38 rfl rfl (Nat.le_of_ble_eq_true rfl) (Nat.zero_add _).symm (Nat.zero_add _).symm rfl (c_X7_copied hTf.k19 hTf.n19 hT.k19 (Nat.le_of_eq hT.n19.symm) (by omega) (by decide) ?_)
  intro M4 hM4a hM4r
  refine J_aload_n hx dX7_takeFrom_41 (i := 1) rfl rfl ?_
  refine J_getR (b := f + 20) hx fl_X7_46 cl_X7 dX7_takeFrom_42 hTf.o (by decide) rfl hTf.r13 ?_
  refine J_aload_n hx dX7_takeFrom_45 (i := 0) rfl rfl ?_
  refine J_getR (b := r + 20) hx fl_X7_46 cl_X7 dX7_takeFrom_46 hT.o (by decide) rfl hT.r13 ?_
  refine J_invSv (As := [vR (f + 20), vR (r + 20)]) (st := []) hx lk_X7_360 okX7_copied dX7_takeFrom_49 rfl rfl (Nat.le_of_ble_eq_true rfl) (Nat.zero_add _).symm (Nat.zero_add _).symm rfl (c_X7_copied hTf.k20 hTf.n20 hT.k20 (Nat.le_of_eq hT.n20.symm) (by omega) (by decide) ?_)
  intro M5 hM5a hM5r
  refine J_aload_n hx dX7_takeFrom_52 (i := 1) rfl rfl ?_
  refine J_getR (b := f + 21) hx fl_X7_49 cl_X7 dX7_takeFrom_53 hTf.o (by decide) rfl hTf.r14 ?_
  refine J_aload_n hx dX7_takeFrom_56 (i := 0) rfl rfl ?_
  refine J_getR (b := r + 21) hx fl_X7_49 cl_X7 dX7_takeFrom_57 hT.o (by decide) rfl hT.r14 ?_
  refine J_invSv (As := [vR (f + 21), vR (r + 21)]) (st := []) hx lk_X7_360 okX7_copied dX7_takeFrom_60 rfl rfl (Nat.le_of_ble_eq_true rfl) (Nat.zero_add _).symm (Nat.zero_add _).symm rfl (c_X7_copied hTf.k21 hTf.n21 hT.k21 (Nat.le_of_eq hT.n21.symm) (by omega) (by decide) ?_)
  intro M6 hM6a hM6r
  refine J_aload_n hx dX7_takeFrom_63 (i := 1) rfl rfl ?_
  refine J_getR (b := f + 22) hx fl_X7_54 cl_X7 dX7_takeFrom_64 hTf.o (by decide) rfl hTf.r15 ?_
  refine J_iconst (v := 0) hx dX7_takeFrom_67 (by decide) ?_
  refine J_aald (b := f + 23) hx 0 dX7_takeFrom_68 hTf.k22 (by decide) (by omega) (hTf.l22 (by decide)) (hTf.f22 (by decide)) ?_
  refine J_aload_n hx dX7_takeFrom_69 (i := 0) rfl rfl ?_
  refine J_getR (b := r + 22) hx fl_X7_54 cl_X7 dX7_takeFrom_70 hT.o (by decide) rfl hT.r15 ?_
  refine J_iconst (v := 0) hx dX7_takeFrom_73 (by decide) ?_
  refine J_aald (b := r + 23) hx 0 dX7_takeFrom_74 hT.k22 (by decide) (by omega) (hT.l22 (by decide)) (hT.f22 (by decide)) ?_
  refine J_invSv (As := [vR (f + 23), vR (r + 23)]) (st := []) hx lk_X7_360 okX7_copied dX7_takeFrom_75 rfl rfl (Nat.le_of_ble_eq_true rfl) (Nat.zero_add _).symm (Nat.zero_add _).symm rfl (c_X7_copied (hTf.kl (c := 0) (by decide)) (hTf.nl (c := 0) (by decide)) (hT.kl (c := 0) (by decide)) (Nat.le_of_eq (hT.nl (c := 0) (by decide)).symm) (by omega) (by decide) ?_)
  intro M7 hM7a hM7r
  refine J_aload_n hx dX7_takeFrom_78 (i := 1) rfl rfl ?_
  refine J_getR (b := f + 22) hx fl_X7_54 cl_X7 dX7_takeFrom_79 hTf.o (by decide) rfl hTf.r15 ?_
  refine J_iconst (v := 1) hx dX7_takeFrom_82 (by decide) ?_
  refine J_aald (b := f + 24) hx 1 dX7_takeFrom_83 hTf.k22 (by decide) (by omega) (hTf.l22 (by decide)) (hTf.f22 (by decide)) ?_
  refine J_aload_n hx dX7_takeFrom_84 (i := 0) rfl rfl ?_
  refine J_getR (b := r + 22) hx fl_X7_54 cl_X7 dX7_takeFrom_85 hT.o (by decide) rfl hT.r15 ?_
  refine J_iconst (v := 1) hx dX7_takeFrom_88 (by decide) ?_
  refine J_aald (b := r + 24) hx 1 dX7_takeFrom_89 hT.k22 (by decide) (by omega) (hT.l22 (by decide)) (hT.f22 (by decide)) ?_
  refine J_invSv (As := [vR (f + 24), vR (r + 24)]) (st := []) hx lk_X7_360 okX7_copied dX7_takeFrom_90 rfl rfl (Nat.le_of_ble_eq_true rfl) (Nat.zero_add _).symm (Nat.zero_add _).symm rfl (c_X7_copied (hTf.kl (c := 1) (by decide)) (hTf.nl (c := 1) (by decide)) (hT.kl (c := 1) (by decide)) (Nat.le_of_eq (hT.nl (c := 1) (by decide)).symm) (by omega) (by decide) ?_)
  intro M8 hM8a hM8r
  refine J_aload_n hx dX7_takeFrom_93 (i := 1) rfl rfl ?_
  refine J_getR (b := f + 25) hx fl_X7_57 cl_X7 dX7_takeFrom_94 hTf.o (by decide) rfl hTf.r16 ?_
  refine J_aload_n hx dX7_takeFrom_97 (i := 0) rfl rfl ?_
  refine J_getR (b := r + 25) hx fl_X7_57 cl_X7 dX7_takeFrom_98 hT.o (by decide) rfl hT.r16 ?_
  refine J_invSv (As := [vR (f + 25), vR (r + 25)]) (st := []) hx lk_X7_360 okX7_copied dX7_takeFrom_101 rfl rfl (Nat.le_of_ble_eq_true rfl) (Nat.zero_add _).symm (Nat.zero_add _).symm rfl (c_X7_copied hTf.k25 hTf.n25 hT.k25 (Nat.le_of_eq hT.n25.symm) (by omega) (by decide) ?_)
  intro M9 hM9a hM9r
  refine J_aload_n hx dX7_takeFrom_104 (i := 0) rfl rfl ?_
  refine J_aload_n hx dX7_takeFrom_105 (i := 1) rfl rfl ?_
  refine J_getI2 (v := B.sc 1) hx fl_X7_60 cl_X7 dX7_takeFrom_106 hTf.o (by decide) rfl (by rw [hM9r _ (by omega), hM8r _ (by omega), hM7r _ (by omega), hM6r _ (by omega), hM5r _ (by omega), hM4r _ (by omega), hM3r _ (by omega), hM2r _ (by omega), hM1o _ _ (Or.inl (by omega))]; exact hNf.s1) ?_
  refine J_putI hx fl_X7_60 cl_X7 dX7_takeFrom_109 hT.o (by decide) rfl (Or.inl rfl) (by decide) ?_
  generalize eM10 : up2 M9 r 17 (B.sc 1) = M10
  have hM10a : M10 r 17 = B.sc 1 := by rw [← eM10]; exact up2_at
  have hM10o : ∀ b9 j9, (b9 ≠ r ∨ j9 ≠ 17) → M10 b9 j9 = M9 b9 j9 := fun b9 j9 h9 => by rw [← eM10]; exact up2_ne h9
  have hM10r : ∀ b9, b9 ≠ r → M10 b9 = M9 b9 := fun b9 h9 => by rw [← eM10]; exact up2_row h9
  refine J_aload_n hx dX7_takeFrom_112 (i := 0) rfl rfl ?_
  refine J_aload_n hx dX7_takeFrom_113 (i := 1) rfl rfl ?_
  refine J_getI2 (v := B.sc 2) hx fl_X7_64 cl_X7 dX7_takeFrom_114 hTf.o (by decide) rfl (by rw [hM10o _ _ (Or.inl (by omega)), hM9r _ (by omega), hM8r _ (by omega), hM7r _ (by omega), hM6r _ (by omega), hM5r _ (by omega), hM4r _ (by omega), hM3r _ (by omega), hM2r _ (by omega), hM1o _ _ (Or.inl (by omega))]; exact hNf.s2) ?_
  refine J_putI hx fl_X7_64 cl_X7 dX7_takeFrom_117 hT.o (by decide) rfl (Or.inl rfl) (by decide) ?_
  generalize eM11 : up2 M10 r 18 (B.sc 2) = M11
  have hM11a : M11 r 18 = B.sc 2 := by rw [← eM11]; exact up2_at
  have hM11o : ∀ b9 j9, (b9 ≠ r ∨ j9 ≠ 18) → M11 b9 j9 = M10 b9 j9 := fun b9 j9 h9 => by rw [← eM11]; exact up2_ne h9
  have hM11r : ∀ b9, b9 ≠ r → M11 b9 = M10 b9 := fun b9 h9 => by rw [← eM11]; exact up2_row h9
  refine J_aload_n hx dX7_takeFrom_120 (i := 0) rfl rfl ?_
  refine J_aload_n hx dX7_takeFrom_121 (i := 1) rfl rfl ?_
  refine J_getI2 (v := B.sc 3) hx fl_X7_145 cl_X7 dX7_takeFrom_122 hTf.o (by decide) rfl (by rw [hM11o _ _ (Or.inl (by omega)), hM10o _ _ (Or.inl (by omega)), hM9r _ (by omega), hM8r _ (by omega), hM7r _ (by omega), hM6r _ (by omega), hM5r _ (by omega), hM4r _ (by omega), hM3r _ (by omega), hM2r _ (by omega), hM1o _ _ (Or.inl (by omega))]; exact hNf.s3) ?_
  refine J_putI hx fl_X7_145 cl_X7 dX7_takeFrom_125 hT.o (by decide) rfl (Or.inl rfl) (by decide) ?_
  generalize eM12 : up2 M11 r 19 (B.sc 3) = M12
  have hM12a : M12 r 19 = B.sc 3 := by rw [← eM12]; exact up2_at
  have hM12o : ∀ b9 j9, (b9 ≠ r ∨ j9 ≠ 19) → M12 b9 j9 = M11 b9 j9 := fun b9 j9 h9 => by rw [← eM12]; exact up2_ne h9
  have hM12r : ∀ b9, b9 ≠ r → M12 b9 = M11 b9 := fun b9 h9 => by rw [← eM12]; exact up2_row h9
  refine J_aload_n hx dX7_takeFrom_128 (i := 0) rfl rfl ?_
  refine J_aload_n hx dX7_takeFrom_129 (i := 1) rfl rfl ?_
  refine J_getI2 (v := B.sc 4) hx fl_X7_67 cl_X7 dX7_takeFrom_130 hTf.o (by decide) rfl (by rw [hM12o _ _ (Or.inl (by omega)), hM11o _ _ (Or.inl (by omega)), hM10o _ _ (Or.inl (by omega)), hM9r _ (by omega), hM8r _ (by omega), hM7r _ (by omega), hM6r _ (by omega), hM5r _ (by omega), hM4r _ (by omega), hM3r _ (by omega), hM2r _ (by omega), hM1o _ _ (Or.inl (by omega))]; exact hNf.s4) ?_
  refine J_putI hx fl_X7_67 cl_X7 dX7_takeFrom_133 hT.o (by decide) rfl (Or.inl rfl) (by decide) ?_
  generalize eM13 : up2 M12 r 20 (B.sc 4) = M13
  have hM13a : M13 r 20 = B.sc 4 := by rw [← eM13]; exact up2_at
  have hM13o : ∀ b9 j9, (b9 ≠ r ∨ j9 ≠ 20) → M13 b9 j9 = M12 b9 j9 := fun b9 j9 h9 => by rw [← eM13]; exact up2_ne h9
  have hM13r : ∀ b9, b9 ≠ r → M13 b9 = M12 b9 := fun b9 h9 => by rw [← eM13]; exact up2_row h9
  refine J_aload_n hx dX7_takeFrom_136 (i := 0) rfl rfl ?_
  refine J_aload_n hx dX7_takeFrom_137 (i := 1) rfl rfl ?_
  refine J_getI2 (v := B.sc 5) hx fl_X7_148 cl_X7 dX7_takeFrom_138 hTf.o (by decide) rfl (by rw [hM13o _ _ (Or.inl (by omega)), hM12o _ _ (Or.inl (by omega)), hM11o _ _ (Or.inl (by omega)), hM10o _ _ (Or.inl (by omega)), hM9r _ (by omega), hM8r _ (by omega), hM7r _ (by omega), hM6r _ (by omega), hM5r _ (by omega), hM4r _ (by omega), hM3r _ (by omega), hM2r _ (by omega), hM1o _ _ (Or.inl (by omega))]; exact hNf.s5) ?_
  refine J_putI hx fl_X7_148 cl_X7 dX7_takeFrom_141 hT.o (by decide) rfl (Or.inl rfl) (by decide) ?_
  generalize eM14 : up2 M13 r 21 (B.sc 5) = M14
  have hM14a : M14 r 21 = B.sc 5 := by rw [← eM14]; exact up2_at
  have hM14o : ∀ b9 j9, (b9 ≠ r ∨ j9 ≠ 21) → M14 b9 j9 = M13 b9 j9 := fun b9 j9 h9 => by rw [← eM14]; exact up2_ne h9
  have hM14r : ∀ b9, b9 ≠ r → M14 b9 = M13 b9 := fun b9 h9 => by rw [← eM14]; exact up2_row h9
  refine J_aload_n hx dX7_takeFrom_144 (i := 0) rfl rfl ?_
  refine J_aload_n hx dX7_takeFrom_145 (i := 1) rfl rfl ?_
  refine J_getI2 (v := B.sc 6) hx fl_X7_274 cl_X7 dX7_takeFrom_146 hTf.o (by decide) rfl (by rw [hM14o _ _ (Or.inl (by omega)), hM13o _ _ (Or.inl (by omega)), hM12o _ _ (Or.inl (by omega)), hM11o _ _ (Or.inl (by omega)), hM10o _ _ (Or.inl (by omega)), hM9r _ (by omega), hM8r _ (by omega), hM7r _ (by omega), hM6r _ (by omega), hM5r _ (by omega), hM4r _ (by omega), hM3r _ (by omega), hM2r _ (by omega), hM1o _ _ (Or.inl (by omega))]; exact hNf.s6) ?_
  refine J_putI hx fl_X7_274 cl_X7 dX7_takeFrom_149 hT.o (by decide) rfl (Or.inl rfl) (by decide) ?_
  generalize eM15 : up2 M14 r 22 (B.sc 6) = M15
  have hM15a : M15 r 22 = B.sc 6 := by rw [← eM15]; exact up2_at
  have hM15o : ∀ b9 j9, (b9 ≠ r ∨ j9 ≠ 22) → M15 b9 j9 = M14 b9 j9 := fun b9 j9 h9 => by rw [← eM15]; exact up2_ne h9
  have hM15r : ∀ b9, b9 ≠ r → M15 b9 = M14 b9 := fun b9 h9 => by rw [← eM15]; exact up2_row h9
  refine J_aload_n hx dX7_takeFrom_152 (i := 0) rfl rfl ?_
  refine J_aload_n hx dX7_takeFrom_153 (i := 1) rfl rfl ?_
  refine J_getI2 (v := B.sc 7) hx fl_X7_70 cl_X7 dX7_takeFrom_154 hTf.o (by decide) rfl (by rw [hM15o _ _ (Or.inl (by omega)), hM14o _ _ (Or.inl (by omega)), hM13o _ _ (Or.inl (by omega)), hM12o _ _ (Or.inl (by omega)), hM11o _ _ (Or.inl (by omega)), hM10o _ _ (Or.inl (by omega)), hM9r _ (by omega), hM8r _ (by omega), hM7r _ (by omega), hM6r _ (by omega), hM5r _ (by omega), hM4r _ (by omega), hM3r _ (by omega), hM2r _ (by omega), hM1o _ _ (Or.inl (by omega))]; exact hNf.s7) ?_
  refine J_putI hx fl_X7_70 cl_X7 dX7_takeFrom_157 hT.o (by decide) rfl (Or.inl rfl) (by decide) ?_
  generalize eM16 : up2 M15 r 23 (B.sc 7) = M16
  have hM16a : M16 r 23 = B.sc 7 := by rw [← eM16]; exact up2_at
  have hM16o : ∀ b9 j9, (b9 ≠ r ∨ j9 ≠ 23) → M16 b9 j9 = M15 b9 j9 := fun b9 j9 h9 => by rw [← eM16]; exact up2_ne h9
  have hM16r : ∀ b9, b9 ≠ r → M16 b9 = M15 b9 := fun b9 h9 => by rw [← eM16]; exact up2_row h9
  refine J_vret hx hr dX7_takeFrom_160 ?_
  have hn8 := hW.n8
  have hl0 := hW.len8 (c := 0) (by decide)
  have hl1 := hW.len8 (c := 1) (by decide)
  refine hQ M16 ⟨fun f9 hf9 i hi => ?_, fun c9 hc9 k9 hk9 => ?_, fun c9 hc9 => ?_, ?_, fun q h1 h2 => ?_⟩ (fun a9 i9 h1 h2 => by rw [hM16o _ _ (by omega), hM15o _ _ (by omega), hM14o _ _ (by omega), hM13o _ _ (by omega), hM12o _ _ (by omega), hM11o _ _ (by omega), hM10o _ _ (by omega), hM9r _ (by omega), hM8r _ (by omega), hM7r _ (by omega), hM6r _ (by omega), hM5r _ (by omega), hM4r _ (by omega), hM3r _ (by omega), hM2r _ (by omega), hM1o _ _ (by omega)])
  · rcases (show f9 = 0 ∨ f9 = 1 ∨ f9 = 2 ∨ f9 = 3 ∨ f9 = 4 by omega) with rfl | rfl | rfl | rfl | rfl
    · rw [show r + 17 + 0 = r + 17 by omega]; rw [hM16r _ (by omega), hM15r _ (by omega), hM14r _ (by omega), hM13r _ (by omega), hM12r _ (by omega), hM11r _ (by omega), hM10r _ (by omega), hM9r _ (by omega), hM8r _ (by omega), hM7r _ (by omega), hM6r _ (by omega), hM5r _ (by omega), hM4r _ (by omega), hM3r _ (by omega), hM2a _ (by omega), hM1r _ (by omega)]; exact hNf.1 0 (by decide) i hi
    · rw [show r + 17 + 1 = r + 18 by omega]; rw [hM16r _ (by omega), hM15r _ (by omega), hM14r _ (by omega), hM13r _ (by omega), hM12r _ (by omega), hM11r _ (by omega), hM10r _ (by omega), hM9r _ (by omega), hM8r _ (by omega), hM7r _ (by omega), hM6r _ (by omega), hM5r _ (by omega), hM4r _ (by omega), hM3a _ (by omega), hM2r _ (by omega), hM1r _ (by omega)]; exact hNf.1 1 (by decide) i hi
    · rw [show r + 17 + 2 = r + 19 by omega]; rw [hM16r _ (by omega), hM15r _ (by omega), hM14r _ (by omega), hM13r _ (by omega), hM12r _ (by omega), hM11r _ (by omega), hM10r _ (by omega), hM9r _ (by omega), hM8r _ (by omega), hM7r _ (by omega), hM6r _ (by omega), hM5r _ (by omega), hM4a _ (by omega), hM3r _ (by omega), hM2r _ (by omega), hM1r _ (by omega)]; exact hNf.1 2 (by decide) i hi
    · rw [show r + 17 + 3 = r + 20 by omega]; rw [hM16r _ (by omega), hM15r _ (by omega), hM14r _ (by omega), hM13r _ (by omega), hM12r _ (by omega), hM11r _ (by omega), hM10r _ (by omega), hM9r _ (by omega), hM8r _ (by omega), hM7r _ (by omega), hM6r _ (by omega), hM5a _ (by omega), hM4r _ (by omega), hM3r _ (by omega), hM2r _ (by omega), hM1r _ (by omega)]; exact hNf.1 3 (by decide) i hi
    · rw [show r + 17 + 4 = r + 21 by omega]; rw [hM16r _ (by omega), hM15r _ (by omega), hM14r _ (by omega), hM13r _ (by omega), hM12r _ (by omega), hM11r _ (by omega), hM10r _ (by omega), hM9r _ (by omega), hM8r _ (by omega), hM7r _ (by omega), hM6a _ (by omega), hM5r _ (by omega), hM4r _ (by omega), hM3r _ (by omega), hM2r _ (by omega), hM1r _ (by omega)]; exact hNf.1 4 (by decide) i hi
  · rcases (show c9 = 0 ∨ c9 = 1 by omega) with rfl | rfl
    · rw [show r + 23 + 0 = r + 23 by omega]; rw [hM16r _ (by omega), hM15r _ (by omega), hM14r _ (by omega), hM13r _ (by omega), hM12r _ (by omega), hM11r _ (by omega), hM10r _ (by omega), hM9r _ (by omega), hM8r _ (by omega), hM7a _ (by omega), hM6r _ (by omega), hM5r _ (by omega), hM4r _ (by omega), hM3r _ (by omega), hM2r _ (by omega), hM1r _ (by omega)]; exact hNf.ln (c := 0) (by decide) hk9
    · rw [show r + 23 + 1 = r + 24 by omega]; rw [hM16r _ (by omega), hM15r _ (by omega), hM14r _ (by omega), hM13r _ (by omega), hM12r _ (by omega), hM11r _ (by omega), hM10r _ (by omega), hM9r _ (by omega), hM8a _ (by omega), hM7r _ (by omega), hM6r _ (by omega), hM5r _ (by omega), hM4r _ (by omega), hM3r _ (by omega), hM2r _ (by omega), hM1r _ (by omega)]; exact hNf.ln (c := 1) (by decide) hk9
  · rw [hM16r _ (by omega), hM15r _ (by omega), hM14r _ (by omega), hM13r _ (by omega), hM12r _ (by omega), hM11r _ (by omega), hM10r _ (by omega), hM9a _ (by omega), hM8r _ (by omega), hM7r _ (by omega), hM6r _ (by omega), hM5r _ (by omega), hM4r _ (by omega), hM3r _ (by omega), hM2r _ (by omega), hM1r _ (by omega)]; exact hNf.sz hc9
  · rw [hM16o _ _ (Or.inr (by decide)), hM15o _ _ (Or.inr (by decide)), hM14o _ _ (Or.inr (by decide)), hM13o _ _ (Or.inr (by decide)), hM12o _ _ (Or.inr (by decide)), hM11o _ _ (Or.inr (by decide)), hM10o _ _ (Or.inr (by decide)), hM9r _ (by omega), hM8r _ (by omega), hM7r _ (by omega), hM6r _ (by omega), hM5r _ (by omega), hM4r _ (by omega), hM3r _ (by omega), hM2r _ (by omega), hM1a]
  · rcases (show q = 1 ∨ q = 2 ∨ q = 3 ∨ q = 4 ∨ q = 5 ∨ q = 6 ∨ q = 7 by omega) with rfl | rfl | rfl | rfl | rfl | rfl | rfl
    · rw [show 16 + 1 = 17 from rfl]; rw [hM16o _ _ (Or.inr (by decide)), hM15o _ _ (Or.inr (by decide)), hM14o _ _ (Or.inr (by decide)), hM13o _ _ (Or.inr (by decide)), hM12o _ _ (Or.inr (by decide)), hM11o _ _ (Or.inr (by decide)), hM10a]
    · rw [show 16 + 2 = 18 from rfl]; rw [hM16o _ _ (Or.inr (by decide)), hM15o _ _ (Or.inr (by decide)), hM14o _ _ (Or.inr (by decide)), hM13o _ _ (Or.inr (by decide)), hM12o _ _ (Or.inr (by decide)), hM11a]
    · rw [show 16 + 3 = 19 from rfl]; rw [hM16o _ _ (Or.inr (by decide)), hM15o _ _ (Or.inr (by decide)), hM14o _ _ (Or.inr (by decide)), hM13o _ _ (Or.inr (by decide)), hM12a]
    · rw [show 16 + 4 = 20 from rfl]; rw [hM16o _ _ (Or.inr (by decide)), hM15o _ _ (Or.inr (by decide)), hM14o _ _ (Or.inr (by decide)), hM13a]
    · rw [show 16 + 5 = 21 from rfl]; rw [hM16o _ _ (Or.inr (by decide)), hM15o _ _ (Or.inr (by decide)), hM14a]
    · rw [show 16 + 6 = 22 from rfl]; rw [hM16o _ _ (Or.inr (by decide)), hM15a]
    · rw [show 16 + 7 = 23 from rfl]; rw [hM16a]

