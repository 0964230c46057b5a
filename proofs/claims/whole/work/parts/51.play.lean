def chgI (B : YA) (last : Int) : Nat := if leadY B ≠ -1 ∧ last ≠ -1 ∧ last ≠ leadY B then 1 else 0
def lstI (B : YA) (last : Int) : Int := if leadY B = -1 then last else leadY B
/-- a play by a rule to its end: the yard behind it, changes of who leads, length -/
def plyZ (rule : Int) : Nat → YA → Int → Nat → Nat → YA × Nat × Nat
  | 0, A, _, c, n => (A, c, n)
  | k + 1, A, last, c, n => if ((A.ch 0).length < 2 ∨ (A.ch 1).length < 2 ∨ A.sc 4 ≤ A.sc 6) then (A, c, n) else plyZ rule k (playY A rule) (lstI (playY A rule) last) (c + chgI (playY A rule) last) (n + 1)
theorem plyZ_over {A : YA} (h : overY A) (rule last : Int) (k c n : Nat) : plyZ rule k A last c n = (A, c, n) := by
  cases k with
  | zero => rfl
  | succ k => exact if_pos h
theorem plyZ_go {A : YA} (h : ¬ overY A) (rule last : Int) (k c n : Nat) : plyZ rule (k + 1) A last c n = plyZ rule k (playY A rule) (lstI (playY A rule) last) (c + chgI (playY A rule) last) (n + 1) := if_neg h
theorem playY_s (A : YA) (rule : Int) : (playY A rule).sc 6 = A.sc 6 + 1 ∧ (playY A rule).sc 4 = A.sc 4 := by
  unfold playY
  split <;> exact ⟨rfl, rfl⟩
theorem fuel {A : YA} (hW : WFY A) (h : ¬ overY A) {k : Nat} (hk : 99 ≤ A.sc 6 + (k : Int)) : ∃ k', k = k' + 1 ∧ 99 ≤ (A.sc 6 + 1) + (k' : Int) := by
  have h1 := not_over h; have h2 := hW.s4
  exact ⟨k - 1, by omega, by omega⟩
theorem plyZ_end {rule : Int} : ∀ (k : Nat) {A : YA} (_ : WFY A) (_ : 99 ≤ A.sc 6 + (k : Int)) (last : Int) (c n : Nat), overY (plyZ rule k A last c n).1 ∧ WFY (plyZ rule k A last c n).1 ∧ (plyZ rule k A last c n).1.sc 6 = A.sc 6 + (((plyZ rule k A last c n).2.2 : Nat) : Int) - ((n : Nat) : Int) ∧ (plyZ rule k A last c n).2.2 ≤ n + k
  | 0, A, hW, h, last, c, n => by
    have h2 := hW.s4; have h3 := hW.s6
    exact ⟨by show overY A; unfold overY; omega, hW, by show A.sc 6 = A.sc 6 + ((n : Nat) : Int) - ((n : Nat) : Int); omega, Nat.le_refl _⟩
  | k + 1, A, hW, h, last, c, n => by
    by_cases ho : overY A
    · rw [plyZ_over ho]; exact ⟨ho, hW, by dsimp only; omega, by dsimp only; omega⟩
    · rw [plyZ_go ho]
      have h1 := playY_s A rule
      obtain ⟨i1, i2, i3, i4⟩ := plyZ_end (rule := rule) k (playY_wf hW ho rule) (by rw [h1.1]; omega) (lstI (playY A rule) last) (c + chgI (playY A rule) last) (n + 1)
      exact ⟨i1, i2, by rw [i3, h1.1]; omega, by omega⟩
theorem lead_rg (A : YA) : leadY A = -1 ∨ leadY A = 0 ∨ leadY A = 1 := by
  unfold leadY
  split
  · exact Or.inl rfl
  · split
    · exact Or.inr (Or.inl rfl)
    · exact Or.inr (Or.inr rfl)
theorem lst_rg {B : YA} {last : Int} (h : -1 ≤ last ∧ last ≤ 1) : -1 ≤ lstI B last ∧ lstI B last ≤ 1 := by
  have := lead_rg B
  unfold lstI; split <;> omega
theorem plyZ_c {rule : Int} : ∀ (k : Nat) {A : YA} (last : Int) (c n : Nat), (plyZ rule k A last c n).2.1 ≤ c + k
  | 0, A, last, c, n => Nat.le_refl _
  | k + 1, A, last, c, n => by
    by_cases ho : overY A
    · rw [plyZ_over ho]; dsimp only; omega
    · rw [plyZ_go ho]
      have i := plyZ_c (rule := rule) k (A := playY A rule) (lstI (playY A rule) last) (c + chgI (playY A rule) last) (n + 1)
      have : chgI (playY A rule) last ≤ 1 := by unfold chgI; split <;> omega
      omega
theorem playY_1 {A : YA} {rule : Int} {p : Nat} (e : whoY A rule = ((p : Nat) : Int)) (h : 500000 ≤ oddsY A p (atY A p)) : playY A rule = runT A p (atY A p) (takenY A (atY A p) (sidY A (atY A p))) := by
  unfold playY; rw [e]; simp only [Int.toNat_natCast]; exact if_pos h
theorem playY_0 {A : YA} {rule : Int} {p : Nat} (e : whoY A rule = ((p : Nat) : Int)) (h : ¬ 500000 ≤ oddsY A p (atY A p)) : playY A rule = runH A p (atY A p) := by
  unfold playY; rw [e]; simp only [Int.toNat_natCast]; exact if_neg h
theorem c_X5_comeT {g : WG} {d : Nat} {T : TT} {M : MM} {r sz : Nat} {A : YA} {Q : MVal → TT → MM → Nat → Prop} (hT : YT T r) (hN : YN M r A) (hW : WFY A) {p j sd : Nat} (hp : p < A.n) (hc : A.co p ≠ A.tn) (hj : j + 1 < (A.ch A.tn).length) (ho : ¬ overY A) (hsd : sd < 2) (hQ : ∀ M', YN M' r (runT A p j (takenY A j sd)) → FrY r M M' → Q vU T M' sz) : Ct g (d + 2) mX5_comeToPass [vR r, vI ((p : Nat) : Int), vI ((j : Nat) : Int), vI (1 + ((sd : Nat) : Int))] T M sz 0 0 Q := by
  rcases (show sd = 0 ∨ sd = 1 by omega) with rfl | rfl
  · exact c_X5_comeToPass_torn1 hT hN hW hp hc hj ho hQ
  · exact c_X5_comeToPass_torn2 hT hN hW hp hc hj ho hQ
theorem c_X5_sideT {g : WG} {d : Nat} {T : TT} {M : MM} {r sz : Nat} {A : YA} {Q : MVal → TT → MM → Nat → Prop} (hT : YT T r) (hN : YN M r A) (hW : WFY A) {j : Nat} (hj : j + 1 < (A.ch A.tn).length) (hQ : Q (vI ((sidY A j : Nat) : Int)) T M sz) : Ct g (d + 2) mX5_sideTaken [vR r, vI ((j : Nat) : Int)] T M sz 0 0 Q :=
  c_X5_sideTaken hT hN hW hj (fun v hv => Qv hQ (by unfold sidY; split <;> omega))
def a_play (S : ST) (rule w : Int) : Int × ST := if ¬ ((rule = 0 ∨ rule = 1) ∧ 0 ≤ w ∧ w ≤ 2) then rA S 0 else if w = 0 then (leadY (plyZ rule 99 S.1 (-1) 0 0).1, S) else if w = 1 then ((((plyZ rule 99 S.1 (-1) 0 0).2.2 : Nat) : Int), S) else ((((plyZ rule 99 S.1 (-1) 0 0).1.ch 0).length : Nat), S)
def a_leads (S : ST) (rule : Int) : Int × ST := if ¬ (rule = 0 ∨ rule = 1) then rA S 0 else ((((plyZ rule 99 S.1 (-1) 0 0).2.1 : Nat) : Int), S)
set_option maxHeartbeats 4000000 in
theorem lp_X2_playFrom {g : WG} {d : Nat} {T : TT} {M : MM} {o sz : Nat} {S : ST} {Q : MVal → TT → MM → Nat → Prop} (hC : CT T o) (hN : CN M o S) (hW : WFS S) {x : CX} (hx : OKx g x RX2 cX2_playFrom (d + 6)) (hr : RTx g x none Q) {rule last : Int} {A : YA} {M1 : MM} (k i : Nat) (hWA : WFY A) (hk : 99 ≤ A.sc 6 + (k : Int)) (hi : i + k = 99) (hlast : -1 ≤ last ∧ last ≤ 1) (hY1 : YN M1 (o + 23) A) {n : Nat} (hl1 : M1 (o + 34) 1 = ((n : Nat) : Int)) {c : Nat} (hc1 : M1 (o + 34) 2 = ((c : Nat) : Int)) (hn1 : n + k ≤ 99) (hcb : c + k ≤ 99) (hF1 : ∀ a, a ≠ o + 34 → (a < o + 23 ∨ o + 34 ≤ a) → M1 a = M a) (u5 u6 u7 u8 : MVal) (hQ : ∀ M', YN M' (o + 23) (plyZ rule k A last c n).1 → M' (o + 34) 1 = (((plyZ rule k A last c n).2.2 : Nat) : Int) → M' (o + 34) 2 = (((plyZ rule k A last c n).2.1 : Nat) : Int) → (∀ a, a ≠ o + 34 → (a < o + 23 ∨ o + 34 ≤ a) → M' a = M a) → Q vU T M' sz) : Jd g x 23 [vR (o + 34), vR (o + 1), vI (rule), vI (last), vI (((i : Nat) : Int)), u5, u6, u7, u8] [] T M1 sz 0 0 := by
  refine J_iload hx dX2_playFrom_23 rfl ?_
  refine J_bipush (v := 99) hx dX2_playFrom_25 (by decide) ?_
  refine J_icmp_ge (tgt := 174) hx dX2_playFrom_27 (by decide) (fun c1 => ?_) (fun c1 => ?_)
  · refine J_vret hx hr dX2_playFrom_174 ?_
    have hov : overY A := by
      by_cases h9 : overY A
      · exact h9
      · obtain ⟨k9, e9, -⟩ := fuel hWA h9 hk
        exfalso; unfold overY at *; omega
    rw [plyZ_over hov] at hQ
    exact hQ M1 hY1 hl1 hc1 hF1
  · refine J_aload_n hx dX2_playFrom_30 (i := 0) rfl rfl ?_
    refine J_getR (b := o + 23) hx fl_X2_9 cl_X2 dX2_playFrom_31 hC.k34 (by decide) rfl hC.p0 ?_
    refine J_invV (As := []) (st := []) hx lk_X2_28 okX5_isOver dX2_playFrom_34 hC.y2.o (by decide) rfl rfl rfl (Nat.le_of_ble_eq_true rfl) (Nat.zero_add _).symm (Nat.zero_add _).symm rfl (c_X5_isOver hC.y2 hY1 hWA  ?_)
    intro v2 hv2
    refine J_if_ne (tgt := 174) hx dX2_playFrom_37 (by decide) (fun c3 => ?_) (fun c3 => ?_)
    · refine J_vret hx hr dX2_playFrom_174 ?_
      have hov : overY A := by
        by_cases h9 : overY A
        · exact h9
        · obtain ⟨k9, e9, -⟩ := fuel hWA h9 hk
          exfalso; unfold overY at *; omega
      rw [plyZ_over hov] at hQ
      exact hQ M1 hY1 hl1 hc1 hF1
    · have ho : ¬ overY A := fun q9 => by unfold overY at *; omega
      obtain ⟨k, rfl, hk2⟩ := fuel hWA ho hk
      obtain ⟨p, ew, hp, hcl⟩ := who_some hWA ho rule
      have hnv := not_over2 hWA ho
      have hps := playY_s A rule
      have rgo : 0 ≤ oddsY A p (atY A p) ∧ oddsY A p (atY A p) ≤ 1000000 := oddsB_rg hWA _ _
      refine J_aload_n hx dX2_playFrom_40 (i := 0) rfl rfl ?_
      refine J_getR (b := o + 23) hx fl_X2_9 cl_X2 dX2_playFrom_41 hC.k34 (by decide) rfl hC.p0 ?_
      refine J_iload_n hx dX2_playFrom_44 (i := 2) rfl rfl ?_
      refine J_invV (As := [vI (rule)]) (st := []) hx lk_X2_32 okX5_whoIsCalled dX2_playFrom_45 hC.y2.o (by decide) rfl rfl rfl (Nat.le_of_ble_eq_true rfl) (Nat.zero_add _).symm (Nat.zero_add _).symm rfl (c_X5_whoIsCalled hC.y2 hY1 hWA (rule := rule) ?_)
      rw [ew]
      refine J_istore (lsn := [vR (o + 34), vR (o + 1), vI (rule), vI (last), vI (((i : Nat) : Int)), vI (((p : Nat) : Int)), u6, u7, u8]) hx dX2_playFrom_48 (Nat.le_of_ble_eq_true rfl) rfl rfl ?_
      refine J_aload_n hx dX2_playFrom_50 (i := 0) rfl rfl ?_
      refine J_getR (b := o + 23) hx fl_X2_9 cl_X2 dX2_playFrom_51 hC.k34 (by decide) rfl hC.p0 ?_
      refine J_iload hx dX2_playFrom_54 rfl ?_
      refine J_invV (As := [vI (((p : Nat) : Int))]) (st := []) hx lk_X2_36 okX5_jointFor dX2_playFrom_56 hC.y2.o (by decide) rfl rfl rfl (Nat.le_of_ble_eq_true rfl) (Nat.zero_add _).symm (Nat.zero_add _).symm rfl (c_X5_jointFor hC.y2 hY1 hWA (p := p) hp (by omega) ?_)
      have hj := atY_lt (A := A) (by omega) p
      refine J_istore (lsn := [vR (o + 34), vR (o + 1), vI (rule), vI (last), vI (((i : Nat) : Int)), vI (((p : Nat) : Int)), vI (((atY A p : Nat) : Int)), u7, u8]) hx dX2_playFrom_59 (Nat.le_of_ble_eq_true rfl) rfl rfl ?_
      refine J_aload_n hx dX2_playFrom_61 (i := 0) rfl rfl ?_
      refine J_getR (b := o + 23) hx fl_X2_9 cl_X2 dX2_playFrom_62 hC.k34 (by decide) rfl hC.p0 ?_
      refine J_iload hx dX2_playFrom_65 rfl ?_
      refine J_iload hx dX2_playFrom_67 rfl ?_
      refine J_invV (As := [vI (((p : Nat) : Int)), vI (((atY A p : Nat) : Int))]) (st := []) hx lk_X2_39 okX5_oddsOf dX2_playFrom_69 hC.y2.o (by decide) rfl rfl rfl (Nat.le_of_ble_eq_true rfl) (Nat.zero_add _).symm (Nat.zero_add _).symm rfl (c_X5_oddsOf hC.y2 hY1 hWA (p := p) hp (j := atY A p) hj ?_)
      refine J_ldc (v := 500000) hx ct_X2_43 dX2_playFrom_72 (by decide) ?_
      refine J_icmp_lt (tgt := 81) hx dX2_playFrom_74 (by decide) (fun c4 => ?_) (fun c4 => ?_)
      · refine J_iconst (v := 0) hx dX2_playFrom_81 (by decide) ?_
        refine J_istore (lsn := [vR (o + 34), vR (o + 1), vI (rule), vI (last), vI (((i : Nat) : Int)), vI (((p : Nat) : Int)), vI (((atY A p : Nat) : Int)), vI (0), u8]) hx dX2_playFrom_82 (Nat.le_of_ble_eq_true rfl) rfl rfl ?_
        refine J_aload_n hx dX2_playFrom_84 (i := 0) rfl rfl ?_
        refine J_getR (b := o + 23) hx fl_X2_9 cl_X2 dX2_playFrom_85 hC.k34 (by decide) rfl hC.p0 ?_
        refine J_iload hx dX2_playFrom_88 rfl ?_
        refine J_iload hx dX2_playFrom_90 rfl ?_
        refine J_iload hx dX2_playFrom_92 rfl ?_
        refine J_if_eq (tgt := 111) hx dX2_playFrom_94 (by decide) (fun _ => ?_) (fun c9 => absurd c9 (by decide))
        refine J_iconst (v := 0) hx dX2_playFrom_111 (by decide) ?_
        refine J_invVv (As := [vI (((p : Nat) : Int)), vI (((atY A p : Nat) : Int)), vI (0)]) (st := []) hx lk_X2_47 okX5_comeToPass dX2_playFrom_112 hC.y2.o (by decide) rfl rfl rfl (Nat.le_of_ble_eq_true rfl) (Nat.zero_add _).symm (Nat.zero_add _).symm rfl (c_X5_comeToPass_held hC.y2 hY1 hWA (p := p) (j := atY A p) hp hcl hj ho ?_)
        intro M2 hY2 hF2
        rw [← playY_0 ew (by omega)] at hY2
        refine J_aload_n hx dX2_playFrom_115 (i := 0) rfl rfl ?_
        refine J_dup hx dX2_playFrom_116 rfl ?_
        refine J_getI2 (v := ((n : Nat) : Int)) hx fl_X2_21 cl_X2 dX2_playFrom_117 hC.k34 (by decide) rfl (by rw [hF2 _ (by omega)]; exact hl1) ?_
        refine J_iconst (v := 1) hx dX2_playFrom_120 (by decide) ?_
        refine J_iadd (v := ((n : Nat) : Int) + 1) hx dX2_playFrom_121 (w32_id (by omega) (by omega)) ?_
        refine J_putI hx fl_X2_21 cl_X2 dX2_playFrom_122 hC.k34 (by decide) rfl (Or.inl rfl) (by decide) ?_
        generalize eM3 : up2 M2 (o + 34) 1 (((n : Nat) : Int) + 1) = M3
        have hM3a : M3 (o + 34) 1 = ((n : Nat) : Int) + 1 := by rw [← eM3]; exact up2_at
        have hM3o : ∀ b9 j9, (b9 ≠ o + 34 ∨ j9 ≠ 1) → M3 b9 j9 = M2 b9 j9 := fun b9 j9 h9 => by rw [← eM3]; exact up2_ne h9
        have hM3r : ∀ b9, b9 ≠ o + 34 → M3 b9 = M2 b9 := fun b9 h9 => by rw [← eM3]; exact up2_row h9
        refine J_aload_n hx dX2_playFrom_125 (i := 0) rfl rfl ?_
        refine J_getR (b := o + 23) hx fl_X2_9 cl_X2 dX2_playFrom_126 hC.k34 (by decide) rfl hC.p0 ?_
        refine J_invV (As := []) (st := []) hx lk_X2_51 okX5_leader dX2_playFrom_129 hC.y2.o (by decide) rfl rfl rfl (Nat.le_of_ble_eq_true rfl) (Nat.zero_add _).symm (Nat.zero_add _).symm rfl (c_X5_leader hC.y2 (hY2.same (fun a9 h8 h9 => hM3r a9 (by omega))) (playY_wf hWA ho rule) ?_)
        have hlr := lead_rg (playY A rule)
        refine J_istore (lsn := [vR (o + 34), vR (o + 1), vI (rule), vI (last), vI (((i : Nat) : Int)), vI (((p : Nat) : Int)), vI (((atY A p : Nat) : Int)), vI (0), vI (leadY (playY A rule))]) hx dX2_playFrom_132 (Nat.le_of_ble_eq_true rfl) rfl rfl ?_
        refine J_iload hx dX2_playFrom_134 rfl ?_
        refine J_iconst (v := -1) hx dX2_playFrom_136 (by decide) ?_
        refine J_icmp_eq (tgt := 168) hx dX2_playFrom_137 (by decide) (fun c6 => ?_) (fun c6 => ?_)
        · refine J_iinc (v := ((i : Nat) : Int) + 1) (lsn := [vR (o + 34), vR (o + 1), vI (rule), vI (last), vI (((i : Nat) : Int) + 1), vI (((p : Nat) : Int)), vI (((atY A p : Nat) : Int)), vI (0), vI (leadY (playY A rule))]) hx dX2_playFrom_168 rfl (jinc1 (by omega) (by omega)) rfl rfl ?_
          refine J_goto (tgt := 23) hx dX2_playFrom_171 (by decide) ?_
          have hF9 : ∀ a, a ≠ o + 34 → (a < o + 23 ∨ o + 34 ≤ a) → M3 a = M a := fun a9 h8 h9 => by rw [hM3r a9 h8, hF2 a9 (by omega)]; exact hF1 a9 h8 h9
          have e1 : lstI (playY A rule) last = last := by unfold lstI; rw [if_pos (by omega)]
          have e2 : chgI (playY A rule) last = 0 := by unfold chgI; rw [if_neg (by omega)]
          exact lp_X2_playFrom hC hN hW hx hr k (i + 1) (playY_wf hWA ho rule) (by rw [hps.1]; omega) (by omega) hlast (hY2.same (fun a9 h8 h9 => hM3r a9 (by omega))) (n := n + 1) (by rw [hM3a]; omega) (c := c) (by rw [hM3o _ _ (Or.inr (by decide)), hF2 _ (by omega)]; exact hc1) (by omega) (by omega) hF9 _ _ _ _ (fun M9 h6 h7 h8 h9 => by
            have hZ := plyZ_go ho rule last k c n
            rw [e1, e2, Nat.add_zero c] at hZ
            rw [← hZ] at h6 h7 h8
            exact hQ M9 h6 h7 h8 h9)
        · refine J_aload_n hx dX2_playFrom_140 (i := 0) rfl rfl ?_
          refine J_dup hx dX2_playFrom_141 rfl ?_
          refine J_getI2 (v := ((c : Nat) : Int)) hx fl_X2_25 cl_X2 dX2_playFrom_142 hC.k34 (by decide) rfl (by rw [hM3o _ _ (Or.inr (by decide)), hF2 _ (by omega)]; exact hc1) ?_
          refine J_iload_n hx dX2_playFrom_145 (i := 3) rfl rfl ?_
          refine J_iconst (v := -1) hx dX2_playFrom_146 (by decide) ?_
          refine J_icmp_eq (tgt := 160) hx dX2_playFrom_147 (by decide) (fun c7 => ?_) (fun c7 => ?_)
          · refine J_iconst (v := 0) hx dX2_playFrom_160 (by decide) ?_
            refine J_iadd (v := ((c : Nat) : Int) + 0) hx dX2_playFrom_161 (w32_id (by omega) (by omega)) ?_
            refine J_putI hx fl_X2_25 cl_X2 dX2_playFrom_162 hC.k34 (by decide) rfl (Or.inl rfl) (by decide) ?_
            generalize eM4 : up2 M3 (o + 34) 2 (((c : Nat) : Int) + 0) = M4
            have hM4a : M4 (o + 34) 2 = ((c : Nat) : Int) + 0 := by rw [← eM4]; exact up2_at
            have hM4o : ∀ b9 j9, (b9 ≠ o + 34 ∨ j9 ≠ 2) → M4 b9 j9 = M3 b9 j9 := fun b9 j9 h9 => by rw [← eM4]; exact up2_ne h9
            have hM4r : ∀ b9, b9 ≠ o + 34 → M4 b9 = M3 b9 := fun b9 h9 => by rw [← eM4]; exact up2_row h9
            refine J_iload hx dX2_playFrom_165 rfl ?_
            refine J_istore_n (lsn := [vR (o + 34), vR (o + 1), vI (rule), vI (leadY (playY A rule)), vI (((i : Nat) : Int)), vI (((p : Nat) : Int)), vI (((atY A p : Nat) : Int)), vI (0), vI (leadY (playY A rule))]) hx dX2_playFrom_167 (i := 3) rfl (Nat.le_of_ble_eq_true rfl) rfl rfl ?_
            refine J_iinc (v := ((i : Nat) : Int) + 1) (lsn := [vR (o + 34), vR (o + 1), vI (rule), vI (leadY (playY A rule)), vI (((i : Nat) : Int) + 1), vI (((p : Nat) : Int)), vI (((atY A p : Nat) : Int)), vI (0), vI (leadY (playY A rule))]) hx dX2_playFrom_168 rfl (jinc1 (by omega) (by omega)) rfl rfl ?_
            refine J_goto (tgt := 23) hx dX2_playFrom_171 (by decide) ?_
            have hF9 : ∀ a, a ≠ o + 34 → (a < o + 23 ∨ o + 34 ≤ a) → M4 a = M a := fun a9 h8 h9 => by rw [hM4r a9 h8, hM3r a9 h8, hF2 a9 (by omega)]; exact hF1 a9 h8 h9
            have e1 : lstI (playY A rule) last = leadY (playY A rule) := by unfold lstI; rw [if_neg (by omega)]
            have e2 : chgI (playY A rule) last = 0 := by unfold chgI; rw [if_neg (by omega)]
            exact lp_X2_playFrom hC hN hW hx hr k (i + 1) (playY_wf hWA ho rule) (by rw [hps.1]; omega) (by omega) (by omega) (hY2.same (fun a9 h8 h9 => by rw [hM4r a9 (by omega), hM3r a9 (by omega)])) (n := n + 1) (by rw [hM4o _ _ (Or.inr (by decide)), hM3a]; omega) (c := c + 0) (by rw [hM4a]; omega) (by omega) (by omega) hF9 _ _ _ _ (fun M9 h6 h7 h8 h9 => by
              have hZ := plyZ_go ho rule last k c n
              rw [e1, e2] at hZ
              rw [← hZ] at h6 h7 h8
              exact hQ M9 h6 h7 h8 h9)
          · refine J_iload_n hx dX2_playFrom_150 (i := 3) rfl rfl ?_
            refine J_iload hx dX2_playFrom_151 rfl ?_
            refine J_icmp_eq (tgt := 160) hx dX2_playFrom_153 (by decide) (fun c8 => ?_) (fun c8 => ?_)
            · refine J_iconst (v := 0) hx dX2_playFrom_160 (by decide) ?_
              refine J_iadd (v := ((c : Nat) : Int) + 0) hx dX2_playFrom_161 (w32_id (by omega) (by omega)) ?_
              refine J_putI hx fl_X2_25 cl_X2 dX2_playFrom_162 hC.k34 (by decide) rfl (Or.inl rfl) (by decide) ?_
              generalize eM4 : up2 M3 (o + 34) 2 (((c : Nat) : Int) + 0) = M4
              have hM4a : M4 (o + 34) 2 = ((c : Nat) : Int) + 0 := by rw [← eM4]; exact up2_at
              have hM4o : ∀ b9 j9, (b9 ≠ o + 34 ∨ j9 ≠ 2) → M4 b9 j9 = M3 b9 j9 := fun b9 j9 h9 => by rw [← eM4]; exact up2_ne h9
              have hM4r : ∀ b9, b9 ≠ o + 34 → M4 b9 = M3 b9 := fun b9 h9 => by rw [← eM4]; exact up2_row h9
              refine J_iload hx dX2_playFrom_165 rfl ?_
              refine J_istore_n (lsn := [vR (o + 34), vR (o + 1), vI (rule), vI (leadY (playY A rule)), vI (((i : Nat) : Int)), vI (((p : Nat) : Int)), vI (((atY A p : Nat) : Int)), vI (0), vI (leadY (playY A rule))]) hx dX2_playFrom_167 (i := 3) rfl (Nat.le_of_ble_eq_true rfl) rfl rfl ?_
              refine J_iinc (v := ((i : Nat) : Int) + 1) (lsn := [vR (o + 34), vR (o + 1), vI (rule), vI (leadY (playY A rule)), vI (((i : Nat) : Int) + 1), vI (((p : Nat) : Int)), vI (((atY A p : Nat) : Int)), vI (0), vI (leadY (playY A rule))]) hx dX2_playFrom_168 rfl (jinc1 (by omega) (by omega)) rfl rfl ?_
              refine J_goto (tgt := 23) hx dX2_playFrom_171 (by decide) ?_
              have hF9 : ∀ a, a ≠ o + 34 → (a < o + 23 ∨ o + 34 ≤ a) → M4 a = M a := fun a9 h8 h9 => by rw [hM4r a9 h8, hM3r a9 h8, hF2 a9 (by omega)]; exact hF1 a9 h8 h9
              have e1 : lstI (playY A rule) last = leadY (playY A rule) := by unfold lstI; rw [if_neg (by omega)]
              have e2 : chgI (playY A rule) last = 0 := by unfold chgI; rw [if_neg (by omega)]
              exact lp_X2_playFrom hC hN hW hx hr k (i + 1) (playY_wf hWA ho rule) (by rw [hps.1]; omega) (by omega) (by omega) (hY2.same (fun a9 h8 h9 => by rw [hM4r a9 (by omega), hM3r a9 (by omega)])) (n := n + 1) (by rw [hM4o _ _ (Or.inr (by decide)), hM3a]; omega) (c := c + 0) (by rw [hM4a]; omega) (by omega) (by omega) hF9 _ _ _ _ (fun M9 h6 h7 h8 h9 => by
                have hZ := plyZ_go ho rule last k c n
                rw [e1, e2] at hZ
                rw [← hZ] at h6 h7 h8
                exact hQ M9 h6 h7 h8 h9)
            · refine J_iconst (v := 1) hx dX2_playFrom_156 (by decide) ?_
              refine J_goto (tgt := 161) hx dX2_playFrom_157 (by decide) ?_
              refine J_iadd (v := ((c : Nat) : Int) + 1) hx dX2_playFrom_161 (w32_id (by omega) (by omega)) ?_
              refine J_putI hx fl_X2_25 cl_X2 dX2_playFrom_162 hC.k34 (by decide) rfl (Or.inl rfl) (by decide) ?_
              generalize eM4 : up2 M3 (o + 34) 2 (((c : Nat) : Int) + 1) = M4
              have hM4a : M4 (o + 34) 2 = ((c : Nat) : Int) + 1 := by rw [← eM4]; exact up2_at
              have hM4o : ∀ b9 j9, (b9 ≠ o + 34 ∨ j9 ≠ 2) → M4 b9 j9 = M3 b9 j9 := fun b9 j9 h9 => by rw [← eM4]; exact up2_ne h9
              have hM4r : ∀ b9, b9 ≠ o + 34 → M4 b9 = M3 b9 := fun b9 h9 => by rw [← eM4]; exact up2_row h9
              refine J_iload hx dX2_playFrom_165 rfl ?_
              refine J_istore_n (lsn := [vR (o + 34), vR (o + 1), vI (rule), vI (leadY (playY A rule)), vI (((i : Nat) : Int)), vI (((p : Nat) : Int)), vI (((atY A p : Nat) : Int)), vI (0), vI (leadY (playY A rule))]) hx dX2_playFrom_167 (i := 3) rfl (Nat.le_of_ble_eq_true rfl) rfl rfl ?_
              refine J_iinc (v := ((i : Nat) : Int) + 1) (lsn := [vR (o + 34), vR (o + 1), vI (rule), vI (leadY (playY A rule)), vI (((i : Nat) : Int) + 1), vI (((p : Nat) : Int)), vI (((atY A p : Nat) : Int)), vI (0), vI (leadY (playY A rule))]) hx dX2_playFrom_168 rfl (jinc1 (by omega) (by omega)) rfl rfl ?_
              refine J_goto (tgt := 23) hx dX2_playFrom_171 (by decide) ?_
              have hF9 : ∀ a, a ≠ o + 34 → (a < o + 23 ∨ o + 34 ≤ a) → M4 a = M a := fun a9 h8 h9 => by rw [hM4r a9 h8, hM3r a9 h8, hF2 a9 (by omega)]; exact hF1 a9 h8 h9
              have e1 : lstI (playY A rule) last = leadY (playY A rule) := by unfold lstI; rw [if_neg (by omega)]
              have e2 : chgI (playY A rule) last = 1 := by unfold chgI; rw [if_pos (by omega)]
              exact lp_X2_playFrom hC hN hW hx hr k (i + 1) (playY_wf hWA ho rule) (by rw [hps.1]; omega) (by omega) (by omega) (hY2.same (fun a9 h8 h9 => by rw [hM4r a9 (by omega), hM3r a9 (by omega)])) (n := n + 1) (by rw [hM4o _ _ (Or.inr (by decide)), hM3a]; omega) (c := c + 1) (by rw [hM4a]; omega) (by omega) (by omega) hF9 _ _ _ _ (fun M9 h6 h7 h8 h9 => by
                have hZ := plyZ_go ho rule last k c n
                rw [e1, e2] at hZ
                rw [← hZ] at h6 h7 h8
                exact hQ M9 h6 h7 h8 h9)
      · refine J_iconst (v := 1) hx dX2_playFrom_77 (by decide) ?_
        refine J_goto (tgt := 82) hx dX2_playFrom_78 (by decide) ?_
        refine J_istore (lsn := [vR (o + 34), vR (o + 1), vI (rule), vI (last), vI (((i : Nat) : Int)), vI (((p : Nat) : Int)), vI (((atY A p : Nat) : Int)), vI (1), u8]) hx dX2_playFrom_82 (Nat.le_of_ble_eq_true rfl) rfl rfl ?_
        refine J_aload_n hx dX2_playFrom_84 (i := 0) rfl rfl ?_
        refine J_getR (b := o + 23) hx fl_X2_9 cl_X2 dX2_playFrom_85 hC.k34 (by decide) rfl hC.p0 ?_
        refine J_iload hx dX2_playFrom_88 rfl ?_
        refine J_iload hx dX2_playFrom_90 rfl ?_
        refine J_iload hx dX2_playFrom_92 rfl ?_
        refine J_if_eq (tgt := 111) hx dX2_playFrom_94 (by decide) (fun c9 => absurd c9 (by decide)) (fun _ => ?_)
        refine J_iconst (v := 1) hx dX2_playFrom_97 (by decide) ?_
        refine J_aload_n hx dX2_playFrom_98 (i := 0) rfl rfl ?_
        refine J_getR (b := o + 23) hx fl_X2_9 cl_X2 dX2_playFrom_99 hC.k34 (by decide) rfl hC.p0 ?_
        refine J_iload hx dX2_playFrom_102 rfl ?_
        refine J_invV (As := [vI (((atY A p : Nat) : Int))]) (st := [vI (1), vI (((atY A p : Nat) : Int)), vI (((p : Nat) : Int)), vR (o + 23)]) hx lk_X2_44 okX5_sideTaken dX2_playFrom_104 hC.y2.o (by decide) rfl rfl rfl (Nat.le_of_ble_eq_true rfl) (Nat.zero_add _).symm (Nat.zero_add _).symm rfl (c_X5_sideT hC.y2 hY1 hWA (j := atY A p) hj ?_)
        have hsd := sidY_lt A (atY A p)
        refine J_iadd (v := 1 + ((sidY A (atY A p) : Nat) : Int)) hx dX2_playFrom_107 (w32_id (by omega) (by omega)) ?_
        refine J_goto (tgt := 112) hx dX2_playFrom_108 (by decide) ?_
        refine J_invVv (As := [vI (((p : Nat) : Int)), vI (((atY A p : Nat) : Int)), vI (1 + ((sidY A (atY A p) : Nat) : Int))]) (st := []) hx lk_X2_47 okX5_comeToPass dX2_playFrom_112 hC.y2.o (by decide) rfl rfl rfl (Nat.le_of_ble_eq_true rfl) (Nat.zero_add _).symm (Nat.zero_add _).symm rfl (c_X5_comeT hC.y2 hY1 hWA (p := p) (j := atY A p) (sd := sidY A (atY A p)) hp hcl hj ho hsd ?_)
        intro M2 hY2 hF2
        rw [← playY_1 ew (by omega)] at hY2
        refine J_aload_n hx dX2_playFrom_115 (i := 0) rfl rfl ?_
        refine J_dup hx dX2_playFrom_116 rfl ?_
        refine J_getI2 (v := ((n : Nat) : Int)) hx fl_X2_21 cl_X2 dX2_playFrom_117 hC.k34 (by decide) rfl (by rw [hF2 _ (by omega)]; exact hl1) ?_
        refine J_iconst (v := 1) hx dX2_playFrom_120 (by decide) ?_
        refine J_iadd (v := ((n : Nat) : Int) + 1) hx dX2_playFrom_121 (w32_id (by omega) (by omega)) ?_
        refine J_putI hx fl_X2_21 cl_X2 dX2_playFrom_122 hC.k34 (by decide) rfl (Or.inl rfl) (by decide) ?_
        generalize eM3 : up2 M2 (o + 34) 1 (((n : Nat) : Int) + 1) = M3
        have hM3a : M3 (o + 34) 1 = ((n : Nat) : Int) + 1 := by rw [← eM3]; exact up2_at
        have hM3o : ∀ b9 j9, (b9 ≠ o + 34 ∨ j9 ≠ 1) → M3 b9 j9 = M2 b9 j9 := fun b9 j9 h9 => by rw [← eM3]; exact up2_ne h9
        have hM3r : ∀ b9, b9 ≠ o + 34 → M3 b9 = M2 b9 := fun b9 h9 => by rw [← eM3]; exact up2_row h9
        refine J_aload_n hx dX2_playFrom_125 (i := 0) rfl rfl ?_
        refine J_getR (b := o + 23) hx fl_X2_9 cl_X2 dX2_playFrom_126 hC.k34 (by decide) rfl hC.p0 ?_
        refine J_invV (As := []) (st := []) hx lk_X2_51 okX5_leader dX2_playFrom_129 hC.y2.o (by decide) rfl rfl rfl (Nat.le_of_ble_eq_true rfl) (Nat.zero_add _).symm (Nat.zero_add _).symm rfl (c_X5_leader hC.y2 (hY2.same (fun a9 h8 h9 => hM3r a9 (by omega))) (playY_wf hWA ho rule) ?_)
        have hlr := lead_rg (playY A rule)
        refine J_istore (lsn := [vR (o + 34), vR (o + 1), vI (rule), vI (last), vI (((i : Nat) : Int)), vI (((p : Nat) : Int)), vI (((atY A p : Nat) : Int)), vI (1), vI (leadY (playY A rule))]) hx dX2_playFrom_132 (Nat.le_of_ble_eq_true rfl) rfl rfl ?_
        refine J_iload hx dX2_playFrom_134 rfl ?_
        refine J_iconst (v := -1) hx dX2_playFrom_136 (by decide) ?_
        refine J_icmp_eq (tgt := 168) hx dX2_playFrom_137 (by decide) (fun c10 => ?_) (fun c10 => ?_)
        · refine J_iinc (v := ((i : Nat) : Int) + 1) (lsn := [vR (o + 34), vR (o + 1), vI (rule), vI (last), vI (((i : Nat) : Int) + 1), vI (((p : Nat) : Int)), vI (((atY A p : Nat) : Int)), vI (1), vI (leadY (playY A rule))]) hx dX2_playFrom_168 rfl (jinc1 (by omega) (by omega)) rfl rfl ?_
          refine J_goto (tgt := 23) hx dX2_playFrom_171 (by decide) ?_
          have hF9 : ∀ a, a ≠ o + 34 → (a < o + 23 ∨ o + 34 ≤ a) → M3 a = M a := fun a9 h8 h9 => by rw [hM3r a9 h8, hF2 a9 (by omega)]; exact hF1 a9 h8 h9
          have e1 : lstI (playY A rule) last = last := by unfold lstI; rw [if_pos (by omega)]
          have e2 : chgI (playY A rule) last = 0 := by unfold chgI; rw [if_neg (by omega)]
          exact lp_X2_playFrom hC hN hW hx hr k (i + 1) (playY_wf hWA ho rule) (by rw [hps.1]; omega) (by omega) hlast (hY2.same (fun a9 h8 h9 => hM3r a9 (by omega))) (n := n + 1) (by rw [hM3a]; omega) (c := c) (by rw [hM3o _ _ (Or.inr (by decide)), hF2 _ (by omega)]; exact hc1) (by omega) (by omega) hF9 _ _ _ _ (fun M9 h6 h7 h8 h9 => by
            have hZ := plyZ_go ho rule last k c n
            rw [e1, e2, Nat.add_zero c] at hZ
            rw [← hZ] at h6 h7 h8
            exact hQ M9 h6 h7 h8 h9)
        · refine J_aload_n hx dX2_playFrom_140 (i := 0) rfl rfl ?_
          refine J_dup hx dX2_playFrom_141 rfl ?_
          refine J_getI2 (v := ((c : Nat) : Int)) hx fl_X2_25 cl_X2 dX2_playFrom_142 hC.k34 (by decide) rfl (by rw [hM3o _ _ (Or.inr (by decide)), hF2 _ (by omega)]; exact hc1) ?_
          refine J_iload_n hx dX2_playFrom_145 (i := 3) rfl rfl ?_
          refine J_iconst (v := -1) hx dX2_playFrom_146 (by decide) ?_
          refine J_icmp_eq (tgt := 160) hx dX2_playFrom_147 (by decide) (fun c11 => ?_) (fun c11 => ?_)
          · refine J_iconst (v := 0) hx dX2_playFrom_160 (by decide) ?_
            refine J_iadd (v := ((c : Nat) : Int) + 0) hx dX2_playFrom_161 (w32_id (by omega) (by omega)) ?_
            refine J_putI hx fl_X2_25 cl_X2 dX2_playFrom_162 hC.k34 (by decide) rfl (Or.inl rfl) (by decide) ?_
            generalize eM4 : up2 M3 (o + 34) 2 (((c : Nat) : Int) + 0) = M4
            have hM4a : M4 (o + 34) 2 = ((c : Nat) : Int) + 0 := by rw [← eM4]; exact up2_at
            have hM4o : ∀ b9 j9, (b9 ≠ o + 34 ∨ j9 ≠ 2) → M4 b9 j9 = M3 b9 j9 := fun b9 j9 h9 => by rw [← eM4]; exact up2_ne h9
            have hM4r : ∀ b9, b9 ≠ o + 34 → M4 b9 = M3 b9 := fun b9 h9 => by rw [← eM4]; exact up2_row h9
            refine J_iload hx dX2_playFrom_165 rfl ?_
            refine J_istore_n (lsn := [vR (o + 34), vR (o + 1), vI (rule), vI (leadY (playY A rule)), vI (((i : Nat) : Int)), vI (((p : Nat) : Int)), vI (((atY A p : Nat) : Int)), vI (1), vI (leadY (playY A rule))]) hx dX2_playFrom_167 (i := 3) rfl (Nat.le_of_ble_eq_true rfl) rfl rfl ?_
            refine J_iinc (v := ((i : Nat) : Int) + 1) (lsn := [vR (o + 34), vR (o + 1), vI (rule), vI (leadY (playY A rule)), vI (((i : Nat) : Int) + 1), vI (((p : Nat) : Int)), vI (((atY A p : Nat) : Int)), vI (1), vI (leadY (playY A rule))]) hx dX2_playFrom_168 rfl (jinc1 (by omega) (by omega)) rfl rfl ?_
            refine J_goto (tgt := 23) hx dX2_playFrom_171 (by decide) ?_
            have hF9 : ∀ a, a ≠ o + 34 → (a < o + 23 ∨ o + 34 ≤ a) → M4 a = M a := fun a9 h8 h9 => by rw [hM4r a9 h8, hM3r a9 h8, hF2 a9 (by omega)]; exact hF1 a9 h8 h9
            have e1 : lstI (playY A rule) last = leadY (playY A rule) := by unfold lstI; rw [if_neg (by omega)]
            have e2 : chgI (playY A rule) last = 0 := by unfold chgI; rw [if_neg (by omega)]
            exact lp_X2_playFrom hC hN hW hx hr k (i + 1) (playY_wf hWA ho rule) (by rw [hps.1]; omega) (by omega) (by omega) (hY2.same (fun a9 h8 h9 => by rw [hM4r a9 (by omega), hM3r a9 (by omega)])) (n := n + 1) (by rw [hM4o _ _ (Or.inr (by decide)), hM3a]; omega) (c := c + 0) (by rw [hM4a]; omega) (by omega) (by omega) hF9 _ _ _ _ (fun M9 h6 h7 h8 h9 => by
              have hZ := plyZ_go ho rule last k c n
              rw [e1, e2] at hZ
              rw [← hZ] at h6 h7 h8
              exact hQ M9 h6 h7 h8 h9)
          · refine J_iload_n hx dX2_playFrom_150 (i := 3) rfl rfl ?_
            refine J_iload hx dX2_playFrom_151 rfl ?_
            refine J_icmp_eq (tgt := 160) hx dX2_playFrom_153 (by decide) (fun c12 => ?_) (fun c12 => ?_)
            · refine J_iconst (v := 0) hx dX2_playFrom_160 (by decide) ?_
              refine J_iadd (v := ((c : Nat) : Int) + 0) hx dX2_playFrom_161 (w32_id (by omega) (by omega)) ?_
              refine J_putI hx fl_X2_25 cl_X2 dX2_playFrom_162 hC.k34 (by decide) rfl (Or.inl rfl) (by decide) ?_
              generalize eM4 : up2 M3 (o + 34) 2 (((c : Nat) : Int) + 0) = M4
              have hM4a : M4 (o + 34) 2 = ((c : Nat) : Int) + 0 := by rw [← eM4]; exact up2_at
              have hM4o : ∀ b9 j9, (b9 ≠ o + 34 ∨ j9 ≠ 2) → M4 b9 j9 = M3 b9 j9 := fun b9 j9 h9 => by rw [← eM4]; exact up2_ne h9
              have hM4r : ∀ b9, b9 ≠ o + 34 → M4 b9 = M3 b9 := fun b9 h9 => by rw [← eM4]; exact up2_row h9
              refine J_iload hx dX2_playFrom_165 rfl ?_
              refine J_istore_n (lsn := [vR (o + 34), vR (o + 1), vI (rule), vI (leadY (playY A rule)), vI (((i : Nat) : Int)), vI (((p : Nat) : Int)), vI (((atY A p : Nat) : Int)), vI (1), vI (leadY (playY A rule))]) hx dX2_playFrom_167 (i := 3) rfl (Nat.le_of_ble_eq_true rfl) rfl rfl ?_
              refine J_iinc (v := ((i : Nat) : Int) + 1) (lsn := [vR (o + 34), vR (o + 1), vI (rule), vI (leadY (playY A rule)), vI (((i : Nat) : Int) + 1), vI (((p : Nat) : Int)), vI (((atY A p : Nat) : Int)), vI (1), vI (leadY (playY A rule))]) hx dX2_playFrom_168 rfl (jinc1 (by omega) (by omega)) rfl rfl ?_
              refine J_goto (tgt := 23) hx dX2_playFrom_171 (by decide) ?_
              have hF9 : ∀ a, a ≠ o + 34 → (a < o + 23 ∨ o + 34 ≤ a) → M4 a = M a := fun a9 h8 h9 => by rw [hM4r a9 h8, hM3r a9 h8, hF2 a9 (by omega)]; exact hF1 a9 h8 h9
              have e1 : lstI (playY A rule) last = leadY (playY A rule) := by unfold lstI; rw [if_neg (by omega)]
              have e2 : chgI (playY A rule) last = 0 := by unfold chgI; rw [if_neg (by omega)]
              exact lp_X2_playFrom hC hN hW hx hr k (i + 1) (playY_wf hWA ho rule) (by rw [hps.1]; omega) (by omega) (by omega) (hY2.same (fun a9 h8 h9 => by rw [hM4r a9 (by omega), hM3r a9 (by omega)])) (n := n + 1) (by rw [hM4o _ _ (Or.inr (by decide)), hM3a]; omega) (c := c + 0) (by rw [hM4a]; omega) (by omega) (by omega) hF9 _ _ _ _ (fun M9 h6 h7 h8 h9 => by
                have hZ := plyZ_go ho rule last k c n
                rw [e1, e2] at hZ
                rw [← hZ] at h6 h7 h8
                exact hQ M9 h6 h7 h8 h9)
            · refine J_iconst (v := 1) hx dX2_playFrom_156 (by decide) ?_
              refine J_goto (tgt := 161) hx dX2_playFrom_157 (by decide) ?_
              refine J_iadd (v := ((c : Nat) : Int) + 1) hx dX2_playFrom_161 (w32_id (by omega) (by omega)) ?_
              refine J_putI hx fl_X2_25 cl_X2 dX2_playFrom_162 hC.k34 (by decide) rfl (Or.inl rfl) (by decide) ?_
              generalize eM4 : up2 M3 (o + 34) 2 (((c : Nat) : Int) + 1) = M4
              have hM4a : M4 (o + 34) 2 = ((c : Nat) : Int) + 1 := by rw [← eM4]; exact up2_at
              have hM4o : ∀ b9 j9, (b9 ≠ o + 34 ∨ j9 ≠ 2) → M4 b9 j9 = M3 b9 j9 := fun b9 j9 h9 => by rw [← eM4]; exact up2_ne h9
              have hM4r : ∀ b9, b9 ≠ o + 34 → M4 b9 = M3 b9 := fun b9 h9 => by rw [← eM4]; exact up2_row h9
              refine J_iload hx dX2_playFrom_165 rfl ?_
              refine J_istore_n (lsn := [vR (o + 34), vR (o + 1), vI (rule), vI (leadY (playY A rule)), vI (((i : Nat) : Int)), vI (((p : Nat) : Int)), vI (((atY A p : Nat) : Int)), vI (1), vI (leadY (playY A rule))]) hx dX2_playFrom_167 (i := 3) rfl (Nat.le_of_ble_eq_true rfl) rfl rfl ?_
              refine J_iinc (v := ((i : Nat) : Int) + 1) (lsn := [vR (o + 34), vR (o + 1), vI (rule), vI (leadY (playY A rule)), vI (((i : Nat) : Int) + 1), vI (((p : Nat) : Int)), vI (((atY A p : Nat) : Int)), vI (1), vI (leadY (playY A rule))]) hx dX2_playFrom_168 rfl (jinc1 (by omega) (by omega)) rfl rfl ?_
              refine J_goto (tgt := 23) hx dX2_playFrom_171 (by decide) ?_
              have hF9 : ∀ a, a ≠ o + 34 → (a < o + 23 ∨ o + 34 ≤ a) → M4 a = M a := fun a9 h8 h9 => by rw [hM4r a9 h8, hM3r a9 h8, hF2 a9 (by omega)]; exact hF1 a9 h8 h9
              have e1 : lstI (playY A rule) last = leadY (playY A rule) := by unfold lstI; rw [if_neg (by omega)]
              have e2 : chgI (playY A rule) last = 1 := by unfold chgI; rw [if_pos (by omega)]
              exact lp_X2_playFrom hC hN hW hx hr k (i + 1) (playY_wf hWA ho rule) (by rw [hps.1]; omega) (by omega) (by omega) (hY2.same (fun a9 h8 h9 => by rw [hM4r a9 (by omega), hM3r a9 (by omega)])) (n := n + 1) (by rw [hM4o _ _ (Or.inr (by decide)), hM3a]; omega) (c := c + 1) (by rw [hM4a]; omega) (by omega) (by omega) hF9 _ _ _ _ (fun M9 h6 h7 h8 h9 => by
                have hZ := plyZ_go ho rule last k c n
                rw [e1, e2] at hZ
                rw [← hZ] at h6 h7 h8
                exact hQ M9 h6 h7 h8 h9)
termination_by k
decreasing_by all_goals omega

set_option maxHeartbeats 4000000 in
theorem c_X2_playFrom {g : WG} {d : Nat} {T : TT} {M : MM} {o sz : Nat} {S : ST} {Q : MVal → TT → MM → Nat → Prop} (hC : CT T o) (hN : CN M o S) (hW : WFS S) {rule : Int} (hQ : ∀ M', CN M' o S → YN M' (o + 23) (plyZ rule 99 S.1 (-1) 0 0).1 → M' (o + 34) 1 = (((plyZ rule 99 S.1 (-1) 0 0).2.2 : Nat) : Int) → M' (o + 34) 2 = (((plyZ rule 99 S.1 (-1) 0 0).2.1 : Nat) : Int) → (∀ b, (b < o ∨ o + 83 ≤ b) → M' b = M b) → Q vU T M' sz) : Ct g (d + 6) mX2_playFrom [vR (o + 34), vR (o + 1), vI (rule)] T M sz 0 0 Q := by
  refine Ct_of2 (ls := [vR (o + 34), vR (o + 1), vI (rule), vU, vU, vU, vU, vU, vU]) okX2_playFrom rfl (Nat.le_of_ble_eq_true rfl) rfl ?_
  intro x hx hr hnm
  refine J_aload_n hx dX2_playFrom_0 (i := 0) rfl rfl ?_
  refine J_getR (b := o + 23) hx fl_X2_9 cl_X2 dX2_playFrom_1 hC.k34 (by decide) rfl hC.p0 ?_
  refine J_aload_n hx dX2_playFrom_4 (i := 1) rfl rfl ?_
  refine J_invVv (As := [vR (o + 1)]) (st := []) hx lk_X2_15 okX5_becomeAs dX2_playFrom_5 hC.y2.o (by decide) rfl rfl rfl (Nat.le_of_ble_eq_true rfl) (Nat.zero_add _).symm (Nat.zero_add _).symm rfl (c_X5_becomeAs hC.y2 hC.y0 hN.y hW.y (by omega) ?_)
  intro M1 hY1 hF1
  refine J_aload_n hx dX2_playFrom_8 (i := 0) rfl rfl ?_
  refine J_iconst (v := 0) hx dX2_playFrom_9 (by decide) ?_
  refine J_putI hx fl_X2_21 cl_X2 dX2_playFrom_10 hC.k34 (by decide) rfl (Or.inl rfl) (by decide) ?_
  generalize eM2 : up2 M1 (o + 34) 1 0 = M2
  have hM2a : M2 (o + 34) 1 = 0 := by rw [← eM2]; exact up2_at
  have hM2o : ∀ b9 j9, (b9 ≠ o + 34 ∨ j9 ≠ 1) → M2 b9 j9 = M1 b9 j9 := fun b9 j9 h9 => by rw [← eM2]; exact up2_ne h9
  have hM2r : ∀ b9, b9 ≠ o + 34 → M2 b9 = M1 b9 := fun b9 h9 => by rw [← eM2]; exact up2_row h9
  refine J_aload_n hx dX2_playFrom_13 (i := 0) rfl rfl ?_
  refine J_iconst (v := 0) hx dX2_playFrom_14 (by decide) ?_
  refine J_putI hx fl_X2_25 cl_X2 dX2_playFrom_15 hC.k34 (by decide) rfl (Or.inl rfl) (by decide) ?_
  generalize eM3 : up2 M2 (o + 34) 2 0 = M3
  have hM3a : M3 (o + 34) 2 = 0 := by rw [← eM3]; exact up2_at
  have hM3o : ∀ b9 j9, (b9 ≠ o + 34 ∨ j9 ≠ 2) → M3 b9 j9 = M2 b9 j9 := fun b9 j9 h9 => by rw [← eM3]; exact up2_ne h9
  have hM3r : ∀ b9, b9 ≠ o + 34 → M3 b9 = M2 b9 := fun b9 h9 => by rw [← eM3]; exact up2_row h9
  refine J_iconst (v := -1) hx dX2_playFrom_18 (by decide) ?_
  refine J_istore_n (lsn := [vR (o + 34), vR (o + 1), vI (rule), vI ((-1)), vU, vU, vU, vU, vU]) hx dX2_playFrom_19 (i := 3) rfl (Nat.le_of_ble_eq_true rfl) rfl rfl ?_
  refine J_iconst (v := 0) hx dX2_playFrom_20 (by decide) ?_
  refine J_istore (lsn := [vR (o + 34), vR (o + 1), vI (rule), vI ((-1)), vI (0), vU, vU, vU, vU]) hx dX2_playFrom_21 (Nat.le_of_ble_eq_true rfl) rfl rfl ?_
  have hs6 := hW.y.s6
  exact lp_X2_playFrom hC hN hW hx hr (M1 := M3) 99 0 hW.y (by omega) (by omega) (by omega) (hY1.same (fun a9 h8 h9 => by rw [hM3r a9 (by omega), hM2r a9 (by omega)])) (n := 0) (by rw [hM3o _ _ (Or.inr (by decide)), hM2a]; rfl) (c := 0) (by rw [hM3a]; rfl) (by omega) (by omega) (fun a9 h8 h9 => by rw [hM3r a9 h8, hM2r a9 h8, hF1 a9 (by omega)]) _ _ _ _ (fun M9 h6 h7 h8 h9 => hQ M9 (hN.same (fun a9 ha => h9 a9 (by omega) (by omega)) (by rw [h9 o (by omega) (by omega)]) (by rw [h9 _ (by omega) (by omega)])) h6 h7 h8 (fun b9 hb => h9 b9 (by omega) (by omega)))

set_option maxHeartbeats 4000000 in
theorem c_X6_play {g : WG} {d : Nat} {T : TT} {M : MM} {o sz : Nat} {S : ST} {Q : MVal → TT → MM → Nat → Prop} (hC : CT T o) (hN : CN M o S) (hW : WFS S) {rule w : Int} (h_rule : -2147483648 ≤ rule ∧ rule ≤ 2147483647) (h_w : -2147483648 ≤ w ∧ w ≤ 2147483647) (hQ : CQ o T M sz Q (a_play S rule w)) : Ct g (d + 7) mX6_play [vR (o), vI (rule), vI (w)] T M sz 0 0 Q := by
  refine Ct_of2 (ls := [vR (o), vI (rule), vI (w)]) okX6_play rfl (Nat.le_of_ble_eq_true rfl) rfl ?_
  intro x hx hr hnm
  refine J_iload_n hx dX6_play_0 (i := 1) rfl rfl ?_
  refine J_invS (As := [vI (rule)]) (st := []) hx lk_X6_244 okX6_isRule dX6_play_1 rfl rfl (Nat.le_of_ble_eq_true rfl) (Nat.zero_add _).symm (Nat.zero_add _).symm rfl (c_X6_isRule (a := rule) ?_)
  intro v1 hv1
  refine J_if_eq (tgt := 16) hx dX6_play_4 (by decide) (fun c2 => ?_) (fun c2 => ?_)
  · refine J_aload_n hx dX6_play_16 (i := 0) rfl rfl ?_
    refine J_bipush (v := -2) hx dX6_play_17 (by decide) ?_
    refine J_invV (As := [vI ((-2))]) (st := []) hx lk_X6_67 okX6_refuse dX6_play_19 hC.o (by decide) rfl rfl rfl (Nat.le_of_ble_eq_true rfl) (Nat.zero_add _).symm (Nat.zero_add _).symm rfl (c_X6_refuse hC hN hW (k := 0) (by decide) ?_)
    intro M1 hN1 hf1
    refine J_iret hx hr dX6_play_22 ?_
    exact hQ.to (v := -((0 + 2 : Nat) : Int)) (S := rfS S 0) (by
      unfold a_play
      all_goals (try unfold overY at *)
      all_goals (try unfold mayQ at *)
      all_goals (try simp only [Int.toNat_natCast] at *)
      all_goals ((repeat' split) <;> first | rfl | (exfalso; omega) | (congr 1; omega))) hC hN1 hf1
  · refine J_iload_n hx dX6_play_7 (i := 2) rfl rfl ?_
    refine J_if_lt (tgt := 16) hx dX6_play_8 (by decide) (fun c3 => ?_) (fun c3 => ?_)
    · refine J_aload_n hx dX6_play_16 (i := 0) rfl rfl ?_
      refine J_bipush (v := -2) hx dX6_play_17 (by decide) ?_
      refine J_invV (As := [vI ((-2))]) (st := []) hx lk_X6_67 okX6_refuse dX6_play_19 hC.o (by decide) rfl rfl rfl (Nat.le_of_ble_eq_true rfl) (Nat.zero_add _).symm (Nat.zero_add _).symm rfl (c_X6_refuse hC hN hW (k := 0) (by decide) ?_)
      intro M1 hN1 hf1
      refine J_iret hx hr dX6_play_22 ?_
      exact hQ.to (v := -((0 + 2 : Nat) : Int)) (S := rfS S 0) (by
        unfold a_play
        all_goals (try unfold overY at *)
        all_goals (try unfold mayQ at *)
        all_goals (try simp only [Int.toNat_natCast] at *)
        all_goals ((repeat' split) <;> first | rfl | (exfalso; omega) | (congr 1; omega))) hC hN1 hf1
    · refine J_iload_n hx dX6_play_11 (i := 2) rfl rfl ?_
      refine J_iconst (v := 2) hx dX6_play_12 (by decide) ?_
      refine J_icmp_le (tgt := 23) hx dX6_play_13 (by decide) (fun c4 => ?_) (fun c4 => ?_)
      · refine J_aload_n hx dX6_play_23 (i := 0) rfl rfl ?_
        refine J_getR (b := o + 34) hx fl_X6_27 cl_X6 dX6_play_24 hC.o (by decide) rfl hC.r3 ?_
        refine J_aload_n hx dX6_play_27 (i := 0) rfl rfl ?_
        refine J_getR (b := o + 1) hx fl_X6_10 cl_X6 dX6_play_28 hC.o (by decide) rfl hC.r0 ?_
        refine J_iload_n hx dX6_play_31 (i := 1) rfl rfl ?_
        refine J_invVv (As := [vR (o + 1), vI (rule)]) (st := []) hx lk_X6_247 okX2_playFrom dX6_play_32 hC.k34 (by decide) rfl rfl rfl (Nat.le_of_ble_eq_true rfl) (Nat.zero_add _).symm (Nat.zero_add _).symm rfl (c_X2_playFrom hC hN hW (rule := rule) ?_)
        intro M1 hN1 hY1 hl1 hc1 hF1
        have hend := plyZ_end (rule := rule) 99 hW.y (by have := hW.y.s6; omega) (-1) 0 0
        refine J_iload_n hx dX6_play_35 (i := 2) rfl rfl ?_
        refine J_if_ne (tgt := 49) hx dX6_play_36 (by decide) (fun c5 => ?_) (fun c5 => ?_)
        · refine J_iload_n hx dX6_play_49 (i := 2) rfl rfl ?_
          refine J_iconst (v := 1) hx dX6_play_50 (by decide) ?_
          refine J_icmp_ne (tgt := 64) hx dX6_play_51 (by decide) (fun c6 => ?_) (fun c6 => ?_)
          · refine J_aload_n hx dX6_play_64 (i := 0) rfl rfl ?_
            refine J_getR (b := o + 23) hx fl_X6_19 cl_X6 dX6_play_65 hC.o (by decide) rfl hC.r2 ?_
            refine J_getR (b := o + 23 + 10) hx fl_X6_199 cl_X5 dX6_play_68 hC.y2.o (by decide) rfl hC.y2.r7 ?_
            refine J_iconst (v := 0) hx dX6_play_71 (by decide) ?_
            refine J_iald2 (v := ((((plyZ rule 99 S.1 (-1) 0 0).1.ch 0).length : Nat) : Int)) hx 0 dX6_play_72 hC.y2.k10 (by omega) (hC.y2.l10 (by omega)) (hY1.sz (by omega)) ?_
            refine J_iret hx hr dX6_play_73 ?_
            exact hQ.to (v := ((((plyZ rule 99 S.1 (-1) 0 0).1.ch 0).length : Nat) : Int)) (S := S) (by
              unfold a_play
              all_goals (try unfold overY at *)
              all_goals (try unfold mayQ at *)
              all_goals (try simp only [Int.toNat_natCast] at *)
              all_goals ((repeat' split) <;> first | rfl | (exfalso; omega) | (congr 1; omega))) hC hN1 hF1
          · refine J_aload_n hx dX6_play_54 (i := 0) rfl rfl ?_
            refine J_getR (b := o + 34) hx fl_X6_27 cl_X6 dX6_play_55 hC.o (by decide) rfl hC.r3 ?_
            refine J_getI2 (v := (((plyZ rule 99 S.1 (-1) 0 0).2.2 : Nat) : Int)) hx fl_X6_251 cl_X2 dX6_play_58 hC.k34 (by decide) rfl hl1 ?_
            refine J_goto (tgt := 73) hx dX6_play_61 (by decide) ?_
            refine J_iret hx hr dX6_play_73 ?_
            exact hQ.to (v := (((plyZ rule 99 S.1 (-1) 0 0).2.2 : Nat) : Int)) (S := S) (by
              unfold a_play
              all_goals (try unfold overY at *)
              all_goals (try unfold mayQ at *)
              all_goals (try simp only [Int.toNat_natCast] at *)
              all_goals ((repeat' split) <;> first | rfl | (exfalso; omega) | (congr 1; omega))) hC hN1 hF1
        · refine J_aload_n hx dX6_play_39 (i := 0) rfl rfl ?_
          refine J_getR (b := o + 23) hx fl_X6_19 cl_X6 dX6_play_40 hC.o (by decide) rfl hC.r2 ?_
          refine J_invV (As := []) (st := []) hx lk_X6_241 okX5_winner dX6_play_43 hC.y2.o (by decide) rfl rfl rfl (Nat.le_of_ble_eq_true rfl) (Nat.zero_add _).symm (Nat.zero_add _).symm rfl (c_X5_winner hC.y2 hY1 hend.2.1 ?_)
          intro vw hvw
          have ew : vw = leadY (plyZ rule 99 S.1 (-1) 0 0).1 := by rcases hvw with h9 | h9; exact h9.2; exact absurd hend.1 h9.1
          subst ew
          refine J_goto (tgt := 73) hx dX6_play_46 (by decide) ?_
          refine J_iret hx hr dX6_play_73 ?_
          exact hQ.to (v := leadY (plyZ rule 99 S.1 (-1) 0 0).1) (S := S) (by
            unfold a_play
            all_goals (try unfold overY at *)
            all_goals (try unfold mayQ at *)
            all_goals (try simp only [Int.toNat_natCast] at *)
            all_goals ((repeat' split) <;> first | rfl | (exfalso; omega) | (congr 1; omega))) hC hN1 hF1
      · refine J_aload_n hx dX6_play_16 (i := 0) rfl rfl ?_
        refine J_bipush (v := -2) hx dX6_play_17 (by decide) ?_
        refine J_invV (As := [vI ((-2))]) (st := []) hx lk_X6_67 okX6_refuse dX6_play_19 hC.o (by decide) rfl rfl rfl (Nat.le_of_ble_eq_true rfl) (Nat.zero_add _).symm (Nat.zero_add _).symm rfl (c_X6_refuse hC hN hW (k := 0) (by decide) ?_)
        intro M1 hN1 hf1
        refine J_iret hx hr dX6_play_22 ?_
        exact hQ.to (v := -((0 + 2 : Nat) : Int)) (S := rfS S 0) (by
          unfold a_play
          all_goals (try unfold overY at *)
          all_goals (try unfold mayQ at *)
          all_goals (try simp only [Int.toNat_natCast] at *)
          all_goals ((repeat' split) <;> first | rfl | (exfalso; omega) | (congr 1; omega))) hC hN1 hf1

set_option maxHeartbeats 4000000 in
theorem c_X6_leads {g : WG} {d : Nat} {T : TT} {M : MM} {o sz : Nat} {S : ST} {Q : MVal → TT → MM → Nat → Prop} (hC : CT T o) (hN : CN M o S) (hW : WFS S) {rule : Int} (h_rule : -2147483648 ≤ rule ∧ rule ≤ 2147483647) (hQ : CQ o T M sz Q (a_leads S rule)) : Ct g (d + 7) mX6_leads [vR (o), vI (rule)] T M sz 0 0 Q := by
  refine Ct_of2 (ls := [vR (o), vI (rule)]) okX6_leads rfl (Nat.le_of_ble_eq_true rfl) rfl ?_
  intro x hx hr hnm
  refine J_iload_n hx dX6_leads_0 (i := 1) rfl rfl ?_
  refine J_invS (As := [vI (rule)]) (st := []) hx lk_X6_244 okX6_isRule dX6_leads_1 rfl rfl (Nat.le_of_ble_eq_true rfl) (Nat.zero_add _).symm (Nat.zero_add _).symm rfl (c_X6_isRule (a := rule) ?_)
  intro v1 hv1
  refine J_if_ne (tgt := 14) hx dX6_leads_4 (by decide) (fun c2 => ?_) (fun c2 => ?_)
  · refine J_aload_n hx dX6_leads_14 (i := 0) rfl rfl ?_
    refine J_getR (b := o + 34) hx fl_X6_27 cl_X6 dX6_leads_15 hC.o (by decide) rfl hC.r3 ?_
    refine J_aload_n hx dX6_leads_18 (i := 0) rfl rfl ?_
    refine J_getR (b := o + 1) hx fl_X6_10 cl_X6 dX6_leads_19 hC.o (by decide) rfl hC.r0 ?_
    refine J_iload_n hx dX6_leads_22 (i := 1) rfl rfl ?_
    refine J_invVv (As := [vR (o + 1), vI (rule)]) (st := []) hx lk_X6_247 okX2_playFrom dX6_leads_23 hC.k34 (by decide) rfl rfl rfl (Nat.le_of_ble_eq_true rfl) (Nat.zero_add _).symm (Nat.zero_add _).symm rfl (c_X2_playFrom hC hN hW (rule := rule) ?_)
    intro M1 hN1 hY1 hl1 hc1 hF1
    have hend := plyZ_end (rule := rule) 99 hW.y (by have := hW.y.s6; omega) (-1) 0 0
    refine J_aload_n hx dX6_leads_26 (i := 0) rfl rfl ?_
    refine J_getR (b := o + 34) hx fl_X6_27 cl_X6 dX6_leads_27 hC.o (by decide) rfl hC.r3 ?_
    refine J_getI2 (v := (((plyZ rule 99 S.1 (-1) 0 0).2.1 : Nat) : Int)) hx fl_X6_283 cl_X2 dX6_leads_30 hC.k34 (by decide) rfl hc1 ?_
    refine J_iret hx hr dX6_leads_33 ?_
    exact hQ.to (v := (((plyZ rule 99 S.1 (-1) 0 0).2.1 : Nat) : Int)) (S := S) (by
      unfold a_leads
      all_goals (try unfold overY at *)
      all_goals (try unfold mayQ at *)
      all_goals (try simp only [Int.toNat_natCast] at *)
      all_goals ((repeat' split) <;> first | rfl | (exfalso; omega) | (congr 1; omega))) hC hN1 hF1
  · refine J_aload_n hx dX6_leads_7 (i := 0) rfl rfl ?_
    refine J_bipush (v := -2) hx dX6_leads_8 (by decide) ?_
    refine J_invV (As := [vI ((-2))]) (st := []) hx lk_X6_67 okX6_refuse dX6_leads_10 hC.o (by decide) rfl rfl rfl (Nat.le_of_ble_eq_true rfl) (Nat.zero_add _).symm (Nat.zero_add _).symm rfl (c_X6_refuse hC hN hW (k := 0) (by decide) ?_)
    intro M1 hN1 hf1
    refine J_iret hx hr dX6_leads_13 ?_
    exact hQ.to (v := -((0 + 2 : Nat) : Int)) (S := rfS S 0) (by
      unfold a_leads
      all_goals (try unfold overY at *)
      all_goals (try unfold mayQ at *)
      all_goals (try simp only [Int.toNat_natCast] at *)
      all_goals ((repeat' split) <;> first | rfl | (exfalso; omega) | (congr 1; omega))) hC hN1 hf1

