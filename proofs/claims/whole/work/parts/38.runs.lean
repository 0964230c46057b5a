def stepR (A : YA) : YA × Nat := if strl A (A.ch A.tn) (atY A (whoY A 0).toNat) < force A (whoY A 0).toNat + drwS (nxtS (A.sc 7)) (A.sc 2) then (runT (drawn A) (whoY A 0).toNat (atY A (whoY A 0).toNat) (takenY A (atY A (whoY A 0).toNat) (sidY A (atY A (whoY A 0).toNat))), 1) else (runH (drawn A) (whoY A 0).toNat (atY A (whoY A 0).toNat), 0)
def rnsY : Nat → YA → Nat → YA × Nat
  | 0, A, t => (A, t)
  | k + 1, A, t => if ((A.ch 0).length < 2 ∨ (A.ch 1).length < 2 ∨ A.sc 4 ≤ A.sc 6) then (A, t) else rnsY k (stepR A).1 (t + (stepR A).2)
theorem rnsY_over {A : YA} (h : overY A) (k t : Nat) : rnsY k A t = (A, t) := by
  cases k with
  | zero => rfl
  | succ k => exact if_pos h
theorem rnsY_go {A : YA} (h : ¬ overY A) (k t : Nat) : rnsY (k + 1) A t = rnsY k (stepR A).1 (t + (stepR A).2) := if_neg h
theorem stepR_wf {A : YA} (h : WFY A) (ho : ¬ overY A) : WFY (stepR A).1 := by
  obtain ⟨p, e, h1, h2⟩ := who_some h ho 0
  have hj := atY_lt (not_over2 h ho).1 p
  unfold stepR
  rw [e]
  simp only [Int.toNat_natCast]
  split
  · exact runT_wf (drawn_wf h) h1 h2 hj ho (taken_mem h hj (sidY_lt A _))
  · exact runH_wf (drawn_wf h) h1 h2 hj ho
theorem stepR_1 {A : YA} {p : Nat} (e : whoY A 0 = ((p : Nat) : Int)) (h : tornY A p (atY A p)) : stepR A = (runT (drawn A) p (atY A p) (takenY A (atY A p) (sidY A (atY A p))), 1) := by
  unfold stepR; rw [e]; simp only [Int.toNat_natCast]; exact if_pos h
theorem stepR_0 {A : YA} {p : Nat} (e : whoY A 0 = ((p : Nat) : Int)) (h : ¬ tornY A p (atY A p)) : stepR A = (runH (drawn A) p (atY A p), 0) := by
  unfold stepR; rw [e]; simp only [Int.toNat_natCast]; exact if_neg h
set_option maxHeartbeats 4000000 in
theorem lp_X7_runs {g : WG} {d : Nat} {T : TT} {M : MM} {r sz : Nat} {A : YA} {Q : MVal → TT → MM → Nat → Prop} (hT : MT T r) (hN : MN M r A) (hW : WFY A) {x : CX} (hx : OKx g x RX7 cX7_runs (d + 6)) (hr : RTx g x (some .int) Q) {n : Nat} (hn : n ≤ 40) (i t : Nat) (u4 u5 : MVal) (hi : i ≤ n) (hti : t ≤ i) (hQ : ∀ M', MN M' r (rnsY (n - i) A t).1 → FrN r M M' → Q (vI (((rnsY (n - i) A t).2 : Nat) : Int)) T M' sz) : Jd g x 23 [vR (r), vI (((n : Nat) : Int)), vI (((t : Nat) : Int)), vI (((i : Nat) : Int)), u4, u5] [] T M sz 0 0 := by
  refine J_iload_n hx dX7_runs_23 (i := 3) rfl rfl ?_
  refine J_iload_n hx dX7_runs_24 (i := 1) rfl rfl ?_
  refine J_icmp_ge (tgt := 81) hx dX7_runs_25 (by decide) (fun c1 => ?_) (fun c1 => ?_)
  · refine J_iload_n hx dX7_runs_81 (i := 2) rfl rfl ?_
    refine J_iret hx hr dX7_runs_82 ?_
    first
    | (have e9 : n - i = 0 := by omega
       rw [e9] at hQ
       exact hQ M hN FrN.rf)
    | (have e9 := rnsY_over (A := A) (by unfold overY at *; omega) (n - i) t
       rw [e9] at hQ
       exact hQ M hN FrN.rf)
  · refine J_aload_n hx dX7_runs_28 (i := 0) rfl rfl ?_
    refine J_invV (As := []) (st := []) hx lk_X7_208 okX7_isOver dX7_runs_29 hT.o (by decide) rfl rfl rfl (Nat.le_of_ble_eq_true rfl) (Nat.zero_add _).symm (Nat.zero_add _).symm rfl (c_X7_isOver hT hN hW  ?_)
    intro v2 hv2
    refine J_if_ne (tgt := 81) hx dX7_runs_32 (by decide) (fun c3 => ?_) (fun c3 => ?_)
    · refine J_iload_n hx dX7_runs_81 (i := 2) rfl rfl ?_
      refine J_iret hx hr dX7_runs_82 ?_
      first
      | (have e9 : n - i = 0 := by omega
         rw [e9] at hQ
         exact hQ M hN FrN.rf)
      | (have e9 := rnsY_over (A := A) (by unfold overY at *; omega) (n - i) t
         rw [e9] at hQ
         exact hQ M hN FrN.rf)
    · have ho : ¬ overY A := fun q9 => by unfold overY at *; omega
      have hnv := not_over2 hW ho
      obtain ⟨p, ew, hp, hc⟩ := who_some hW ho 0
      have hl8 := hW.len8 hW.tn2
      have hn8 := hW.n8
      refine J_aload_n hx dX7_runs_35 (i := 0) rfl rfl ?_
      refine J_iconst (v := 0) hx dX7_runs_36 (by decide) ?_
      refine J_invV (As := [vI (0)]) (st := []) hx lk_X7_286 okX7_callBy dX7_runs_37 hT.o (by decide) rfl rfl rfl (Nat.le_of_ble_eq_true rfl) (Nat.zero_add _).symm (Nat.zero_add _).symm rfl (c_X7_callBy hT hN hW (rule := 0) (by omega) hnv.1 ?_)
      rw [ew]
      refine J_istore (lsn := [vR (r), vI (((n : Nat) : Int)), vI (((t : Nat) : Int)), vI (((i : Nat) : Int)), vI (((p : Nat) : Int)), u5]) hx dX7_runs_40 (Nat.le_of_ble_eq_true rfl) rfl rfl ?_
      refine J_aload_n hx dX7_runs_42 (i := 0) rfl rfl ?_
      refine J_iload hx dX7_runs_43 rfl ?_
      refine J_invV (As := [vI (((p : Nat) : Int))]) (st := []) hx lk_X7_280 okX7_atOf dX7_runs_45 hT.o (by decide) rfl rfl rfl (Nat.le_of_ble_eq_true rfl) (Nat.zero_add _).symm (Nat.zero_add _).symm rfl (c_X7_atOf hT hN hW (p := p) hp hnv.1 ?_)
      have hj := atY_lt (A := A) hnv.1 p
      refine J_istore (lsn := [vR (r), vI (((n : Nat) : Int)), vI (((t : Nat) : Int)), vI (((i : Nat) : Int)), vI (((p : Nat) : Int)), vI (((atY A p : Nat) : Int))]) hx dX7_runs_48 (Nat.le_of_ble_eq_true rfl) rfl rfl ?_
      refine J_iload_n hx dX7_runs_50 (i := 2) rfl rfl ?_
      refine J_aload_n hx dX7_runs_51 (i := 0) rfl rfl ?_
      refine J_iload hx dX7_runs_52 rfl ?_
      refine J_iload hx dX7_runs_54 rfl ?_
      refine J_aload_n hx dX7_runs_56 (i := 0) rfl rfl ?_
      refine J_iload hx dX7_runs_57 rfl ?_
      refine J_invV (As := [vI (((atY A p : Nat) : Int))]) (st := [vI (((atY A p : Nat) : Int)), vI (((p : Nat) : Int)), vR (r), vI (((t : Nat) : Int))]) hx lk_X7_283 okX7_takeAt dX7_runs_59 hT.o (by decide) rfl rfl rfl (Nat.le_of_ble_eq_true rfl) (Nat.zero_add _).symm (Nat.zero_add _).symm rfl (c_X7_takeAt hT hN hW (j := atY A p) (by omega) ?_)
      have rg4 := sidY_lt A (atY A p)
      refine J_invV (As := [vI (((p : Nat) : Int)), vI (((atY A p : Nat) : Int)), vI (((sidY A (atY A p) : Nat) : Int))]) (st := [vI (((t : Nat) : Int))]) hx lk_X7_357 okX7_goesRun dX7_runs_62 hT.o (by decide) rfl rfl rfl (Nat.le_of_ble_eq_true rfl) (Nat.zero_add _).symm (Nat.zero_add _).symm rfl (c_X7_goesRun hT hN hW (p := p) (j := atY A p) (sd := sidY A (atY A p)) hp hc hj ho (sidY_lt A _) ?_ ?_)
      · intro ht M2 hN2 hf2
        have es := stepR_1 ew ht
        refine J_if_eq (tgt := 72) hx dX7_runs_65 (by decide) (fun c9 => absurd c9 (by decide)) (fun _ => ?_)
        refine J_iconst (v := 1) hx dX7_runs_68 (by decide) ?_
        refine J_goto (tgt := 73) hx dX7_runs_69 (by decide) ?_
        refine J_iadd (v := ((t + 1 : Nat) : Int)) hx dX7_runs_73 (by rw [w32_id (by omega) (by omega)]; omega) ?_
        refine J_istore_n (lsn := [vR (r), vI (((n : Nat) : Int)), vI (((t + 1 : Nat) : Int)), vI (((i : Nat) : Int)), vI (((p : Nat) : Int)), vI (((atY A p : Nat) : Int))]) hx dX7_runs_74 (i := 2) rfl (Nat.le_of_ble_eq_true rfl) rfl rfl ?_
        refine J_iinc (v := ((i : Nat) : Int) + 1) (lsn := [vR (r), vI (((n : Nat) : Int)), vI (((t + 1 : Nat) : Int)), vI (((i : Nat) : Int) + 1), vI (((p : Nat) : Int)), vI (((atY A p : Nat) : Int))]) hx dX7_runs_75 rfl (jinc1 (by omega) (by omega)) rfl rfl ?_
        refine J_goto (tgt := 23) hx dX7_runs_78 (by decide) ?_
        have hwf := stepR_wf hW ho
        rw [es] at hwf
        exact lp_X7_runs hT hN2 hwf hx hr hn (i + 1) (t + 1) _ _ (by omega) (by omega) (fun M' h1 h2 => by
            have e9 := rnsY_go ho (n - (i + 1)) t
            rw [es] at e9
            have e8 : n - i = (n - (i + 1)) + 1 := by omega
            rw [e8, e9] at hQ
            exact hQ M' h1 (hf2.tr h2))
      · intro ht M2 hN2 hf2
        have es := stepR_0 ew ht
        refine J_if_eq (tgt := 72) hx dX7_runs_65 (by decide) (fun _ => ?_) (fun c9 => absurd c9 (by decide))
        refine J_iconst (v := 0) hx dX7_runs_72 (by decide) ?_
        refine J_iadd (v := ((t : Nat) : Int)) hx dX7_runs_73 (by rw [w32_id (by omega) (by omega)]; omega) ?_
        refine J_istore_n (lsn := [vR (r), vI (((n : Nat) : Int)), vI (((t : Nat) : Int)), vI (((i : Nat) : Int)), vI (((p : Nat) : Int)), vI (((atY A p : Nat) : Int))]) hx dX7_runs_74 (i := 2) rfl (Nat.le_of_ble_eq_true rfl) rfl rfl ?_
        refine J_iinc (v := ((i : Nat) : Int) + 1) (lsn := [vR (r), vI (((n : Nat) : Int)), vI (((t : Nat) : Int)), vI (((i : Nat) : Int) + 1), vI (((p : Nat) : Int)), vI (((atY A p : Nat) : Int))]) hx dX7_runs_75 rfl (jinc1 (by omega) (by omega)) rfl rfl ?_
        refine J_goto (tgt := 23) hx dX7_runs_78 (by decide) ?_
        have hwf := stepR_wf hW ho
        rw [es] at hwf
        exact lp_X7_runs hT hN2 hwf hx hr hn (i + 1) (t) _ _ (by omega) (by omega) (fun M' h1 h2 => by
            have e9 := rnsY_go ho (n - (i + 1)) t
            rw [es] at e9
            have e8 : n - i = (n - (i + 1)) + 1 := by omega
            rw [e8, e9] at hQ
            exact hQ M' h1 (hf2.tr h2))
termination_by n - i
decreasing_by all_goals omega

