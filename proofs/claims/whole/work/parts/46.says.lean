section
variable {g : WG} {x : CX} {own : String} {cc : ByteArray} {d : Nat} {pc : Nat} {ls st : List MVal} {T : TT} {M : MM} {sz nc ns : Nat}
theorem lkABOVE : Cond.fieldLink RX6 330 "ThroughTheChain" "ABOVE" "[I" ∈ tblG := inG (List.mem_of_getElem? (i := 322) (by decide +kernel)) rfl
def abvI (k : Nat) : Int := if k = 0 then -1 else if k = 3 then 1 else if k = 5 then 2 else 0
theorem above_v {n : Nat} (hn : n < 6) : vabs (aboveV n) = vI (abvI n) := by
  rcases (show n = 0 ∨ n = 1 ∨ n = 2 ∨ n = 3 ∨ n = 4 ∨ n = 5 by omega) with rfl | rfl | rfl | rfl | rfl | rfl <;> rfl
theorem J_above (h : OKx g x RX6 cc d) {v : Int} (n : Nat) (hd : decode cc pc = .ok (.getstatic 330, 3)) (hd2 : decode cc (pc + 3) = .ok (.iload_n 2, 1)) (hd3 : decode cc (pc + 4) = .ok (.iaload, 1)) (hi : ls[2]? = some (vI ((n : Nat) : Int))) (hn : n < 6) (hv : abvI n = v)
    (kk : Jd g x (pc + 5) ls (vI v :: st) T M sz nc ns) : Jd g x pc ls st T M sz nc ns := by
  obtain ⟨p, l, e, R, s, m, args, below, meth, c, Q⟩ := x
  obtain ⟨hx, hb, hown, hts, hK, -⟩ := h
  intro H locs cells slots lsC stC hR hlocs hl hs hc1 hc2
  obtain ⟨t, hZ, hT⟩ := hK.2.2.2.1
  obtain ⟨cf, kf, fi, f, a, cell, h1, h2, h3, h4, h5, h6, h7, h8⟩ := hZ
  have ha : H[a]? = some cell := by rw [hR.2.2.1 a (Nat.lt_of_not_le h8)]; exact h5
  refine W.gets hx hb hown (hts _ lkABOVE) h1 h2 h3 h4 ha (fun e => by rw [e] at h6; cases h6) h7 rfl hd ?_
  obtain ⟨z, hz, ez⟩ := hl.I hi
  refine lv_iload_n (pc := pc + 3) hx hb hd2 (show ((2 : Fin 4) : Nat) = 2 from rfl) hz ?_
  obtain ⟨cell2, k1, k2, k3, k4, k5, k6, k7⟩ := hT
  have hb2 : H[t]? = some cell2 := by rw [hR.2.2.1 t (Nat.lt_of_not_le k7)]; exact k1
  obtain ⟨hin, hcl⟩ := in_of (N := 6) ez rfl hn
  refine W.iald (v := aboveV n) hx hb hb2 k2 k3 (fun q => q.elim (fun q => hin (Or.inl q)) (fun q => by omega)) (by rw [hcl]; exact k6 n hn) rfl rfl hd3 ?_
  exact kk H locs cells slots lsC _ hR hlocs hl (by rw [List.map_cons, hs, above_v hn, hv]) hc1 hc2
end
def sisX (A : YA) (l : List Nat) (p : Nat) (j : Nat) : Nat := cntF (fun k => decide (A.att 0 (l.getD k 0) = 3 ∧ l.getD k 0 ≠ p)) j
theorem sisX_eq {A : YA} {l : List Nat} {p : Nat} (hn : l.Nodup) (hp : p ∈ l) (h3 : A.att 0 p = 3) : ∀ j, j ≤ l.length → sisX A l p j + (if l.idxOf p < j then 1 else 0) = cntF (fun k => decide (A.att 0 (l.getD k 0) = 3)) j
  | 0, _ => by simp [sisX, cntF]
  | j + 1, hj => by
    have ih := sisX_eq hn hp h3 j (by omega)
    by_cases e : l.getD j 0 = p
    · have ej : l.idxOf p = j := by rw [← e]; exact idxOf_getD hn (by omega)
      have e1 : sisX A l p (j + 1) = sisX A l p j := cntF_f (decide_eq_false (fun q => q.2 e))
      rw [e1, cntF_t (decide_eq_true (by rw [e]; exact h3)), if_pos (by omega)]
      rw [if_neg (by omega)] at ih
      omega
    · have ej : l.idxOf p ≠ j := fun q => e (by rw [← q]; exact getD_idxOf hp)
      by_cases e3 : A.att 0 (l.getD j 0) = 3
      · have e1 : sisX A l p (j + 1) = sisX A l p j + 1 := cntF_t (decide_eq_true ⟨e3, e⟩)
        rw [e1, cntF_t (decide_eq_true e3), ← ih]
        by_cases e4 : l.idxOf p < j
        · rw [if_pos e4, if_pos (by omega)]; try omega
        · rw [if_neg e4, if_neg (by omega)]
      · have e1 : sisX A l p (j + 1) = sisX A l p j := cntF_f (decide_eq_false (fun q => e3 q.1))
        rw [e1, cntF_f (decide_eq_false e3), ← ih]
        by_cases e4 : l.idxOf p < j
        · rw [if_pos e4, if_pos (by omega)]
        · rw [if_neg e4, if_neg (by omega)]
theorem sisX_all {A : YA} (h : WFY A) {p : Nat} (hp : p < A.n) (h3 : A.att 0 p = 3) : ((sisX A (A.ch (A.co p)) p (A.ch (A.co p)).length : Nat) : Int) = ((sisY A (A.ch (A.co p)) : Nat) : Int) - 1 := by
  have h1 := sisX_eq (h.2.2.2.1 _ (A.co2 p)) (h.mco hp) h3 _ (Nat.le_refl _)
  have h2 := plcY_lt h hp
  unfold plcY at h2
  rw [if_pos h2] at h1
  unfold sisY
  omega
def a_says (S : ST) (s w : Int) : Int × ST := if ¬ (0 ≤ s ∧ s < 8 ∧ 0 ≤ w ∧ w ≤ 5) then rA S 0 else if (S.sh s.toNat).1 = -1 then rA S 2 else if ¬ (10 ≤ (S.sh s.toNat).1 ∧ (w = 0 ∨ S.1.att 0 (((S.sh s.toNat).1 - 10).toNat) = w ∨ (w = 1 ∧ S.1.att 0 (((S.sh s.toNat).1 - 10).toNat) = 3) ∨ (w = 2 ∧ S.1.att 0 (((S.sh s.toNat).1 - 10).toNat) = 5))) then rA S 1 else if w = 0 then (((S.1.co (((S.sh s.toNat).1 - 10).toNat) : Nat) : Int), S) else if w ≤ 2 then (hold S.1 (((S.sh s.toNat).1 - 10).toNat) (-1), S) else if w = 3 then (((sisY S.1 (S.1.ch (S.1.co (((S.sh s.toNat).1 - 10).toNat))) : Nat) : Int) - 1, S) else (force S.1 (((S.sh s.toNat).1 - 10).toNat), S)
set_option maxHeartbeats 4000000 in
theorem c_X6_isUnder_0 {g : WG} {d : Nat} {T : TT} {M : MM} {sz : Nat} {Q : MVal → TT → MM → Nat → Prop} {w : Int} (hw : 0 ≤ w ∧ w ≤ 5) (hQ : ∀ v : Int, ((v = 1 ∧ (w = 0 ∨ (0 : Int) = w ∨ (w = 1 ∧ (0 : Int) = 3) ∨ (w = 2 ∧ (0 : Int) = 5))) ∨ (v = 0 ∧ ¬ (w = 0 ∨ (0 : Int) = w ∨ (w = 1 ∧ (0 : Int) = 3) ∨ (w = 2 ∧ (0 : Int) = 5)))) → Q (vI v) T M sz) : Ct g (d + 1) mX6_isUnder [vI (0), vI (w)] T M sz 0 0 Q := by
  refine Ct_of2 (ls := [vI (0), vI (w), vU, vU]) okX6_isUnder rfl (Nat.le_of_ble_eq_true rfl) rfl ?_
  intro x hx hr hnm
  refine J_iload_n hx dX6_isUnder_0 (i := 0) rfl rfl ?_
  refine J_istore_n (lsn := [vI (0), vI (w), vI (0), vU]) hx dX6_isUnder_1 (i := 2) rfl (Nat.le_of_ble_eq_true rfl) rfl rfl ?_
  refine J_iconst (v := 0) hx dX6_isUnder_2 (by decide) ?_
  refine J_istore_n (lsn := [vI (0), vI (w), vI (0), vI (0)]) hx dX6_isUnder_3 (i := 3) rfl (Nat.le_of_ble_eq_true rfl) rfl rfl ?_
  refine J_iload_n hx dX6_isUnder_4 (i := 3) rfl rfl ?_
  refine J_bipush (v := 6) hx dX6_isUnder_5 (by decide) ?_
  refine J_icmp_ge (tgt := 39) hx dX6_isUnder_7 (by decide) (fun c9 => absurd c9 (by decide)) (fun _ => ?_)
  refine J_iload_n hx dX6_isUnder_10 (i := 2) rfl rfl ?_
  refine J_if_lt (tgt := 39) hx dX6_isUnder_11 (by decide) (fun c9 => absurd c9 (by decide)) (fun _ => ?_)
  refine J_iload_n hx dX6_isUnder_14 (i := 2) rfl rfl ?_
  refine J_bipush (v := 6) hx dX6_isUnder_15 (by decide) ?_
  refine J_icmp_ge (tgt := 39) hx dX6_isUnder_17 (by decide) (fun c9 => absurd c9 (by decide)) (fun _ => ?_)
  refine J_iload_n hx dX6_isUnder_20 (i := 2) rfl rfl ?_
  refine J_iload_n hx dX6_isUnder_21 (i := 1) rfl rfl ?_
  refine J_icmp_ne (tgt := 27) hx dX6_isUnder_22 (by decide) (fun c4 => ?_) (fun c4 => ?_)
  · refine J_above (v := (-1)) hx 0 dX6_isUnder_27 dX6_isUnder_30 dX6_isUnder_31 rfl (by decide) (by decide) ?_
    refine J_istore_n (lsn := [vI (0), vI (w), vI ((-1)), vI (0)]) hx dX6_isUnder_32 (i := 2) rfl (Nat.le_of_ble_eq_true rfl) rfl rfl ?_
    refine J_iinc (v := 1) (lsn := [vI (0), vI (w), vI ((-1)), vI (1)]) hx dX6_isUnder_33 rfl (by decide) rfl rfl ?_
    refine J_goto (tgt := 4) hx dX6_isUnder_36 (by decide) ?_
    refine J_iload_n hx dX6_isUnder_4 (i := 3) rfl rfl ?_
    refine J_bipush (v := 6) hx dX6_isUnder_5 (by decide) ?_
    refine J_icmp_ge (tgt := 39) hx dX6_isUnder_7 (by decide) (fun c9 => absurd c9 (by decide)) (fun _ => ?_)
    refine J_iload_n hx dX6_isUnder_10 (i := 2) rfl rfl ?_
    refine J_if_lt (tgt := 39) hx dX6_isUnder_11 (by decide) (fun _ => ?_) (fun c9 => absurd c9 (by decide))
    refine J_iconst (v := 0) hx dX6_isUnder_39 (by decide) ?_
    refine J_zret hx hr dX6_isUnder_40 (by omega) ?_
    exact hQ _ (by omega)
  · refine J_iconst (v := 1) hx dX6_isUnder_25 (by decide) ?_
    refine J_zret hx hr dX6_isUnder_26 (by omega) ?_
    exact hQ _ (by omega)

set_option maxHeartbeats 4000000 in
theorem c_X6_isUnder_1 {g : WG} {d : Nat} {T : TT} {M : MM} {sz : Nat} {Q : MVal → TT → MM → Nat → Prop} {w : Int} (hw : 0 ≤ w ∧ w ≤ 5) (hQ : ∀ v : Int, ((v = 1 ∧ (w = 0 ∨ (1 : Int) = w ∨ (w = 1 ∧ (1 : Int) = 3) ∨ (w = 2 ∧ (1 : Int) = 5))) ∨ (v = 0 ∧ ¬ (w = 0 ∨ (1 : Int) = w ∨ (w = 1 ∧ (1 : Int) = 3) ∨ (w = 2 ∧ (1 : Int) = 5)))) → Q (vI v) T M sz) : Ct g (d + 1) mX6_isUnder [vI (1), vI (w)] T M sz 0 0 Q := by
  refine Ct_of2 (ls := [vI (1), vI (w), vU, vU]) okX6_isUnder rfl (Nat.le_of_ble_eq_true rfl) rfl ?_
  intro x hx hr hnm
  refine J_iload_n hx dX6_isUnder_0 (i := 0) rfl rfl ?_
  refine J_istore_n (lsn := [vI (1), vI (w), vI (1), vU]) hx dX6_isUnder_1 (i := 2) rfl (Nat.le_of_ble_eq_true rfl) rfl rfl ?_
  refine J_iconst (v := 0) hx dX6_isUnder_2 (by decide) ?_
  refine J_istore_n (lsn := [vI (1), vI (w), vI (1), vI (0)]) hx dX6_isUnder_3 (i := 3) rfl (Nat.le_of_ble_eq_true rfl) rfl rfl ?_
  refine J_iload_n hx dX6_isUnder_4 (i := 3) rfl rfl ?_
  refine J_bipush (v := 6) hx dX6_isUnder_5 (by decide) ?_
  refine J_icmp_ge (tgt := 39) hx dX6_isUnder_7 (by decide) (fun c9 => absurd c9 (by decide)) (fun _ => ?_)
  refine J_iload_n hx dX6_isUnder_10 (i := 2) rfl rfl ?_
  refine J_if_lt (tgt := 39) hx dX6_isUnder_11 (by decide) (fun c9 => absurd c9 (by decide)) (fun _ => ?_)
  refine J_iload_n hx dX6_isUnder_14 (i := 2) rfl rfl ?_
  refine J_bipush (v := 6) hx dX6_isUnder_15 (by decide) ?_
  refine J_icmp_ge (tgt := 39) hx dX6_isUnder_17 (by decide) (fun c9 => absurd c9 (by decide)) (fun _ => ?_)
  refine J_iload_n hx dX6_isUnder_20 (i := 2) rfl rfl ?_
  refine J_iload_n hx dX6_isUnder_21 (i := 1) rfl rfl ?_
  refine J_icmp_ne (tgt := 27) hx dX6_isUnder_22 (by decide) (fun c4 => ?_) (fun c4 => ?_)
  · refine J_above (v := 0) hx 1 dX6_isUnder_27 dX6_isUnder_30 dX6_isUnder_31 rfl (by decide) (by decide) ?_
    refine J_istore_n (lsn := [vI (1), vI (w), vI (0), vI (0)]) hx dX6_isUnder_32 (i := 2) rfl (Nat.le_of_ble_eq_true rfl) rfl rfl ?_
    refine J_iinc (v := 1) (lsn := [vI (1), vI (w), vI (0), vI (1)]) hx dX6_isUnder_33 rfl (by decide) rfl rfl ?_
    refine J_goto (tgt := 4) hx dX6_isUnder_36 (by decide) ?_
    refine J_iload_n hx dX6_isUnder_4 (i := 3) rfl rfl ?_
    refine J_bipush (v := 6) hx dX6_isUnder_5 (by decide) ?_
    refine J_icmp_ge (tgt := 39) hx dX6_isUnder_7 (by decide) (fun c9 => absurd c9 (by decide)) (fun _ => ?_)
    refine J_iload_n hx dX6_isUnder_10 (i := 2) rfl rfl ?_
    refine J_if_lt (tgt := 39) hx dX6_isUnder_11 (by decide) (fun c9 => absurd c9 (by decide)) (fun _ => ?_)
    refine J_iload_n hx dX6_isUnder_14 (i := 2) rfl rfl ?_
    refine J_bipush (v := 6) hx dX6_isUnder_15 (by decide) ?_
    refine J_icmp_ge (tgt := 39) hx dX6_isUnder_17 (by decide) (fun c9 => absurd c9 (by decide)) (fun _ => ?_)
    refine J_iload_n hx dX6_isUnder_20 (i := 2) rfl rfl ?_
    refine J_iload_n hx dX6_isUnder_21 (i := 1) rfl rfl ?_
    refine J_icmp_ne (tgt := 27) hx dX6_isUnder_22 (by decide) (fun c8 => ?_) (fun c8 => ?_)
    · refine J_above (v := (-1)) hx 0 dX6_isUnder_27 dX6_isUnder_30 dX6_isUnder_31 rfl (by decide) (by decide) ?_
      refine J_istore_n (lsn := [vI (1), vI (w), vI ((-1)), vI (1)]) hx dX6_isUnder_32 (i := 2) rfl (Nat.le_of_ble_eq_true rfl) rfl rfl ?_
      refine J_iinc (v := 2) (lsn := [vI (1), vI (w), vI ((-1)), vI (2)]) hx dX6_isUnder_33 rfl (by decide) rfl rfl ?_
      refine J_goto (tgt := 4) hx dX6_isUnder_36 (by decide) ?_
      refine J_iload_n hx dX6_isUnder_4 (i := 3) rfl rfl ?_
      refine J_bipush (v := 6) hx dX6_isUnder_5 (by decide) ?_
      refine J_icmp_ge (tgt := 39) hx dX6_isUnder_7 (by decide) (fun c9 => absurd c9 (by decide)) (fun _ => ?_)
      refine J_iload_n hx dX6_isUnder_10 (i := 2) rfl rfl ?_
      refine J_if_lt (tgt := 39) hx dX6_isUnder_11 (by decide) (fun _ => ?_) (fun c9 => absurd c9 (by decide))
      refine J_iconst (v := 0) hx dX6_isUnder_39 (by decide) ?_
      refine J_zret hx hr dX6_isUnder_40 (by omega) ?_
      exact hQ _ (by omega)
    · refine J_iconst (v := 1) hx dX6_isUnder_25 (by decide) ?_
      refine J_zret hx hr dX6_isUnder_26 (by omega) ?_
      exact hQ _ (by omega)
  · refine J_iconst (v := 1) hx dX6_isUnder_25 (by decide) ?_
    refine J_zret hx hr dX6_isUnder_26 (by omega) ?_
    exact hQ _ (by omega)

set_option maxHeartbeats 4000000 in
theorem c_X6_isUnder_2 {g : WG} {d : Nat} {T : TT} {M : MM} {sz : Nat} {Q : MVal → TT → MM → Nat → Prop} {w : Int} (hw : 0 ≤ w ∧ w ≤ 5) (hQ : ∀ v : Int, ((v = 1 ∧ (w = 0 ∨ (2 : Int) = w ∨ (w = 1 ∧ (2 : Int) = 3) ∨ (w = 2 ∧ (2 : Int) = 5))) ∨ (v = 0 ∧ ¬ (w = 0 ∨ (2 : Int) = w ∨ (w = 1 ∧ (2 : Int) = 3) ∨ (w = 2 ∧ (2 : Int) = 5)))) → Q (vI v) T M sz) : Ct g (d + 1) mX6_isUnder [vI (2), vI (w)] T M sz 0 0 Q := by
  refine Ct_of2 (ls := [vI (2), vI (w), vU, vU]) okX6_isUnder rfl (Nat.le_of_ble_eq_true rfl) rfl ?_
  intro x hx hr hnm
  refine J_iload_n hx dX6_isUnder_0 (i := 0) rfl rfl ?_
  refine J_istore_n (lsn := [vI (2), vI (w), vI (2), vU]) hx dX6_isUnder_1 (i := 2) rfl (Nat.le_of_ble_eq_true rfl) rfl rfl ?_
  refine J_iconst (v := 0) hx dX6_isUnder_2 (by decide) ?_
  refine J_istore_n (lsn := [vI (2), vI (w), vI (2), vI (0)]) hx dX6_isUnder_3 (i := 3) rfl (Nat.le_of_ble_eq_true rfl) rfl rfl ?_
  refine J_iload_n hx dX6_isUnder_4 (i := 3) rfl rfl ?_
  refine J_bipush (v := 6) hx dX6_isUnder_5 (by decide) ?_
  refine J_icmp_ge (tgt := 39) hx dX6_isUnder_7 (by decide) (fun c9 => absurd c9 (by decide)) (fun _ => ?_)
  refine J_iload_n hx dX6_isUnder_10 (i := 2) rfl rfl ?_
  refine J_if_lt (tgt := 39) hx dX6_isUnder_11 (by decide) (fun c9 => absurd c9 (by decide)) (fun _ => ?_)
  refine J_iload_n hx dX6_isUnder_14 (i := 2) rfl rfl ?_
  refine J_bipush (v := 6) hx dX6_isUnder_15 (by decide) ?_
  refine J_icmp_ge (tgt := 39) hx dX6_isUnder_17 (by decide) (fun c9 => absurd c9 (by decide)) (fun _ => ?_)
  refine J_iload_n hx dX6_isUnder_20 (i := 2) rfl rfl ?_
  refine J_iload_n hx dX6_isUnder_21 (i := 1) rfl rfl ?_
  refine J_icmp_ne (tgt := 27) hx dX6_isUnder_22 (by decide) (fun c4 => ?_) (fun c4 => ?_)
  · refine J_above (v := 0) hx 2 dX6_isUnder_27 dX6_isUnder_30 dX6_isUnder_31 rfl (by decide) (by decide) ?_
    refine J_istore_n (lsn := [vI (2), vI (w), vI (0), vI (0)]) hx dX6_isUnder_32 (i := 2) rfl (Nat.le_of_ble_eq_true rfl) rfl rfl ?_
    refine J_iinc (v := 1) (lsn := [vI (2), vI (w), vI (0), vI (1)]) hx dX6_isUnder_33 rfl (by decide) rfl rfl ?_
    refine J_goto (tgt := 4) hx dX6_isUnder_36 (by decide) ?_
    refine J_iload_n hx dX6_isUnder_4 (i := 3) rfl rfl ?_
    refine J_bipush (v := 6) hx dX6_isUnder_5 (by decide) ?_
    refine J_icmp_ge (tgt := 39) hx dX6_isUnder_7 (by decide) (fun c9 => absurd c9 (by decide)) (fun _ => ?_)
    refine J_iload_n hx dX6_isUnder_10 (i := 2) rfl rfl ?_
    refine J_if_lt (tgt := 39) hx dX6_isUnder_11 (by decide) (fun c9 => absurd c9 (by decide)) (fun _ => ?_)
    refine J_iload_n hx dX6_isUnder_14 (i := 2) rfl rfl ?_
    refine J_bipush (v := 6) hx dX6_isUnder_15 (by decide) ?_
    refine J_icmp_ge (tgt := 39) hx dX6_isUnder_17 (by decide) (fun c9 => absurd c9 (by decide)) (fun _ => ?_)
    refine J_iload_n hx dX6_isUnder_20 (i := 2) rfl rfl ?_
    refine J_iload_n hx dX6_isUnder_21 (i := 1) rfl rfl ?_
    refine J_icmp_ne (tgt := 27) hx dX6_isUnder_22 (by decide) (fun c8 => ?_) (fun c8 => ?_)
    · refine J_above (v := (-1)) hx 0 dX6_isUnder_27 dX6_isUnder_30 dX6_isUnder_31 rfl (by decide) (by decide) ?_
      refine J_istore_n (lsn := [vI (2), vI (w), vI ((-1)), vI (1)]) hx dX6_isUnder_32 (i := 2) rfl (Nat.le_of_ble_eq_true rfl) rfl rfl ?_
      refine J_iinc (v := 2) (lsn := [vI (2), vI (w), vI ((-1)), vI (2)]) hx dX6_isUnder_33 rfl (by decide) rfl rfl ?_
      refine J_goto (tgt := 4) hx dX6_isUnder_36 (by decide) ?_
      refine J_iload_n hx dX6_isUnder_4 (i := 3) rfl rfl ?_
      refine J_bipush (v := 6) hx dX6_isUnder_5 (by decide) ?_
      refine J_icmp_ge (tgt := 39) hx dX6_isUnder_7 (by decide) (fun c9 => absurd c9 (by decide)) (fun _ => ?_)
      refine J_iload_n hx dX6_isUnder_10 (i := 2) rfl rfl ?_
      refine J_if_lt (tgt := 39) hx dX6_isUnder_11 (by decide) (fun _ => ?_) (fun c9 => absurd c9 (by decide))
      refine J_iconst (v := 0) hx dX6_isUnder_39 (by decide) ?_
      refine J_zret hx hr dX6_isUnder_40 (by omega) ?_
      exact hQ _ (by omega)
    · refine J_iconst (v := 1) hx dX6_isUnder_25 (by decide) ?_
      refine J_zret hx hr dX6_isUnder_26 (by omega) ?_
      exact hQ _ (by omega)
  · refine J_iconst (v := 1) hx dX6_isUnder_25 (by decide) ?_
    refine J_zret hx hr dX6_isUnder_26 (by omega) ?_
    exact hQ _ (by omega)

set_option maxHeartbeats 4000000 in
theorem c_X6_isUnder_3 {g : WG} {d : Nat} {T : TT} {M : MM} {sz : Nat} {Q : MVal → TT → MM → Nat → Prop} {w : Int} (hw : 0 ≤ w ∧ w ≤ 5) (hQ : ∀ v : Int, ((v = 1 ∧ (w = 0 ∨ (3 : Int) = w ∨ (w = 1 ∧ (3 : Int) = 3) ∨ (w = 2 ∧ (3 : Int) = 5))) ∨ (v = 0 ∧ ¬ (w = 0 ∨ (3 : Int) = w ∨ (w = 1 ∧ (3 : Int) = 3) ∨ (w = 2 ∧ (3 : Int) = 5)))) → Q (vI v) T M sz) : Ct g (d + 1) mX6_isUnder [vI (3), vI (w)] T M sz 0 0 Q := by
  refine Ct_of2 (ls := [vI (3), vI (w), vU, vU]) okX6_isUnder rfl (Nat.le_of_ble_eq_true rfl) rfl ?_
  intro x hx hr hnm
  refine J_iload_n hx dX6_isUnder_0 (i := 0) rfl rfl ?_
  refine J_istore_n (lsn := [vI (3), vI (w), vI (3), vU]) hx dX6_isUnder_1 (i := 2) rfl (Nat.le_of_ble_eq_true rfl) rfl rfl ?_
  refine J_iconst (v := 0) hx dX6_isUnder_2 (by decide) ?_
  refine J_istore_n (lsn := [vI (3), vI (w), vI (3), vI (0)]) hx dX6_isUnder_3 (i := 3) rfl (Nat.le_of_ble_eq_true rfl) rfl rfl ?_
  refine J_iload_n hx dX6_isUnder_4 (i := 3) rfl rfl ?_
  refine J_bipush (v := 6) hx dX6_isUnder_5 (by decide) ?_
  refine J_icmp_ge (tgt := 39) hx dX6_isUnder_7 (by decide) (fun c9 => absurd c9 (by decide)) (fun _ => ?_)
  refine J_iload_n hx dX6_isUnder_10 (i := 2) rfl rfl ?_
  refine J_if_lt (tgt := 39) hx dX6_isUnder_11 (by decide) (fun c9 => absurd c9 (by decide)) (fun _ => ?_)
  refine J_iload_n hx dX6_isUnder_14 (i := 2) rfl rfl ?_
  refine J_bipush (v := 6) hx dX6_isUnder_15 (by decide) ?_
  refine J_icmp_ge (tgt := 39) hx dX6_isUnder_17 (by decide) (fun c9 => absurd c9 (by decide)) (fun _ => ?_)
  refine J_iload_n hx dX6_isUnder_20 (i := 2) rfl rfl ?_
  refine J_iload_n hx dX6_isUnder_21 (i := 1) rfl rfl ?_
  refine J_icmp_ne (tgt := 27) hx dX6_isUnder_22 (by decide) (fun c4 => ?_) (fun c4 => ?_)
  · refine J_above (v := 1) hx 3 dX6_isUnder_27 dX6_isUnder_30 dX6_isUnder_31 rfl (by decide) (by decide) ?_
    refine J_istore_n (lsn := [vI (3), vI (w), vI (1), vI (0)]) hx dX6_isUnder_32 (i := 2) rfl (Nat.le_of_ble_eq_true rfl) rfl rfl ?_
    refine J_iinc (v := 1) (lsn := [vI (3), vI (w), vI (1), vI (1)]) hx dX6_isUnder_33 rfl (by decide) rfl rfl ?_
    refine J_goto (tgt := 4) hx dX6_isUnder_36 (by decide) ?_
    refine J_iload_n hx dX6_isUnder_4 (i := 3) rfl rfl ?_
    refine J_bipush (v := 6) hx dX6_isUnder_5 (by decide) ?_
    refine J_icmp_ge (tgt := 39) hx dX6_isUnder_7 (by decide) (fun c9 => absurd c9 (by decide)) (fun _ => ?_)
    refine J_iload_n hx dX6_isUnder_10 (i := 2) rfl rfl ?_
    refine J_if_lt (tgt := 39) hx dX6_isUnder_11 (by decide) (fun c9 => absurd c9 (by decide)) (fun _ => ?_)
    refine J_iload_n hx dX6_isUnder_14 (i := 2) rfl rfl ?_
    refine J_bipush (v := 6) hx dX6_isUnder_15 (by decide) ?_
    refine J_icmp_ge (tgt := 39) hx dX6_isUnder_17 (by decide) (fun c9 => absurd c9 (by decide)) (fun _ => ?_)
    refine J_iload_n hx dX6_isUnder_20 (i := 2) rfl rfl ?_
    refine J_iload_n hx dX6_isUnder_21 (i := 1) rfl rfl ?_
    refine J_icmp_ne (tgt := 27) hx dX6_isUnder_22 (by decide) (fun c8 => ?_) (fun c8 => ?_)
    · refine J_above (v := 0) hx 1 dX6_isUnder_27 dX6_isUnder_30 dX6_isUnder_31 rfl (by decide) (by decide) ?_
      refine J_istore_n (lsn := [vI (3), vI (w), vI (0), vI (1)]) hx dX6_isUnder_32 (i := 2) rfl (Nat.le_of_ble_eq_true rfl) rfl rfl ?_
      refine J_iinc (v := 2) (lsn := [vI (3), vI (w), vI (0), vI (2)]) hx dX6_isUnder_33 rfl (by decide) rfl rfl ?_
      refine J_goto (tgt := 4) hx dX6_isUnder_36 (by decide) ?_
      refine J_iload_n hx dX6_isUnder_4 (i := 3) rfl rfl ?_
      refine J_bipush (v := 6) hx dX6_isUnder_5 (by decide) ?_
      refine J_icmp_ge (tgt := 39) hx dX6_isUnder_7 (by decide) (fun c9 => absurd c9 (by decide)) (fun _ => ?_)
      refine J_iload_n hx dX6_isUnder_10 (i := 2) rfl rfl ?_
      refine J_if_lt (tgt := 39) hx dX6_isUnder_11 (by decide) (fun c9 => absurd c9 (by decide)) (fun _ => ?_)
      refine J_iload_n hx dX6_isUnder_14 (i := 2) rfl rfl ?_
      refine J_bipush (v := 6) hx dX6_isUnder_15 (by decide) ?_
      refine J_icmp_ge (tgt := 39) hx dX6_isUnder_17 (by decide) (fun c9 => absurd c9 (by decide)) (fun _ => ?_)
      refine J_iload_n hx dX6_isUnder_20 (i := 2) rfl rfl ?_
      refine J_iload_n hx dX6_isUnder_21 (i := 1) rfl rfl ?_
      refine J_icmp_ne (tgt := 27) hx dX6_isUnder_22 (by decide) (fun c12 => ?_) (fun c12 => ?_)
      · refine J_above (v := (-1)) hx 0 dX6_isUnder_27 dX6_isUnder_30 dX6_isUnder_31 rfl (by decide) (by decide) ?_
        refine J_istore_n (lsn := [vI (3), vI (w), vI ((-1)), vI (2)]) hx dX6_isUnder_32 (i := 2) rfl (Nat.le_of_ble_eq_true rfl) rfl rfl ?_
        refine J_iinc (v := 3) (lsn := [vI (3), vI (w), vI ((-1)), vI (3)]) hx dX6_isUnder_33 rfl (by decide) rfl rfl ?_
        refine J_goto (tgt := 4) hx dX6_isUnder_36 (by decide) ?_
        refine J_iload_n hx dX6_isUnder_4 (i := 3) rfl rfl ?_
        refine J_bipush (v := 6) hx dX6_isUnder_5 (by decide) ?_
        refine J_icmp_ge (tgt := 39) hx dX6_isUnder_7 (by decide) (fun c9 => absurd c9 (by decide)) (fun _ => ?_)
        refine J_iload_n hx dX6_isUnder_10 (i := 2) rfl rfl ?_
        refine J_if_lt (tgt := 39) hx dX6_isUnder_11 (by decide) (fun _ => ?_) (fun c9 => absurd c9 (by decide))
        refine J_iconst (v := 0) hx dX6_isUnder_39 (by decide) ?_
        refine J_zret hx hr dX6_isUnder_40 (by omega) ?_
        exact hQ _ (by omega)
      · refine J_iconst (v := 1) hx dX6_isUnder_25 (by decide) ?_
        refine J_zret hx hr dX6_isUnder_26 (by omega) ?_
        exact hQ _ (by omega)
    · refine J_iconst (v := 1) hx dX6_isUnder_25 (by decide) ?_
      refine J_zret hx hr dX6_isUnder_26 (by omega) ?_
      exact hQ _ (by omega)
  · refine J_iconst (v := 1) hx dX6_isUnder_25 (by decide) ?_
    refine J_zret hx hr dX6_isUnder_26 (by omega) ?_
    exact hQ _ (by omega)

set_option maxHeartbeats 4000000 in
theorem c_X6_isUnder_4 {g : WG} {d : Nat} {T : TT} {M : MM} {sz : Nat} {Q : MVal → TT → MM → Nat → Prop} {w : Int} (hw : 0 ≤ w ∧ w ≤ 5) (hQ : ∀ v : Int, ((v = 1 ∧ (w = 0 ∨ (4 : Int) = w ∨ (w = 1 ∧ (4 : Int) = 3) ∨ (w = 2 ∧ (4 : Int) = 5))) ∨ (v = 0 ∧ ¬ (w = 0 ∨ (4 : Int) = w ∨ (w = 1 ∧ (4 : Int) = 3) ∨ (w = 2 ∧ (4 : Int) = 5)))) → Q (vI v) T M sz) : Ct g (d + 1) mX6_isUnder [vI (4), vI (w)] T M sz 0 0 Q := by
  refine Ct_of2 (ls := [vI (4), vI (w), vU, vU]) okX6_isUnder rfl (Nat.le_of_ble_eq_true rfl) rfl ?_
  intro x hx hr hnm
  refine J_iload_n hx dX6_isUnder_0 (i := 0) rfl rfl ?_
  refine J_istore_n (lsn := [vI (4), vI (w), vI (4), vU]) hx dX6_isUnder_1 (i := 2) rfl (Nat.le_of_ble_eq_true rfl) rfl rfl ?_
  refine J_iconst (v := 0) hx dX6_isUnder_2 (by decide) ?_
  refine J_istore_n (lsn := [vI (4), vI (w), vI (4), vI (0)]) hx dX6_isUnder_3 (i := 3) rfl (Nat.le_of_ble_eq_true rfl) rfl rfl ?_
  refine J_iload_n hx dX6_isUnder_4 (i := 3) rfl rfl ?_
  refine J_bipush (v := 6) hx dX6_isUnder_5 (by decide) ?_
  refine J_icmp_ge (tgt := 39) hx dX6_isUnder_7 (by decide) (fun c9 => absurd c9 (by decide)) (fun _ => ?_)
  refine J_iload_n hx dX6_isUnder_10 (i := 2) rfl rfl ?_
  refine J_if_lt (tgt := 39) hx dX6_isUnder_11 (by decide) (fun c9 => absurd c9 (by decide)) (fun _ => ?_)
  refine J_iload_n hx dX6_isUnder_14 (i := 2) rfl rfl ?_
  refine J_bipush (v := 6) hx dX6_isUnder_15 (by decide) ?_
  refine J_icmp_ge (tgt := 39) hx dX6_isUnder_17 (by decide) (fun c9 => absurd c9 (by decide)) (fun _ => ?_)
  refine J_iload_n hx dX6_isUnder_20 (i := 2) rfl rfl ?_
  refine J_iload_n hx dX6_isUnder_21 (i := 1) rfl rfl ?_
  refine J_icmp_ne (tgt := 27) hx dX6_isUnder_22 (by decide) (fun c4 => ?_) (fun c4 => ?_)
  · refine J_above (v := 0) hx 4 dX6_isUnder_27 dX6_isUnder_30 dX6_isUnder_31 rfl (by decide) (by decide) ?_
    refine J_istore_n (lsn := [vI (4), vI (w), vI (0), vI (0)]) hx dX6_isUnder_32 (i := 2) rfl (Nat.le_of_ble_eq_true rfl) rfl rfl ?_
    refine J_iinc (v := 1) (lsn := [vI (4), vI (w), vI (0), vI (1)]) hx dX6_isUnder_33 rfl (by decide) rfl rfl ?_
    refine J_goto (tgt := 4) hx dX6_isUnder_36 (by decide) ?_
    refine J_iload_n hx dX6_isUnder_4 (i := 3) rfl rfl ?_
    refine J_bipush (v := 6) hx dX6_isUnder_5 (by decide) ?_
    refine J_icmp_ge (tgt := 39) hx dX6_isUnder_7 (by decide) (fun c9 => absurd c9 (by decide)) (fun _ => ?_)
    refine J_iload_n hx dX6_isUnder_10 (i := 2) rfl rfl ?_
    refine J_if_lt (tgt := 39) hx dX6_isUnder_11 (by decide) (fun c9 => absurd c9 (by decide)) (fun _ => ?_)
    refine J_iload_n hx dX6_isUnder_14 (i := 2) rfl rfl ?_
    refine J_bipush (v := 6) hx dX6_isUnder_15 (by decide) ?_
    refine J_icmp_ge (tgt := 39) hx dX6_isUnder_17 (by decide) (fun c9 => absurd c9 (by decide)) (fun _ => ?_)
    refine J_iload_n hx dX6_isUnder_20 (i := 2) rfl rfl ?_
    refine J_iload_n hx dX6_isUnder_21 (i := 1) rfl rfl ?_
    refine J_icmp_ne (tgt := 27) hx dX6_isUnder_22 (by decide) (fun c8 => ?_) (fun c8 => ?_)
    · refine J_above (v := (-1)) hx 0 dX6_isUnder_27 dX6_isUnder_30 dX6_isUnder_31 rfl (by decide) (by decide) ?_
      refine J_istore_n (lsn := [vI (4), vI (w), vI ((-1)), vI (1)]) hx dX6_isUnder_32 (i := 2) rfl (Nat.le_of_ble_eq_true rfl) rfl rfl ?_
      refine J_iinc (v := 2) (lsn := [vI (4), vI (w), vI ((-1)), vI (2)]) hx dX6_isUnder_33 rfl (by decide) rfl rfl ?_
      refine J_goto (tgt := 4) hx dX6_isUnder_36 (by decide) ?_
      refine J_iload_n hx dX6_isUnder_4 (i := 3) rfl rfl ?_
      refine J_bipush (v := 6) hx dX6_isUnder_5 (by decide) ?_
      refine J_icmp_ge (tgt := 39) hx dX6_isUnder_7 (by decide) (fun c9 => absurd c9 (by decide)) (fun _ => ?_)
      refine J_iload_n hx dX6_isUnder_10 (i := 2) rfl rfl ?_
      refine J_if_lt (tgt := 39) hx dX6_isUnder_11 (by decide) (fun _ => ?_) (fun c9 => absurd c9 (by decide))
      refine J_iconst (v := 0) hx dX6_isUnder_39 (by decide) ?_
      refine J_zret hx hr dX6_isUnder_40 (by omega) ?_
      exact hQ _ (by omega)
    · refine J_iconst (v := 1) hx dX6_isUnder_25 (by decide) ?_
      refine J_zret hx hr dX6_isUnder_26 (by omega) ?_
      exact hQ _ (by omega)
  · refine J_iconst (v := 1) hx dX6_isUnder_25 (by decide) ?_
    refine J_zret hx hr dX6_isUnder_26 (by omega) ?_
    exact hQ _ (by omega)

set_option maxHeartbeats 4000000 in
theorem c_X6_isUnder_5 {g : WG} {d : Nat} {T : TT} {M : MM} {sz : Nat} {Q : MVal → TT → MM → Nat → Prop} {w : Int} (hw : 0 ≤ w ∧ w ≤ 5) (hQ : ∀ v : Int, ((v = 1 ∧ (w = 0 ∨ (5 : Int) = w ∨ (w = 1 ∧ (5 : Int) = 3) ∨ (w = 2 ∧ (5 : Int) = 5))) ∨ (v = 0 ∧ ¬ (w = 0 ∨ (5 : Int) = w ∨ (w = 1 ∧ (5 : Int) = 3) ∨ (w = 2 ∧ (5 : Int) = 5)))) → Q (vI v) T M sz) : Ct g (d + 1) mX6_isUnder [vI (5), vI (w)] T M sz 0 0 Q := by
  refine Ct_of2 (ls := [vI (5), vI (w), vU, vU]) okX6_isUnder rfl (Nat.le_of_ble_eq_true rfl) rfl ?_
  intro x hx hr hnm
  refine J_iload_n hx dX6_isUnder_0 (i := 0) rfl rfl ?_
  refine J_istore_n (lsn := [vI (5), vI (w), vI (5), vU]) hx dX6_isUnder_1 (i := 2) rfl (Nat.le_of_ble_eq_true rfl) rfl rfl ?_
  refine J_iconst (v := 0) hx dX6_isUnder_2 (by decide) ?_
  refine J_istore_n (lsn := [vI (5), vI (w), vI (5), vI (0)]) hx dX6_isUnder_3 (i := 3) rfl (Nat.le_of_ble_eq_true rfl) rfl rfl ?_
  refine J_iload_n hx dX6_isUnder_4 (i := 3) rfl rfl ?_
  refine J_bipush (v := 6) hx dX6_isUnder_5 (by decide) ?_
  refine J_icmp_ge (tgt := 39) hx dX6_isUnder_7 (by decide) (fun c9 => absurd c9 (by decide)) (fun _ => ?_)
  refine J_iload_n hx dX6_isUnder_10 (i := 2) rfl rfl ?_
  refine J_if_lt (tgt := 39) hx dX6_isUnder_11 (by decide) (fun c9 => absurd c9 (by decide)) (fun _ => ?_)
  refine J_iload_n hx dX6_isUnder_14 (i := 2) rfl rfl ?_
  refine J_bipush (v := 6) hx dX6_isUnder_15 (by decide) ?_
  refine J_icmp_ge (tgt := 39) hx dX6_isUnder_17 (by decide) (fun c9 => absurd c9 (by decide)) (fun _ => ?_)
  refine J_iload_n hx dX6_isUnder_20 (i := 2) rfl rfl ?_
  refine J_iload_n hx dX6_isUnder_21 (i := 1) rfl rfl ?_
  refine J_icmp_ne (tgt := 27) hx dX6_isUnder_22 (by decide) (fun c4 => ?_) (fun c4 => ?_)
  · refine J_above (v := 2) hx 5 dX6_isUnder_27 dX6_isUnder_30 dX6_isUnder_31 rfl (by decide) (by decide) ?_
    refine J_istore_n (lsn := [vI (5), vI (w), vI (2), vI (0)]) hx dX6_isUnder_32 (i := 2) rfl (Nat.le_of_ble_eq_true rfl) rfl rfl ?_
    refine J_iinc (v := 1) (lsn := [vI (5), vI (w), vI (2), vI (1)]) hx dX6_isUnder_33 rfl (by decide) rfl rfl ?_
    refine J_goto (tgt := 4) hx dX6_isUnder_36 (by decide) ?_
    refine J_iload_n hx dX6_isUnder_4 (i := 3) rfl rfl ?_
    refine J_bipush (v := 6) hx dX6_isUnder_5 (by decide) ?_
    refine J_icmp_ge (tgt := 39) hx dX6_isUnder_7 (by decide) (fun c9 => absurd c9 (by decide)) (fun _ => ?_)
    refine J_iload_n hx dX6_isUnder_10 (i := 2) rfl rfl ?_
    refine J_if_lt (tgt := 39) hx dX6_isUnder_11 (by decide) (fun c9 => absurd c9 (by decide)) (fun _ => ?_)
    refine J_iload_n hx dX6_isUnder_14 (i := 2) rfl rfl ?_
    refine J_bipush (v := 6) hx dX6_isUnder_15 (by decide) ?_
    refine J_icmp_ge (tgt := 39) hx dX6_isUnder_17 (by decide) (fun c9 => absurd c9 (by decide)) (fun _ => ?_)
    refine J_iload_n hx dX6_isUnder_20 (i := 2) rfl rfl ?_
    refine J_iload_n hx dX6_isUnder_21 (i := 1) rfl rfl ?_
    refine J_icmp_ne (tgt := 27) hx dX6_isUnder_22 (by decide) (fun c8 => ?_) (fun c8 => ?_)
    · refine J_above (v := 0) hx 2 dX6_isUnder_27 dX6_isUnder_30 dX6_isUnder_31 rfl (by decide) (by decide) ?_
      refine J_istore_n (lsn := [vI (5), vI (w), vI (0), vI (1)]) hx dX6_isUnder_32 (i := 2) rfl (Nat.le_of_ble_eq_true rfl) rfl rfl ?_
      refine J_iinc (v := 2) (lsn := [vI (5), vI (w), vI (0), vI (2)]) hx dX6_isUnder_33 rfl (by decide) rfl rfl ?_
      refine J_goto (tgt := 4) hx dX6_isUnder_36 (by decide) ?_
      refine J_iload_n hx dX6_isUnder_4 (i := 3) rfl rfl ?_
      refine J_bipush (v := 6) hx dX6_isUnder_5 (by decide) ?_
      refine J_icmp_ge (tgt := 39) hx dX6_isUnder_7 (by decide) (fun c9 => absurd c9 (by decide)) (fun _ => ?_)
      refine J_iload_n hx dX6_isUnder_10 (i := 2) rfl rfl ?_
      refine J_if_lt (tgt := 39) hx dX6_isUnder_11 (by decide) (fun c9 => absurd c9 (by decide)) (fun _ => ?_)
      refine J_iload_n hx dX6_isUnder_14 (i := 2) rfl rfl ?_
      refine J_bipush (v := 6) hx dX6_isUnder_15 (by decide) ?_
      refine J_icmp_ge (tgt := 39) hx dX6_isUnder_17 (by decide) (fun c9 => absurd c9 (by decide)) (fun _ => ?_)
      refine J_iload_n hx dX6_isUnder_20 (i := 2) rfl rfl ?_
      refine J_iload_n hx dX6_isUnder_21 (i := 1) rfl rfl ?_
      refine J_icmp_ne (tgt := 27) hx dX6_isUnder_22 (by decide) (fun c12 => ?_) (fun c12 => ?_)
      · refine J_above (v := (-1)) hx 0 dX6_isUnder_27 dX6_isUnder_30 dX6_isUnder_31 rfl (by decide) (by decide) ?_
        refine J_istore_n (lsn := [vI (5), vI (w), vI ((-1)), vI (2)]) hx dX6_isUnder_32 (i := 2) rfl (Nat.le_of_ble_eq_true rfl) rfl rfl ?_
        refine J_iinc (v := 3) (lsn := [vI (5), vI (w), vI ((-1)), vI (3)]) hx dX6_isUnder_33 rfl (by decide) rfl rfl ?_
        refine J_goto (tgt := 4) hx dX6_isUnder_36 (by decide) ?_
        refine J_iload_n hx dX6_isUnder_4 (i := 3) rfl rfl ?_
        refine J_bipush (v := 6) hx dX6_isUnder_5 (by decide) ?_
        refine J_icmp_ge (tgt := 39) hx dX6_isUnder_7 (by decide) (fun c9 => absurd c9 (by decide)) (fun _ => ?_)
        refine J_iload_n hx dX6_isUnder_10 (i := 2) rfl rfl ?_
        refine J_if_lt (tgt := 39) hx dX6_isUnder_11 (by decide) (fun _ => ?_) (fun c9 => absurd c9 (by decide))
        refine J_iconst (v := 0) hx dX6_isUnder_39 (by decide) ?_
        refine J_zret hx hr dX6_isUnder_40 (by omega) ?_
        exact hQ _ (by omega)
      · refine J_iconst (v := 1) hx dX6_isUnder_25 (by decide) ?_
        refine J_zret hx hr dX6_isUnder_26 (by omega) ?_
        exact hQ _ (by omega)
    · refine J_iconst (v := 1) hx dX6_isUnder_25 (by decide) ?_
      refine J_zret hx hr dX6_isUnder_26 (by omega) ?_
      exact hQ _ (by omega)
  · refine J_iconst (v := 1) hx dX6_isUnder_25 (by decide) ?_
    refine J_zret hx hr dX6_isUnder_26 (by omega) ?_
    exact hQ _ (by omega)

theorem c_X6_isUnder {g : WG} {d : Nat} {T : TT} {M : MM} {sz : Nat} {Q : MVal → TT → MM → Nat → Prop} {kd w : Int} (hk : 0 ≤ kd ∧ kd ≤ 5) (hw : 0 ≤ w ∧ w ≤ 5) (hQ : ∀ v : Int, ((v = 1 ∧ (w = 0 ∨ kd = w ∨ (w = 1 ∧ kd = 3) ∨ (w = 2 ∧ kd = 5))) ∨ (v = 0 ∧ ¬ (w = 0 ∨ kd = w ∨ (w = 1 ∧ kd = 3) ∨ (w = 2 ∧ kd = 5)))) → Q (vI v) T M sz) : Ct g (d + 1) mX6_isUnder [vI (kd), vI (w)] T M sz 0 0 Q := by
  rcases (show kd = 0 ∨ kd = 1 ∨ kd = 2 ∨ kd = 3 ∨ kd = 4 ∨ kd = 5 by omega) with rfl | rfl | rfl | rfl | rfl | rfl
  · exact c_X6_isUnder_0 hw hQ
  · exact c_X6_isUnder_1 hw hQ
  · exact c_X6_isUnder_2 hw hQ
  · exact c_X6_isUnder_3 hw hQ
  · exact c_X6_isUnder_4 hw hQ
  · exact c_X6_isUnder_5 hw hQ
set_option maxHeartbeats 4000000 in
theorem c_X7_isUnder {g : WG} {d : Nat} {T : TT} {M : MM} {sz : Nat} {Q : MVal → TT → MM → Nat → Prop} {kd w : Int} (hw : 0 ≤ w ∧ w ≤ 5) (hQ : ∀ v : Int, ((v = 1 ∧ (w = 0 ∨ kd = w ∨ (w = 1 ∧ kd = 3) ∨ (w = 2 ∧ kd = 5))) ∨ (v = 0 ∧ ¬ (w = 0 ∨ kd = w ∨ (w = 1 ∧ kd = 3) ∨ (w = 2 ∧ kd = 5)))) → Q (vI v) T M sz) : Ct g (d + 1) mX7_isUnder [vI (kd), vI (w)] T M sz 0 0 Q := by
  refine Ct_of2 (ls := [vI (kd), vI (w)]) okX7_isUnder rfl (Nat.le_of_ble_eq_true rfl) rfl ?_
  intro x hx hr hnm
  refine J_iload_n hx dX7_isUnder_0 (i := 1) rfl rfl ?_
  refine J_if_eq (tgt := 29) hx dX7_isUnder_1 (by decide) (fun c1 => ?_) (fun c1 => ?_)
  · refine J_iconst (v := 1) hx dX7_isUnder_29 (by decide) ?_
    refine J_goto (tgt := 34) hx dX7_isUnder_30 (by decide) ?_
    refine J_zret hx hr dX7_isUnder_34 (by omega) ?_
    exact hQ _ (by omega)
  · refine J_iload_n hx dX7_isUnder_4 (i := 0) rfl rfl ?_
    refine J_iload_n hx dX7_isUnder_5 (i := 1) rfl rfl ?_
    refine J_icmp_eq (tgt := 29) hx dX7_isUnder_6 (by decide) (fun c2 => ?_) (fun c2 => ?_)
    · refine J_iconst (v := 1) hx dX7_isUnder_29 (by decide) ?_
      refine J_goto (tgt := 34) hx dX7_isUnder_30 (by decide) ?_
      refine J_zret hx hr dX7_isUnder_34 (by omega) ?_
      exact hQ _ (by omega)
    · refine J_iload_n hx dX7_isUnder_9 (i := 1) rfl rfl ?_
      refine J_iconst (v := 1) hx dX7_isUnder_10 (by decide) ?_
      refine J_icmp_ne (tgt := 19) hx dX7_isUnder_11 (by decide) (fun c3 => ?_) (fun c3 => ?_)
      · refine J_iload_n hx dX7_isUnder_19 (i := 1) rfl rfl ?_
        refine J_iconst (v := 2) hx dX7_isUnder_20 (by decide) ?_
        refine J_icmp_ne (tgt := 33) hx dX7_isUnder_21 (by decide) (fun c4 => ?_) (fun c4 => ?_)
        · refine J_iconst (v := 0) hx dX7_isUnder_33 (by decide) ?_
          refine J_zret hx hr dX7_isUnder_34 (by omega) ?_
          exact hQ _ (by omega)
        · refine J_iload_n hx dX7_isUnder_24 (i := 0) rfl rfl ?_
          refine J_iconst (v := 5) hx dX7_isUnder_25 (by decide) ?_
          refine J_icmp_ne (tgt := 33) hx dX7_isUnder_26 (by decide) (fun c5 => ?_) (fun c5 => ?_)
          · refine J_iconst (v := 0) hx dX7_isUnder_33 (by decide) ?_
            refine J_zret hx hr dX7_isUnder_34 (by omega) ?_
            exact hQ _ (by omega)
          · refine J_iconst (v := 1) hx dX7_isUnder_29 (by decide) ?_
            refine J_goto (tgt := 34) hx dX7_isUnder_30 (by decide) ?_
            refine J_zret hx hr dX7_isUnder_34 (by omega) ?_
            exact hQ _ (by omega)
      · refine J_iload_n hx dX7_isUnder_14 (i := 0) rfl rfl ?_
        refine J_iconst (v := 3) hx dX7_isUnder_15 (by decide) ?_
        refine J_icmp_eq (tgt := 29) hx dX7_isUnder_16 (by decide) (fun c6 => ?_) (fun c6 => ?_)
        · refine J_iconst (v := 1) hx dX7_isUnder_29 (by decide) ?_
          refine J_goto (tgt := 34) hx dX7_isUnder_30 (by decide) ?_
          refine J_zret hx hr dX7_isUnder_34 (by omega) ?_
          exact hQ _ (by omega)
        · refine J_iload_n hx dX7_isUnder_19 (i := 1) rfl rfl ?_
          refine J_iconst (v := 2) hx dX7_isUnder_20 (by decide) ?_
          refine J_icmp_ne (tgt := 33) hx dX7_isUnder_21 (by decide) (fun c7 => ?_) (fun c7 => ?_)
          · refine J_iconst (v := 0) hx dX7_isUnder_33 (by decide) ?_
            refine J_zret hx hr dX7_isUnder_34 (by omega) ?_
            exact hQ _ (by omega)
          · refine J_iload_n hx dX7_isUnder_24 (i := 0) rfl rfl ?_
            refine J_iconst (v := 5) hx dX7_isUnder_25 (by decide) ?_
            refine J_icmp_ne (tgt := 33) hx dX7_isUnder_26 (by decide) (fun c8 => ?_) (fun c8 => ?_)
            · refine J_iconst (v := 0) hx dX7_isUnder_33 (by decide) ?_
              refine J_zret hx hr dX7_isUnder_34 (by omega) ?_
              exact hQ _ (by omega)
            · refine J_iconst (v := 1) hx dX7_isUnder_29 (by decide) ?_
              refine J_goto (tgt := 34) hx dX7_isUnder_30 (by decide) ?_
              refine J_zret hx hr dX7_isUnder_34 (by omega) ?_
              exact hQ _ (by omega)

set_option maxHeartbeats 4000000 in
theorem c_X6_says {g : WG} {d : Nat} {T : TT} {M : MM} {o sz : Nat} {S : ST} {Q : MVal → TT → MM → Nat → Prop} (hC : CT T o) (hN : CN M o S) (hW : WFS S) {s w : Int} (h_s : -2147483648 ≤ s ∧ s ≤ 2147483647) (h_w : -2147483648 ≤ w ∧ w ≤ 2147483647) (hQ : CQ o T M sz Q (a_says S s w)) : Ct g (d + 2) mX6_says [vR (o), vI (s), vI (w)] T M sz 0 0 Q := by
  refine Ct_of2 (ls := [vR (o), vI (s), vI (w), vU]) okX6_says rfl (Nat.le_of_ble_eq_true rfl) rfl ?_
  intro x hx hr hnm
  have hn8 := hW.y.n8
  refine J_iload_n hx dX6_says_0 (i := 1) rfl rfl ?_
  refine J_invS (As := [vI (s)]) (st := []) hx lk_X6_63 okX6_isShelf dX6_says_1 rfl rfl (Nat.le_of_ble_eq_true rfl) (Nat.zero_add _).symm (Nat.zero_add _).symm rfl (c_X6_isShelf (a := s) ?_)
  intro v1 hv1
  refine J_if_eq (tgt := 17) hx dX6_says_4 (by decide) (fun c2 => ?_) (fun c2 => ?_)
  · refine J_aload_n hx dX6_says_17 (i := 0) rfl rfl ?_
    refine J_bipush (v := -2) hx dX6_says_18 (by decide) ?_
    refine J_invV (As := [vI ((-2))]) (st := []) hx lk_X6_67 okX6_refuse dX6_says_20 hC.o (by decide) rfl rfl rfl (Nat.le_of_ble_eq_true rfl) (Nat.zero_add _).symm (Nat.zero_add _).symm rfl (c_X6_refuse hC hN hW (k := 0) (by decide) ?_)
    intro M1 hN1 hf1
    refine J_iret hx hr dX6_says_23 ?_
    exact hQ.to (v := -((0 + 2 : Nat) : Int)) (S := rfS S 0) (by
      unfold a_says
      (try simp only [Int.toNat_natCast] at *)
      (try simp only [ep2] at *)
      ((repeat' split) <;> first | rfl | (exfalso; omega) | (congr 1; omega))) hC hN1 hf1
  · refine J_iload_n hx dX6_says_7 (i := 2) rfl rfl ?_
    refine J_if_lt (tgt := 17) hx dX6_says_8 (by decide) (fun c3 => ?_) (fun c3 => ?_)
    · refine J_aload_n hx dX6_says_17 (i := 0) rfl rfl ?_
      refine J_bipush (v := -2) hx dX6_says_18 (by decide) ?_
      refine J_invV (As := [vI ((-2))]) (st := []) hx lk_X6_67 okX6_refuse dX6_says_20 hC.o (by decide) rfl rfl rfl (Nat.le_of_ble_eq_true rfl) (Nat.zero_add _).symm (Nat.zero_add _).symm rfl (c_X6_refuse hC hN hW (k := 0) (by decide) ?_)
      intro M1 hN1 hf1
      refine J_iret hx hr dX6_says_23 ?_
      exact hQ.to (v := -((0 + 2 : Nat) : Int)) (S := rfS S 0) (by
        unfold a_says
        (try simp only [Int.toNat_natCast] at *)
        (try simp only [ep2] at *)
        ((repeat' split) <;> first | rfl | (exfalso; omega) | (congr 1; omega))) hC hN1 hf1
    · refine J_iload_n hx dX6_says_11 (i := 2) rfl rfl ?_
      refine J_bipush (v := 6) hx dX6_says_12 (by decide) ?_
      refine J_icmp_lt (tgt := 24) hx dX6_says_14 (by decide) (fun c4 => ?_) (fun c4 => ?_)
      · obtain ⟨sN, rfl⟩ : ∃ z : Nat, s = ((z : Nat) : Int) := ⟨s.toNat, by omega⟩
        refine J_aload_n hx dX6_says_24 (i := 0) rfl rfl ?_
        refine J_getR (b := o + 65) hx fl_X6_54 cl_X6 dX6_says_25 hC.o (by decide) rfl hC.r7 ?_
        refine J_iload_n hx dX6_says_28 (i := 1) rfl rfl ?_
        refine J_aald (b := o + 67 + 2 * sN) hx sN dX6_says_29 hC.k65 (by decide) (by omega) (by rw [hC.n65]; omega) (hC.sre (by omega)) ?_
        refine J_getI2 (v := (S.sh sN).1) hx fl_X6_87 cl_X3 dX6_says_30 (hC.skd (by omega)) (by decide) rfl (hN.hd (by omega)) ?_
        have rg5 := hW.h (s := sN) (by omega)
        refine J_iconst (v := -1) hx dX6_says_33 (by decide) ?_
        refine J_icmp_ne (tgt := 44) hx dX6_says_34 (by decide) (fun c6 => ?_) (fun c6 => ?_)
        · refine J_aload_n hx dX6_says_44 (i := 0) rfl rfl ?_
          refine J_getR (b := o + 65) hx fl_X6_54 cl_X6 dX6_says_45 hC.o (by decide) rfl hC.r7 ?_
          refine J_iload_n hx dX6_says_48 (i := 1) rfl rfl ?_
          refine J_aald (b := o + 67 + 2 * sN) hx sN dX6_says_49 hC.k65 (by decide) (by omega) (by rw [hC.n65]; omega) (hC.sre (by omega)) ?_
          refine J_getI2 (v := (S.sh sN).1) hx fl_X6_87 cl_X3 dX6_says_50 (hC.skd (by omega)) (by decide) rfl (hN.hd (by omega)) ?_
          have rg7 := hW.h (s := sN) (by omega)
          refine J_bipush (v := 10) hx dX6_says_53 (by decide) ?_
          refine J_isub (v := (S.sh sN).1 - 10) hx dX6_says_55 (w32_id (by omega) (by omega)) ?_
          refine J_istore_n (lsn := [vR (o), vI (((sN : Nat) : Int)), vI (w), vI ((S.sh sN).1 - 10)]) hx dX6_says_56 (i := 3) rfl (Nat.le_of_ble_eq_true rfl) rfl rfl ?_
          refine J_aload_n hx dX6_says_57 (i := 0) rfl rfl ?_
          refine J_getR (b := o + 1) hx fl_X6_10 cl_X6 dX6_says_58 hC.o (by decide) rfl hC.r0 ?_
          refine J_iload_n hx dX6_says_61 (i := 3) rfl rfl ?_
          refine J_invV (As := [vI ((S.sh sN).1 - 10)]) (st := []) hx lk_X6_111 okX5_has dX6_says_62 hC.y0.o (by decide) rfl rfl rfl (Nat.le_of_ble_eq_true rfl) (Nat.zero_add _).symm (Nat.zero_add _).symm rfl (c_X5_has hC.y0 hN.y hW.y (one := (S.sh sN).1 - 10) ?_)
          intro v8 hv8
          refine J_if_eq (tgt := 84) hx dX6_says_65 (by decide) (fun c9 => ?_) (fun c9 => ?_)
          · refine J_aload_n hx dX6_says_84 (i := 0) rfl rfl ?_
            refine J_bipush (v := -3) hx dX6_says_85 (by decide) ?_
            refine J_invV (As := [vI ((-3))]) (st := []) hx lk_X6_67 okX6_refuse dX6_says_87 hC.o (by decide) rfl rfl rfl (Nat.le_of_ble_eq_true rfl) (Nat.zero_add _).symm (Nat.zero_add _).symm rfl (c_X6_refuse hC hN hW (k := 1) (by decide) ?_)
            intro M1 hN1 hf1
            refine J_iret hx hr dX6_says_90 ?_
            exact hQ.to (v := -((1 + 2 : Nat) : Int)) (S := rfS S 1) (by
              unfold a_says
              (try simp only [Int.toNat_natCast] at *)
              (try simp only [ep2] at *)
              ((repeat' split) <;> first | rfl | (exfalso; omega) | (congr 1; omega))) hC hN1 hf1
          · obtain ⟨pN, ep⟩ : ∃ z : Nat, (S.sh sN).1 - 10 = ((z : Nat) : Int) := ⟨((S.sh sN).1 - 10).toNat, by omega⟩
            have ep2 : ((S.sh sN).1 - 10).toNat = pN := by omega
            rw [ep]
            refine J_aload_n hx dX6_says_68 (i := 0) rfl rfl ?_
            refine J_getR (b := o + 1) hx fl_X6_10 cl_X6 dX6_says_69 hC.o (by decide) rfl hC.r0 ?_
            refine J_getR (b := o + 1 + 1) hx fl_X6_114 cl_X5 dX6_says_72 hC.y0.o (by decide) rfl hC.y0.r0 ?_
            refine J_iload_n hx dX6_says_75 (i := 3) rfl rfl ?_
            refine J_iald2 (v := S.1.att 0 pN) hx pN dX6_says_76 hC.y0.k1 (by omega) (hC.y0.l1 (by omega)) (hN.y.kd (by omega)) ?_
            have rg10 := hW.y.kd (p := pN) (by omega)
            refine J_iload_n hx dX6_says_77 (i := 2) rfl rfl ?_
            refine J_invS (As := [vI (S.1.att 0 pN), vI (w)]) (st := []) hx lk_X6_117 okX6_isUnder dX6_says_78 rfl rfl (Nat.le_of_ble_eq_true rfl) (Nat.zero_add _).symm (Nat.zero_add _).symm rfl (c_X6_isUnder (kd := S.1.att 0 pN) (w := w) (by omega) (by omega) ?_)
            intro vu hvu
            refine J_if_ne (tgt := 91) hx dX6_says_81 (by decide) (fun c11 => ?_) (fun c11 => ?_)
            · refine J_iload_n hx dX6_says_91 (i := 2) rfl rfl ?_
              by_cases t12_0 : w = 0
              · refine J_tswIn (tgt := 124) (off := 32) hx dX6_says_92 (by omega) (by omega) (by rw [t12_0]; rfl) (by decide) ?_
                refine J_aload_n hx dX6_says_124 (i := 0) rfl rfl ?_
                refine J_getR (b := o + 1) hx fl_X6_10 cl_X6 dX6_says_125 hC.o (by decide) rfl hC.r0 ?_
                refine J_getR (b := o + 1 + 6) hx fl_X6_120 cl_X5 dX6_says_128 hC.y0.o (by decide) rfl hC.y0.r5 ?_
                refine J_iload_n hx dX6_says_131 (i := 3) rfl rfl ?_
                refine J_iald2 (v := ((S.1.co pN : Nat) : Int)) hx pN dX6_says_132 hC.y0.k6 (by omega) (hC.y0.l6 (by omega)) (hN.y.hm (by omega)) ?_
                have rg13 := S.1.co2 pN
                refine J_iret hx hr dX6_says_133 ?_
                exact hQ.same (v := ((S.1.co pN : Nat) : Int)) (S := S) (by
                  unfold a_says
                  (try simp only [Int.toNat_natCast] at *)
                  (try simp only [ep2] at *)
                  ((repeat' split) <;> first | rfl | (exfalso; omega) | (congr 1; omega))) hC hN
              by_cases t12_1 : w = 1
              · refine J_tswIn (tgt := 134) (off := 42) hx dX6_says_92 (by omega) (by omega) (by rw [t12_1]; rfl) (by decide) ?_
                refine J_aload_n hx dX6_says_134 (i := 0) rfl rfl ?_
                refine J_getR (b := o + 1) hx fl_X6_10 cl_X6 dX6_says_135 hC.o (by decide) rfl hC.r0 ?_
                refine J_iload_n hx dX6_says_138 (i := 3) rfl rfl ?_
                refine J_iconst (v := -1) hx dX6_says_139 (by decide) ?_
                refine J_invV (As := [vI (((pN : Nat) : Int)), vI ((-1))]) (st := []) hx lk_X6_123 okX5_holdOf dX6_says_140 hC.y0.o (by decide) rfl rfl rfl (Nat.le_of_ble_eq_true rfl) (Nat.zero_add _).symm (Nat.zero_add _).symm rfl (c_X5_holdOf hC.y0 hN.y hW.y (p := pN) (by omega) (b := (-1)) (by omega) ?_)
                have rg14 := hold_rg hW.y (p := pN) (by omega) (-1)
                refine J_iret hx hr dX6_says_143 ?_
                exact hQ.same (v := hold S.1 pN (-1)) (S := S) (by
                  unfold a_says
                  (try simp only [Int.toNat_natCast] at *)
                  (try simp only [ep2] at *)
                  ((repeat' split) <;> first | rfl | (exfalso; omega) | (congr 1; omega))) hC hN
              by_cases t12_2 : w = 2
              · refine J_tswIn (tgt := 134) (off := 42) hx dX6_says_92 (by omega) (by omega) (by rw [t12_2]; rfl) (by decide) ?_
                refine J_aload_n hx dX6_says_134 (i := 0) rfl rfl ?_
                refine J_getR (b := o + 1) hx fl_X6_10 cl_X6 dX6_says_135 hC.o (by decide) rfl hC.r0 ?_
                refine J_iload_n hx dX6_says_138 (i := 3) rfl rfl ?_
                refine J_iconst (v := -1) hx dX6_says_139 (by decide) ?_
                refine J_invV (As := [vI (((pN : Nat) : Int)), vI ((-1))]) (st := []) hx lk_X6_123 okX5_holdOf dX6_says_140 hC.y0.o (by decide) rfl rfl rfl (Nat.le_of_ble_eq_true rfl) (Nat.zero_add _).symm (Nat.zero_add _).symm rfl (c_X5_holdOf hC.y0 hN.y hW.y (p := pN) (by omega) (b := (-1)) (by omega) ?_)
                have rg15 := hold_rg hW.y (p := pN) (by omega) (-1)
                refine J_iret hx hr dX6_says_143 ?_
                exact hQ.same (v := hold S.1 pN (-1)) (S := S) (by
                  unfold a_says
                  (try simp only [Int.toNat_natCast] at *)
                  (try simp only [ep2] at *)
                  ((repeat' split) <;> first | rfl | (exfalso; omega) | (congr 1; omega))) hC hN
              by_cases t12_3 : w = 3
              · refine J_tswIn (tgt := 144) (off := 52) hx dX6_says_92 (by omega) (by omega) (by rw [t12_3]; rfl) (by decide) ?_
                refine J_aload_n hx dX6_says_144 (i := 0) rfl rfl ?_
                refine J_getR (b := o + 1) hx fl_X6_10 cl_X6 dX6_says_145 hC.o (by decide) rfl hC.r0 ?_
                refine J_aload_n hx dX6_says_148 (i := 0) rfl rfl ?_
                refine J_getR (b := o + 1) hx fl_X6_10 cl_X6 dX6_says_149 hC.o (by decide) rfl hC.r0 ?_
                refine J_getR (b := o + 1 + 6) hx fl_X6_120 cl_X5 dX6_says_152 hC.y0.o (by decide) rfl hC.y0.r5 ?_
                refine J_iload_n hx dX6_says_155 (i := 3) rfl rfl ?_
                refine J_iald2 (v := ((S.1.co pN : Nat) : Int)) hx pN dX6_says_156 hC.y0.k6 (by omega) (hC.y0.l6 (by omega)) (hN.y.hm (by omega)) ?_
                have rg16 := S.1.co2 pN
                refine J_invV (As := [vI (((S.1.co pN : Nat) : Int))]) (st := []) hx lk_X6_126 okX5_sistersIn dX6_says_157 hC.y0.o (by decide) rfl rfl rfl (Nat.le_of_ble_eq_true rfl) (Nat.zero_add _).symm (Nat.zero_add _).symm rfl (c_X5_sistersIn hC.y0 hN.y hW.y (c := (S.1.co pN)) (by omega) ?_)
                have rg17 := (show sisY S.1 (S.1.ch (S.1.co pN)) ≤ (S.1.ch (S.1.co pN)).length from cntF_le _ _)
                have rg18 := S.1.co2 pN
                have rg19 := hW.y.len8 (c := (S.1.co pN)) (by omega)
                refine J_iconst (v := 1) hx dX6_says_160 (by decide) ?_
                refine J_isub (v := ((sisY S.1 (S.1.ch (S.1.co pN)) : Nat) : Int) - 1) hx dX6_says_161 (w32_id (by omega) (by omega)) ?_
                refine J_iret hx hr dX6_says_162 ?_
                exact hQ.same (v := ((sisY S.1 (S.1.ch (S.1.co pN)) : Nat) : Int) - 1) (S := S) (by
                  unfold a_says
                  (try simp only [Int.toNat_natCast] at *)
                  (try simp only [ep2] at *)
                  ((repeat' split) <;> first | rfl | (exfalso; omega) | (congr 1; omega))) hC hN
              refine J_tswOut (tgt := 163) hx dX6_says_92 (by omega) (by decide) ?_
              refine J_aload_n hx dX6_says_163 (i := 0) rfl rfl ?_
              refine J_getR (b := o + 1) hx fl_X6_10 cl_X6 dX6_says_164 hC.o (by decide) rfl hC.r0 ?_
              refine J_iload_n hx dX6_says_167 (i := 3) rfl rfl ?_
              refine J_invV (As := [vI (((pN : Nat) : Int))]) (st := []) hx lk_X6_129 okX5_forceOf dX6_says_168 hC.y0.o (by decide) rfl rfl rfl (Nat.le_of_ble_eq_true rfl) (Nat.zero_add _).symm (Nat.zero_add _).symm rfl (c_X5_forceOf hC.y0 hN.y hW.y (p := pN) (by omega) ?_)
              have rg20 := force_rg hW.y (p := pN) (by omega)
              refine J_iret hx hr dX6_says_171 ?_
              exact hQ.same (v := force S.1 pN) (S := S) (by
                unfold a_says
                (try simp only [Int.toNat_natCast] at *)
                (try simp only [ep2] at *)
                ((repeat' split) <;> first | rfl | (exfalso; omega) | (congr 1; omega))) hC hN
            · refine J_aload_n hx dX6_says_84 (i := 0) rfl rfl ?_
              refine J_bipush (v := -3) hx dX6_says_85 (by decide) ?_
              refine J_invV (As := [vI ((-3))]) (st := []) hx lk_X6_67 okX6_refuse dX6_says_87 hC.o (by decide) rfl rfl rfl (Nat.le_of_ble_eq_true rfl) (Nat.zero_add _).symm (Nat.zero_add _).symm rfl (c_X6_refuse hC hN hW (k := 1) (by decide) ?_)
              intro M1 hN1 hf1
              refine J_iret hx hr dX6_says_90 ?_
              exact hQ.to (v := -((1 + 2 : Nat) : Int)) (S := rfS S 1) (by
                unfold a_says
                (try simp only [Int.toNat_natCast] at *)
                (try simp only [ep2] at *)
                ((repeat' split) <;> first | rfl | (exfalso; omega) | (congr 1; omega))) hC hN1 hf1
        · refine J_aload_n hx dX6_says_37 (i := 0) rfl rfl ?_
          refine J_bipush (v := -4) hx dX6_says_38 (by decide) ?_
          refine J_invV (As := [vI ((-4))]) (st := []) hx lk_X6_67 okX6_refuse dX6_says_40 hC.o (by decide) rfl rfl rfl (Nat.le_of_ble_eq_true rfl) (Nat.zero_add _).symm (Nat.zero_add _).symm rfl (c_X6_refuse hC hN hW (k := 2) (by decide) ?_)
          intro M1 hN1 hf1
          refine J_iret hx hr dX6_says_43 ?_
          exact hQ.to (v := -((2 + 2 : Nat) : Int)) (S := rfS S 2) (by
            unfold a_says
            (try simp only [Int.toNat_natCast] at *)
            (try simp only [ep2] at *)
            ((repeat' split) <;> first | rfl | (exfalso; omega) | (congr 1; omega))) hC hN1 hf1
      · refine J_aload_n hx dX6_says_17 (i := 0) rfl rfl ?_
        refine J_bipush (v := -2) hx dX6_says_18 (by decide) ?_
        refine J_invV (As := [vI ((-2))]) (st := []) hx lk_X6_67 okX6_refuse dX6_says_20 hC.o (by decide) rfl rfl rfl (Nat.le_of_ble_eq_true rfl) (Nat.zero_add _).symm (Nat.zero_add _).symm rfl (c_X6_refuse hC hN hW (k := 0) (by decide) ?_)
        intro M1 hN1 hf1
        refine J_iret hx hr dX6_says_23 ?_
        exact hQ.to (v := -((0 + 2 : Nat) : Int)) (S := rfS S 0) (by
          unfold a_says
          (try simp only [Int.toNat_natCast] at *)
          (try simp only [ep2] at *)
          ((repeat' split) <;> first | rfl | (exfalso; omega) | (congr 1; omega))) hC hN1 hf1

set_option maxHeartbeats 4000000 in
theorem lp_X7_says {g : WG} {d : Nat} {T : TT} {M : MM} {r sz : Nat} {A : YA} {Q : MVal → TT → MM → Nat → Prop} (hT : MT T r) (hN : MN M r A) (hW : WFY A) {x : CX} (hx : OKx g x RX7 cX7_says (d + 3)) (hr : RTx g x (some .int) Q) {s w : Int} {p : Nat} (hp : p < A.n) (hQ : Q (vI ((sisX A (A.ch (A.co p)) p (A.ch (A.co p)).length : Nat) : Int)) T M sz) (k f : Nat) (hk : k ≤ (A.ch (A.co p)).length) (hf : f = sisX A (A.ch (A.co p)) p k) : Jd g x 153 [vR (r), vI (s), vI (w), vI (((p : Nat) : Int)), vI (((A.co p : Nat) : Int)), vI (((f : Nat) : Int)), vI (((k : Nat) : Int))] [] T M sz 0 0 := by
  have hn8 := hW.n8
  have hc2 := A.co2 p
  have hl8 := hW.len8 hc2
  have hf8 : f ≤ k := by rw [hf]; exact cntF_le _ _
  refine J_iload hx dX7_says_153 rfl ?_
  refine J_aload_n hx dX7_says_155 (i := 0) rfl rfl ?_
  refine J_getR (b := r + 25) hx fl_X7_57 cl_X7 dX7_says_156 hT.o (by decide) rfl hT.r16 ?_
  refine J_iload hx dX7_says_159 rfl ?_
  refine J_iald2 (v := (((A.ch (A.co p)).length : Nat) : Int)) hx (A.co p) dX7_says_161 hT.k25 (by omega) (hT.l25 (by omega)) (hN.sz (by omega)) ?_
  have rg1 := hW.len8 (c := A.co p) (by omega)
  have rg2 := hW.lenN (c := A.co p) (by omega)
  refine J_icmp_ge (tgt := 214) hx dX7_says_162 (by decide) (fun c3 => ?_) (fun c3 => ?_)
  · refine J_iload hx dX7_says_214 rfl ?_
    refine J_iret hx hr dX7_says_216 ?_
    have ek : k = (A.ch (A.co p)).length := by omega
    subst ek
    exact Qv hQ (by rw [hf])
  · refine J_iload hx dX7_says_165 rfl ?_
    refine J_aload_n hx dX7_says_167 (i := 0) rfl rfl ?_
    refine J_getR (b := r + 17) hx fl_X7_37 cl_X7 dX7_says_168 hT.o (by decide) rfl hT.r10 ?_
    refine J_aload_n hx dX7_says_171 (i := 0) rfl rfl ?_
    refine J_getR (b := r + 22) hx fl_X7_54 cl_X7 dX7_says_172 hT.o (by decide) rfl hT.r15 ?_
    refine J_iload hx dX7_says_175 rfl ?_
    refine J_aald (b := r + 23 + (A.co p)) hx (A.co p) dX7_says_177 hT.k22 (by decide) (by omega) (hT.l22 (by omega)) (hT.f22 (by omega)) ?_
    refine J_iload hx dX7_says_178 rfl ?_
    refine J_iald2 (v := (((A.ch (A.co p)).getD k 0 : Nat) : Int)) hx k dX7_says_180 (hT.kl (by omega)) (by omega) (hT.ll (by omega) (by omega)) (hN.ln (by omega) (by omega)) ?_
    have rg4 := hW.at (c := A.co p) (k := k) (by omega) (by omega)
    refine J_iald2 (v := A.att 0 ((A.ch (A.co p)).getD k 0)) hx ((A.ch (A.co p)).getD k 0) dX7_says_181 hT.k17 (by omega) (hT.l17 (by omega)) (hN.kd (by omega)) ?_
    have rg5 := hW.kd (p := (A.ch (A.co p)).getD k 0) (by omega)
    refine J_iconst (v := 3) hx dX7_says_182 (by decide) ?_
    refine J_icmp_ne (tgt := 204) hx dX7_says_183 (by decide) (fun c6 => ?_) (fun c6 => ?_)
    · refine J_iconst (v := 0) hx dX7_says_204 (by decide) ?_
      refine J_iadd (v := ((f : Nat) : Int)) hx dX7_says_205 (by rw [w32_id (by omega) (by omega)]; omega) ?_
      refine J_istore (lsn := [vR (r), vI (s), vI (w), vI (((p : Nat) : Int)), vI (((A.co p : Nat) : Int)), vI (((f : Nat) : Int)), vI (((k : Nat) : Int))]) hx dX7_says_206 (Nat.le_of_ble_eq_true rfl) rfl rfl ?_
      refine J_iinc (v := ((k : Nat) : Int) + 1) (lsn := [vR (r), vI (s), vI (w), vI (((p : Nat) : Int)), vI (((A.co p : Nat) : Int)), vI (((f : Nat) : Int)), vI (((k : Nat) : Int) + 1)]) hx dX7_says_208 rfl (jinc1 (by omega) (by omega)) rfl rfl ?_
      refine J_goto (tgt := 153) hx dX7_says_211 (by decide) ?_
      exact lp_X7_says hT hN hW hx hr hp hQ (k + 1) f (by omega) (by rw [hf]; unfold sisX; exact (cntF_f (by simp only [decide_eq_true_eq, decide_eq_false_iff_not]; omega)).symm)
    · refine J_aload_n hx dX7_says_186 (i := 0) rfl rfl ?_
      refine J_getR (b := r + 22) hx fl_X7_54 cl_X7 dX7_says_187 hT.o (by decide) rfl hT.r15 ?_
      refine J_iload hx dX7_says_190 rfl ?_
      refine J_aald (b := r + 23 + (A.co p)) hx (A.co p) dX7_says_192 hT.k22 (by decide) (by omega) (hT.l22 (by omega)) (hT.f22 (by omega)) ?_
      refine J_iload hx dX7_says_193 rfl ?_
      refine J_iald2 (v := (((A.ch (A.co p)).getD k 0 : Nat) : Int)) hx k dX7_says_195 (hT.kl (by omega)) (by omega) (hT.ll (by omega) (by omega)) (hN.ln (by omega) (by omega)) ?_
      have rg7 := hW.at (c := A.co p) (k := k) (by omega) (by omega)
      refine J_iload_n hx dX7_says_196 (i := 3) rfl rfl ?_
      refine J_icmp_eq (tgt := 204) hx dX7_says_197 (by decide) (fun c8 => ?_) (fun c8 => ?_)
      · refine J_iconst (v := 0) hx dX7_says_204 (by decide) ?_
        refine J_iadd (v := ((f : Nat) : Int)) hx dX7_says_205 (by rw [w32_id (by omega) (by omega)]; omega) ?_
        refine J_istore (lsn := [vR (r), vI (s), vI (w), vI (((p : Nat) : Int)), vI (((A.co p : Nat) : Int)), vI (((f : Nat) : Int)), vI (((k : Nat) : Int))]) hx dX7_says_206 (Nat.le_of_ble_eq_true rfl) rfl rfl ?_
        refine J_iinc (v := ((k : Nat) : Int) + 1) (lsn := [vR (r), vI (s), vI (w), vI (((p : Nat) : Int)), vI (((A.co p : Nat) : Int)), vI (((f : Nat) : Int)), vI (((k : Nat) : Int) + 1)]) hx dX7_says_208 rfl (jinc1 (by omega) (by omega)) rfl rfl ?_
        refine J_goto (tgt := 153) hx dX7_says_211 (by decide) ?_
        exact lp_X7_says hT hN hW hx hr hp hQ (k + 1) f (by omega) (by rw [hf]; unfold sisX; exact (cntF_f (by simp only [decide_eq_true_eq, decide_eq_false_iff_not]; omega)).symm)
      · refine J_iconst (v := 1) hx dX7_says_200 (by decide) ?_
        refine J_goto (tgt := 205) hx dX7_says_201 (by decide) ?_
        refine J_iadd (v := ((f : Nat) : Int) + 1) hx dX7_says_205 (w32_id (by omega) (by omega)) ?_
        refine J_istore (lsn := [vR (r), vI (s), vI (w), vI (((p : Nat) : Int)), vI (((A.co p : Nat) : Int)), vI (((f : Nat) : Int) + 1), vI (((k : Nat) : Int))]) hx dX7_says_206 (Nat.le_of_ble_eq_true rfl) rfl rfl ?_
        refine J_iinc (v := ((k : Nat) : Int) + 1) (lsn := [vR (r), vI (s), vI (w), vI (((p : Nat) : Int)), vI (((A.co p : Nat) : Int)), vI (((f : Nat) : Int) + 1), vI (((k : Nat) : Int) + 1)]) hx dX7_says_208 rfl (jinc1 (by omega) (by omega)) rfl rfl ?_
        refine J_goto (tgt := 153) hx dX7_says_211 (by decide) ?_
        exact lp_X7_says hT hN hW hx hr hp hQ (k + 1) (f + 1) (by omega) (by rw [hf]; unfold sisX; exact (cntF_t (by simp only [decide_eq_true_eq, decide_eq_false_iff_not]; omega)).symm)
termination_by (A.ch (A.co p)).length - k
decreasing_by all_goals omega

set_option maxHeartbeats 4000000 in
theorem c_X7_says {g : WG} {d : Nat} {T : TT} {M : MM} {r sz : Nat} {S : ST} {Q : MVal → TT → MM → Nat → Prop} (hT : MT T r) (hN : RN M r S) (hW : WFS S) {s w : Int} (h_s : -2147483648 ≤ s ∧ s ≤ 2147483647) (h_w : -2147483648 ≤ w ∧ w ≤ 2147483647) (hQ : RQ r T M sz Q (a_says S s w)) : Ct g (d + 3) mX7_says [vR (r), vI (s), vI (w)] T M sz 0 0 Q := by
  refine Ct_of2 (ls := [vR (r), vI (s), vI (w), vU, vU, vU, vU]) okX7_says rfl (Nat.le_of_ble_eq_true rfl) rfl ?_
  intro x hx hr hnm
  have hn8 := hW.y.n8
  refine J_iload_n hx dX7_says_0 (i := 1) rfl rfl ?_
  refine J_i2l hx dX7_says_1 ?_
  refine J_lconst (v := 0) hx dX7_says_2 (by decide) ?_
  refine J_ldc2 (v := 7) hx ct_X7_93 dX7_says_3 (by decide) ?_
  refine J_invS (As := [vL (s), vL (0), vL (7)]) (st := []) hx lk_X7_85 okX7_in dX7_says_6 rfl rfl (Nat.le_of_ble_eq_true rfl) (Nat.zero_add _).symm (Nat.zero_add _).symm rfl (c_X7_in (a := s) (lo := 0) (hi := 7) ?_)
  intro v1 hv1
  refine J_if_eq (tgt := 24) hx dX7_says_9 (by decide) (fun c2 => ?_) (fun c2 => ?_)
  · refine J_aload_n hx dX7_says_24 (i := 0) rfl rfl ?_
    refine J_bipush (v := -2) hx dX7_says_25 (by decide) ?_
    refine J_invV (As := [vI ((-2))]) (st := []) hx lk_X7_99 okX7_refuse dX7_says_27 hT.o (by decide) rfl rfl rfl (Nat.le_of_ble_eq_true rfl) (Nat.zero_add _).symm (Nat.zero_add _).symm rfl (c_X7_refuseS hT hN hW (k := 0) (by decide) ?_)
    intro M1 hN1 hf1
    refine J_iret hx hr dX7_says_30 ?_
    exact hQ.to (v := -((0 + 2 : Nat) : Int)) (S := rfS S 0) (by
      unfold a_says
      (try simp only [Int.toNat_natCast] at *)
      (try simp only [ep2] at *)
      ((repeat' split) <;> first | rfl | (exfalso; omega) | (exfalso; unfold shc at *; (repeat' split at *) <;> omega) | (congr 1; omega))) hN1 hf1
  · refine J_iload_n hx dX7_says_12 (i := 2) rfl rfl ?_
    refine J_i2l hx dX7_says_13 ?_
    refine J_lconst (v := 0) hx dX7_says_14 (by decide) ?_
    refine J_ldc2 (v := 5) hx ct_X7_113 dX7_says_15 (by decide) ?_
    refine J_invS (As := [vL (w), vL (0), vL (5)]) (st := []) hx lk_X7_85 okX7_in dX7_says_18 rfl rfl (Nat.le_of_ble_eq_true rfl) (Nat.zero_add _).symm (Nat.zero_add _).symm rfl (c_X7_in (a := w) (lo := 0) (hi := 5) ?_)
    intro v3 hv3
    refine J_if_ne (tgt := 31) hx dX7_says_21 (by decide) (fun c4 => ?_) (fun c4 => ?_)
    · obtain ⟨sN, rfl⟩ : ∃ z : Nat, s = ((z : Nat) : Int) := ⟨s.toNat, by omega⟩
      refine J_aload_n hx dX7_says_31 (i := 0) rfl rfl ?_
      refine J_getR (b := r + 1) hx fl_X7_7 cl_X7 dX7_says_32 hT.o (by decide) rfl hT.r0 ?_
      refine J_iload_n hx dX7_says_35 (i := 1) rfl rfl ?_
      refine J_iald2 (v := shc (S.sh sN).1) hx sN dX7_says_36 hT.k1 (by omega) (hT.l1 (by omega)) (hN.sc (by omega)) ?_
      have rg5 := hW.h (s := sN) (by omega)
      refine J_iconst (v := 1) hx dX7_says_37 (by decide) ?_
      refine J_icmp_eq (tgt := 69) hx dX7_says_38 (by decide) (fun c6 => ?_) (fun c6 => ?_)
      · refine J_aload_n hx dX7_says_69 (i := 0) rfl rfl ?_
        refine J_bipush (v := -3) hx dX7_says_70 (by decide) ?_
        refine J_invV (As := [vI ((-3))]) (st := []) hx lk_X7_99 okX7_refuse dX7_says_72 hT.o (by decide) rfl rfl rfl (Nat.le_of_ble_eq_true rfl) (Nat.zero_add _).symm (Nat.zero_add _).symm rfl (c_X7_refuseS hT hN hW (k := 1) (by decide) ?_)
        intro M1 hN1 hf1
        refine J_iret hx hr dX7_says_75 ?_
        exact hQ.to (v := -((1 + 2 : Nat) : Int)) (S := rfS S 1) (by
          unfold a_says
          (try simp only [Int.toNat_natCast] at *)
          (try simp only [ep2] at *)
          ((repeat' split) <;> first | rfl | (exfalso; omega) | (exfalso; unfold shc at *; (repeat' split at *) <;> omega) | (congr 1; omega))) hN1 hf1
      · refine J_aload_n hx dX7_says_41 (i := 0) rfl rfl ?_
        refine J_getR (b := r + 1) hx fl_X7_7 cl_X7 dX7_says_42 hT.o (by decide) rfl hT.r0 ?_
        refine J_iload_n hx dX7_says_45 (i := 1) rfl rfl ?_
        refine J_iald2 (v := shc (S.sh sN).1) hx sN dX7_says_46 hT.k1 (by omega) (hT.l1 (by omega)) (hN.sc (by omega)) ?_
        have rg7 := hW.h (s := sN) (by omega)
        refine J_iconst (v := 2) hx dX7_says_47 (by decide) ?_
        refine J_icmp_ne (tgt := 76) hx dX7_says_48 (by decide) (fun c8 => ?_) (fun c8 => ?_)
        · refine J_aload_n hx dX7_says_76 (i := 0) rfl rfl ?_
          refine J_getR (b := r + 1) hx fl_X7_7 cl_X7 dX7_says_77 hT.o (by decide) rfl hT.r0 ?_
          refine J_iload_n hx dX7_says_80 (i := 1) rfl rfl ?_
          refine J_iald2 (v := shc (S.sh sN).1) hx sN dX7_says_81 hT.k1 (by omega) (hT.l1 (by omega)) (hN.sc (by omega)) ?_
          have rg9 := hW.h (s := sN) (by omega)
          refine J_if_ne (tgt := 92) hx dX7_says_82 (by decide) (fun c10 => ?_) (fun c10 => ?_)
          · exfalso
            (try unfold shc at *); (repeat' split at *) <;> omega
          · refine J_aload_n hx dX7_says_85 (i := 0) rfl rfl ?_
            refine J_bipush (v := -4) hx dX7_says_86 (by decide) ?_
            refine J_invV (As := [vI ((-4))]) (st := []) hx lk_X7_99 okX7_refuse dX7_says_88 hT.o (by decide) rfl rfl rfl (Nat.le_of_ble_eq_true rfl) (Nat.zero_add _).symm (Nat.zero_add _).symm rfl (c_X7_refuseS hT hN hW (k := 2) (by decide) ?_)
            intro M1 hN1 hf1
            refine J_iret hx hr dX7_says_91 ?_
            exact hQ.to (v := -((2 + 2 : Nat) : Int)) (S := rfS S 2) (by
              unfold a_says
              (try simp only [Int.toNat_natCast] at *)
              (try simp only [ep2] at *)
              ((repeat' split) <;> first | rfl | (exfalso; omega) | (exfalso; unfold shc at *; (repeat' split at *) <;> omega) | (congr 1; omega))) hN1 hf1
        · have h10 : 10 ≤ (S.sh sN).1 := by (try unfold shc at *); (repeat' split at *) <;> omega
          obtain ⟨pN, ep⟩ : ∃ z : Nat, (S.sh sN).1 - 10 = ((z : Nat) : Int) := ⟨((S.sh sN).1 - 10).toNat, by omega⟩
          have ep2 : ((S.sh sN).1 - 10).toNat = pN := by omega
          have hpn : pN < S.1.n := by have := hW.h (s := sN) (by omega); omega
          refine J_aload_n hx dX7_says_51 (i := 0) rfl rfl ?_
          refine J_getR (b := r + 17) hx fl_X7_37 cl_X7 dX7_says_52 hT.o (by decide) rfl hT.r10 ?_
          refine J_aload_n hx dX7_says_55 (i := 0) rfl rfl ?_
          refine J_getR (b := r + 14) hx fl_X7_28 cl_X7 dX7_says_56 hT.o (by decide) rfl hT.r5 ?_
          refine J_iload_n hx dX7_says_59 (i := 1) rfl rfl ?_
          refine J_iald2 (v := ((pN : Nat) : Int)) hx sN dX7_says_60 hT.k14 (by omega) (hT.l14 (by omega)) (by rw [← ep]; exact hN.sp (by omega) h10) ?_
          refine J_iald2 (v := S.1.att 0 pN) hx pN dX7_says_61 hT.k17 (by omega) (hT.l17 (by omega)) (hN.y.kd (by omega)) ?_
          have rg11 := hW.y.kd (p := pN) (by omega)
          refine J_iload_n hx dX7_says_62 (i := 2) rfl rfl ?_
          refine J_invS (As := [vI (S.1.att 0 pN), vI (w)]) (st := []) hx lk_X7_115 okX7_isUnder dX7_says_63 rfl rfl (Nat.le_of_ble_eq_true rfl) (Nat.zero_add _).symm (Nat.zero_add _).symm rfl (c_X7_isUnder (kd := S.1.att 0 pN) (w := w) (by omega) ?_)
          intro vu hvu
          refine J_if_ne (tgt := 76) hx dX7_says_66 (by decide) (fun c12 => ?_) (fun c12 => ?_)
          · refine J_aload_n hx dX7_says_76 (i := 0) rfl rfl ?_
            refine J_getR (b := r + 1) hx fl_X7_7 cl_X7 dX7_says_77 hT.o (by decide) rfl hT.r0 ?_
            refine J_iload_n hx dX7_says_80 (i := 1) rfl rfl ?_
            refine J_iald2 (v := shc (S.sh sN).1) hx sN dX7_says_81 hT.k1 (by omega) (hT.l1 (by omega)) (hN.sc (by omega)) ?_
            have rg13 := hW.h (s := sN) (by omega)
            refine J_if_ne (tgt := 92) hx dX7_says_82 (by decide) (fun c14 => ?_) (fun c14 => ?_)
            · refine J_aload_n hx dX7_says_92 (i := 0) rfl rfl ?_
              refine J_getR (b := r + 14) hx fl_X7_28 cl_X7 dX7_says_93 hT.o (by decide) rfl hT.r5 ?_
              refine J_iload_n hx dX7_says_96 (i := 1) rfl rfl ?_
              refine J_iald2 (v := ((pN : Nat) : Int)) hx sN dX7_says_97 hT.k14 (by omega) (hT.l14 (by omega)) (by rw [← ep]; exact hN.sp (by omega) h10) ?_
              refine J_istore_n (lsn := [vR (r), vI (((sN : Nat) : Int)), vI (w), vI (((pN : Nat) : Int)), vU, vU, vU]) hx dX7_says_98 (i := 3) rfl (Nat.le_of_ble_eq_true rfl) rfl rfl ?_
              refine J_aload_n hx dX7_says_99 (i := 0) rfl rfl ?_
              refine J_iload_n hx dX7_says_100 (i := 3) rfl rfl ?_
              refine J_invV (As := [vI (((pN : Nat) : Int))]) (st := []) hx lk_X7_119 okX7_chainAt dX7_says_101 hT.o (by decide) rfl rfl rfl (Nat.le_of_ble_eq_true rfl) (Nat.zero_add _).symm (Nat.zero_add _).symm rfl (c_X7_chainAt hT hN.y hW.y (p := pN) (by omega) ?_)
              have rg15 := S.1.co2 pN
              refine J_istore (lsn := [vR (r), vI (((sN : Nat) : Int)), vI (w), vI (((pN : Nat) : Int)), vI (((S.1.co pN : Nat) : Int)), vU, vU]) hx dX7_says_104 (Nat.le_of_ble_eq_true rfl) rfl rfl ?_
              refine J_iconst (v := 0) hx dX7_says_106 (by decide) ?_
              refine J_istore (lsn := [vR (r), vI (((sN : Nat) : Int)), vI (w), vI (((pN : Nat) : Int)), vI (((S.1.co pN : Nat) : Int)), vI (0), vU]) hx dX7_says_107 (Nat.le_of_ble_eq_true rfl) rfl rfl ?_
              refine J_iload_n hx dX7_says_109 (i := 2) rfl rfl ?_
              by_cases t16_0 : w = 0
              · refine J_tswIn (tgt := 140) (off := 30) hx dX7_says_110 (by omega) (by omega) (by rw [t16_0]; rfl) (by decide) ?_
                refine J_iload hx dX7_says_140 rfl ?_
                refine J_iret hx hr dX7_says_142 ?_
                exact hQ.same (v := ((S.1.co pN : Nat) : Int)) (S := S) (by
                  unfold a_says
                  (try simp only [Int.toNat_natCast] at *)
                  (try simp only [ep2] at *)
                  ((repeat' split) <;> first | rfl | (exfalso; omega) | (exfalso; unfold shc at *; (repeat' split at *) <;> omega) | (congr 1; omega))) hN
              by_cases t16_1 : w = 1
              · refine J_tswIn (tgt := 143) (off := 33) hx dX7_says_110 (by omega) (by omega) (by rw [t16_1]; rfl) (by decide) ?_
                refine J_aload_n hx dX7_says_143 (i := 0) rfl rfl ?_
                refine J_iload_n hx dX7_says_144 (i := 3) rfl rfl ?_
                refine J_iconst (v := -1) hx dX7_says_145 (by decide) ?_
                refine J_invV (As := [vI (((pN : Nat) : Int)), vI ((-1))]) (st := []) hx lk_X7_122 okX7_hold dX7_says_146 hT.o (by decide) rfl rfl rfl (Nat.le_of_ble_eq_true rfl) (Nat.zero_add _).symm (Nat.zero_add _).symm rfl (c_X7_hold hT hN.y hW.y (p := pN) (by omega) (b := (-1)) (by omega) ?_)
                have rg17 := hold_rg hW.y (p := pN) (by omega) (-1)
                refine J_iret hx hr dX7_says_149 ?_
                exact hQ.same (v := hold S.1 pN (-1)) (S := S) (by
                  unfold a_says
                  (try simp only [Int.toNat_natCast] at *)
                  (try simp only [ep2] at *)
                  ((repeat' split) <;> first | rfl | (exfalso; omega) | (exfalso; unfold shc at *; (repeat' split at *) <;> omega) | (congr 1; omega))) hN
              by_cases t16_2 : w = 2
              · refine J_tswIn (tgt := 143) (off := 33) hx dX7_says_110 (by omega) (by omega) (by rw [t16_2]; rfl) (by decide) ?_
                refine J_aload_n hx dX7_says_143 (i := 0) rfl rfl ?_
                refine J_iload_n hx dX7_says_144 (i := 3) rfl rfl ?_
                refine J_iconst (v := -1) hx dX7_says_145 (by decide) ?_
                refine J_invV (As := [vI (((pN : Nat) : Int)), vI ((-1))]) (st := []) hx lk_X7_122 okX7_hold dX7_says_146 hT.o (by decide) rfl rfl rfl (Nat.le_of_ble_eq_true rfl) (Nat.zero_add _).symm (Nat.zero_add _).symm rfl (c_X7_hold hT hN.y hW.y (p := pN) (by omega) (b := (-1)) (by omega) ?_)
                have rg18 := hold_rg hW.y (p := pN) (by omega) (-1)
                refine J_iret hx hr dX7_says_149 ?_
                exact hQ.same (v := hold S.1 pN (-1)) (S := S) (by
                  unfold a_says
                  (try simp only [Int.toNat_natCast] at *)
                  (try simp only [ep2] at *)
                  ((repeat' split) <;> first | rfl | (exfalso; omega) | (exfalso; unfold shc at *; (repeat' split at *) <;> omega) | (congr 1; omega))) hN
              by_cases t16_3 : w = 3
              · refine J_tswIn (tgt := 150) (off := 40) hx dX7_says_110 (by omega) (by omega) (by rw [t16_3]; rfl) (by decide) ?_
                refine J_iconst (v := 0) hx dX7_says_150 (by decide) ?_
                refine J_istore (lsn := [vR (r), vI (((sN : Nat) : Int)), vI (w), vI (((pN : Nat) : Int)), vI (((S.1.co pN : Nat) : Int)), vI (0), vI (0)]) hx dX7_says_151 (Nat.le_of_ble_eq_true rfl) rfl rfl ?_
                exact lp_X7_says hT hN.y hW.y hx hr (p := pN) (by omega) (by rw [sisX_all hW.y (by omega) (by omega)]; exact hQ.same (v := _) (S := S) (by
                  unfold a_says
                  (try simp only [Int.toNat_natCast] at *)
                  (try simp only [ep2] at *)
                  ((repeat' split) <;> first | rfl | (exfalso; omega) | (exfalso; unfold shc at *; (repeat' split at *) <;> omega) | (congr 1; omega))) hN) 0 0 (by omega) rfl
              refine J_tswOut (tgt := 217) hx dX7_says_110 (by omega) (by decide) ?_
              refine J_aload_n hx dX7_says_217 (i := 0) rfl rfl ?_
              refine J_iload_n hx dX7_says_218 (i := 3) rfl rfl ?_
              refine J_invV (As := [vI (((pN : Nat) : Int))]) (st := []) hx lk_X7_126 okX7_force dX7_says_219 hT.o (by decide) rfl rfl rfl (Nat.le_of_ble_eq_true rfl) (Nat.zero_add _).symm (Nat.zero_add _).symm rfl (c_X7_force hT hN.y hW.y (p := pN) (by omega) ?_)
              have rg19 := force_rg hW.y (p := pN) (by omega)
              refine J_iret hx hr dX7_says_222 ?_
              exact hQ.same (v := force S.1 pN) (S := S) (by
                unfold a_says
                (try simp only [Int.toNat_natCast] at *)
                (try simp only [ep2] at *)
                ((repeat' split) <;> first | rfl | (exfalso; omega) | (exfalso; unfold shc at *; (repeat' split at *) <;> omega) | (congr 1; omega))) hN
            · refine J_aload_n hx dX7_says_85 (i := 0) rfl rfl ?_
              refine J_bipush (v := -4) hx dX7_says_86 (by decide) ?_
              refine J_invV (As := [vI ((-4))]) (st := []) hx lk_X7_99 okX7_refuse dX7_says_88 hT.o (by decide) rfl rfl rfl (Nat.le_of_ble_eq_true rfl) (Nat.zero_add _).symm (Nat.zero_add _).symm rfl (c_X7_refuseS hT hN hW (k := 2) (by decide) ?_)
              intro M1 hN1 hf1
              refine J_iret hx hr dX7_says_91 ?_
              exact hQ.to (v := -((2 + 2 : Nat) : Int)) (S := rfS S 2) (by
                unfold a_says
                (try simp only [Int.toNat_natCast] at *)
                (try simp only [ep2] at *)
                ((repeat' split) <;> first | rfl | (exfalso; omega) | (exfalso; unfold shc at *; (repeat' split at *) <;> omega) | (congr 1; omega))) hN1 hf1
          · refine J_aload_n hx dX7_says_69 (i := 0) rfl rfl ?_
            refine J_bipush (v := -3) hx dX7_says_70 (by decide) ?_
            refine J_invV (As := [vI ((-3))]) (st := []) hx lk_X7_99 okX7_refuse dX7_says_72 hT.o (by decide) rfl rfl rfl (Nat.le_of_ble_eq_true rfl) (Nat.zero_add _).symm (Nat.zero_add _).symm rfl (c_X7_refuseS hT hN hW (k := 1) (by decide) ?_)
            intro M1 hN1 hf1
            refine J_iret hx hr dX7_says_75 ?_
            exact hQ.to (v := -((1 + 2 : Nat) : Int)) (S := rfS S 1) (by
              unfold a_says
              (try simp only [Int.toNat_natCast] at *)
              (try simp only [ep2] at *)
              ((repeat' split) <;> first | rfl | (exfalso; omega) | (exfalso; unfold shc at *; (repeat' split at *) <;> omega) | (congr 1; omega))) hN1 hf1
    · refine J_aload_n hx dX7_says_24 (i := 0) rfl rfl ?_
      refine J_bipush (v := -2) hx dX7_says_25 (by decide) ?_
      refine J_invV (As := [vI ((-2))]) (st := []) hx lk_X7_99 okX7_refuse dX7_says_27 hT.o (by decide) rfl rfl rfl (Nat.le_of_ble_eq_true rfl) (Nat.zero_add _).symm (Nat.zero_add _).symm rfl (c_X7_refuseS hT hN hW (k := 0) (by decide) ?_)
      intro M1 hN1 hf1
      refine J_iret hx hr dX7_says_30 ?_
      exact hQ.to (v := -((0 + 2 : Nat) : Int)) (S := rfS S 0) (by
        unfold a_says
        (try simp only [Int.toNat_natCast] at *)
        (try simp only [ep2] at *)
        ((repeat' split) <;> first | rfl | (exfalso; omega) | (exfalso; unfold shc at *; (repeat' split at *) <;> omega) | (congr 1; omega))) hN1 hf1

