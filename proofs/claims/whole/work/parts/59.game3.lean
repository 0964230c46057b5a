def bc (x : Option Nat) : Nat := match x with
  | none => 29
  | some _ => 0
def bs (x : Option Nat) : Nat := match x with
  | none => 777
  | some _ => 0
theorem bc_le (x : Option Nat) : bc x ≤ 29 := by cases x <;> exact Nat.le_of_ble_eq_true rfl
theorem bs_le (x : Option Nat) : bs x ≤ 777 := by cases x <;> exact Nat.le_of_ble_eq_true rfl
theorem J_go1 {g : WG} {x : CX} {cc : ByteArray} {d pc : Nat} {ls st : List MVal} {T : TT} {M : MM} {sz r idx b : Nat} {S : ST} {dd : Option Nat} {B : YA} (hx : OKx g x RX7 cc (d + 5)) (hL : VLk RX7 idx mX7_gameOf) (hde : decode cc pc = .ok (.invokevirtual idx, 3)) (hw : (st.map vwd).sum ≤ 8) (hX : RXg T M r sz S b dd) (hN : MN M b B) (hWB : WFY B)
    (k : ∀ T' M' sz' dd', RXg T' M' r sz' S b dd' → (∀ q, q < r → T' q = T q ∧ M' q = M q) → Jd g x (pc + 3) ls (vI (gmV 1 B) :: st) T' M' sz' (bc dd') (bs dd')) : Jd g x pc ls (vI 1 :: vR b :: st) T M sz (bc dd) (bs dd) := by
  have hb := hX.b
  by_cases ho : overY B
  · exact J_invV (As := [vI 1]) (st := st) hx hL okX7_gameOf hde hb.1.o (by decide) rfl rfl rfl hw (Nat.zero_add _).symm (Nat.zero_add _).symm rfl (c_X7_gameOf_1o hb.1 hN hWB ho (k T M sz dd hX (fun q _ => ⟨rfl, rfl⟩)))
  · cases dd with
    | none =>
      refine J_invV (As := [vI 1]) (st := st) (mc := 29) (ms := 777) (nc' := 0) (ns' := 0) hx hL okX7_gameOf hde hb.1.o (by decide) rfl rfl rfl hw rfl rfl rfl (c_X7_gameOf_1n hb.1 hN hWB hb.2.2.2.2 hb.2.2.1 ho (fun T' M1 M' hB h8 h9 => ?_))
      refine k T' M' (sz + 29) (some sz) ((hB.deep2 hX).fr (fun q j h1 h2 h3 => h8 q j (h2 sz rfl) (by omega))) (fun q hq => ⟨(hB.lo2 (r := r) (by omega) (by omega) q hq).1, ?_⟩)
      rw [← (hB.lo2 (r := r) (by omega) (by omega) q hq).2]
      exact funext fun j => h8 q j (by omega) (by omega)
    | some c =>
      have hc := hX.c
      have hap := hc.2.2.2
      refine J_invV (As := [vI 1]) (st := st) hx hL okX7_gameOf hde hb.1.o (by decide) rfl rfl rfl hw (Nat.zero_add _).symm (Nat.zero_add _).symm rfl (c_X7_gameOf_1s hb.1 hN hWB hc.1 hb.2.2.2.2 hap ho (fun M' h8 h9 => ?_))
      exact k T M' sz (some c) (hX.fr (fun q j h1 h2 h3 => h8 q j (h2 c rfl) (by omega))) (fun q hq => ⟨rfl, funext fun j => h8 q j (by omega) (by omega)⟩)
set_option maxHeartbeats 4000000 in
theorem lp_X7_leastBy_2 {g : WG} {d r b : Nat} {S : ST} {Q : MVal → TT → MM → Nat → Prop} (hW : WFS S) {T0 : TT} {M0 : MM} {x : CX} (hx : OKx g x RX7 cX7_leastBy (d + 5)) (hr : RTx g x (some .int) Q) {p : Nat} (hp : p < S.1.n) (hc : S.1.co p ≠ S.1.tn) (ho : ¬ overY S.1) (hQ : ∀ T' M' sz' dd', RXg T' M' r sz' S b dd' → (∀ q, q < r → T' q = T0 q ∧ M' q = M0 q) → Q (vI (lbP (gmV 1) S.1 p)) T' M' sz') (j : Nat) (le an : Int) (u6 u7 u8 : MVal) (T1 : TT) (M1 : MM) (sz1 : Nat) (dd1 : Option Nat) (hX1 : RXg T1 M1 r sz1 S b dd1) (hlo : ∀ q, q < r → T1 q = T0 q ∧ M1 q = M0 q) (hj : j + 1 ≤ (S.1.ch S.1.tn).length) (hs : (j = 0 ∧ an = 0) ∨ (1 ≤ j ∧ an = 1 ∧ le = lbJ (jtV (gmV 1) S.1 p) j)) : Jd g x 8 [vR (r), vI (((p : Nat) : Int)), vI (2), vI (le), vI (an), vI (((j : Nat) : Int)), u6, u7, u8] [] T1 M1 sz1 (bc dd1) (bs dd1) := by
  have hn8 := hW.y.n8
  have ht2 := hW.y.tn2
  have hl8 := hW.y.len8 ht2
  have hnv := not_over2 hW.y ho
  have rgf := force_rg hW.y hp
  refine J_iload hx dX7_leastBy_8 rfl ?_
  refine J_aload_n hx dX7_leastBy_10 (i := 0) rfl rfl ?_
  refine J_getR (b := r + 25) hx fl_X7_57 cl_X7 dX7_leastBy_11 hX1.t.o (by decide) rfl hX1.t.r16 ?_
  refine J_aload_n hx dX7_leastBy_14 (i := 0) rfl rfl ?_
  refine J_getI2 (v := ((S.1.tn : Nat) : Int)) hx fl_X7_148 cl_X7 dX7_leastBy_15 hX1.t.o (by decide) rfl (hX1.n.y.tn hW.y) ?_
  have rg1 := hW.y.tn2
  refine J_iald2 (v := (((S.1.ch S.1.tn).length : Nat) : Int)) hx S.1.tn dX7_leastBy_18 hX1.t.k25 (by omega) (hX1.t.l25 (by omega)) (hX1.n.y.sz (by omega)) ?_
  have rg2 := hW.y.len8 (c := S.1.tn) (by omega)
  have rg3 := hW.y.lenN (c := S.1.tn) (by omega)
  refine J_iconst (v := 1) hx dX7_leastBy_19 (by decide) ?_
  refine J_isub (v := (((S.1.ch S.1.tn).length : Nat) : Int) - 1) hx dX7_leastBy_20 (w32_id (by omega) (by omega)) ?_
  refine J_icmp_ge (tgt := 165) hx dX7_leastBy_21 (by decide) (fun c4 => ?_) (fun c4 => ?_)
  · refine J_iload_n hx dX7_leastBy_165 (i := 3) rfl rfl ?_
    refine J_iret hx hr dX7_leastBy_166 ?_
    have ej : j = (S.1.ch S.1.tn).length - 1 := by omega
    have e9 : le = lbP (gmV 1) S.1 p := by unfold lbP; subst ej; omega
    subst e9
    exact hQ T1 M1 sz1 dd1 hX1 hlo
  · refine J_aload_n hx dX7_leastBy_24 (i := 0) rfl rfl ?_
    refine J_iload_n hx dX7_leastBy_25 (i := 1) rfl rfl ?_
    refine J_invV (As := [vI (((p : Nat) : Int))]) (st := []) hx lk_X7_126 okX7_force dX7_leastBy_26 hX1.t.o (by decide) rfl rfl rfl (Nat.le_of_ble_eq_true rfl) (Nat.zero_add _).symm (Nat.zero_add _).symm rfl (c_X7_force hX1.t hX1.n.y hW.y (p := p) (by omega) ?_)
    have rg5 := force_rg hW.y (p := p) (by omega)
    refine J_aload_n hx dX7_leastBy_29 (i := 0) rfl rfl ?_
    refine J_aload_n hx dX7_leastBy_30 (i := 0) rfl rfl ?_
    refine J_getR (b := r + 22) hx fl_X7_54 cl_X7 dX7_leastBy_31 hX1.t.o (by decide) rfl hX1.t.r15 ?_
    refine J_aload_n hx dX7_leastBy_34 (i := 0) rfl rfl ?_
    refine J_getI2 (v := ((S.1.tn : Nat) : Int)) hx fl_X7_148 cl_X7 dX7_leastBy_35 hX1.t.o (by decide) rfl (hX1.n.y.tn hW.y) ?_
    have rg6 := hW.y.tn2
    refine J_aald (b := r + 23 + S.1.tn) hx S.1.tn dX7_leastBy_38 hX1.t.k22 (by decide) (by omega) (hX1.t.l22 (by omega)) (hX1.t.f22 (by omega)) ?_
    refine J_aload_n hx dX7_leastBy_39 (i := 0) rfl rfl ?_
    refine J_getR (b := r + 25) hx fl_X7_57 cl_X7 dX7_leastBy_40 hX1.t.o (by decide) rfl hX1.t.r16 ?_
    refine J_aload_n hx dX7_leastBy_43 (i := 0) rfl rfl ?_
    refine J_getI2 (v := ((S.1.tn : Nat) : Int)) hx fl_X7_148 cl_X7 dX7_leastBy_44 hX1.t.o (by decide) rfl (hX1.n.y.tn hW.y) ?_
    have rg7 := hW.y.tn2
    refine J_iald2 (v := (((S.1.ch S.1.tn).length : Nat) : Int)) hx S.1.tn dX7_leastBy_47 hX1.t.k25 (by omega) (hX1.t.l25 (by omega)) (hX1.n.y.sz (by omega)) ?_
    have rg8 := hW.y.len8 (c := S.1.tn) (by omega)
    have rg9 := hW.y.lenN (c := S.1.tn) (by omega)
    refine J_iload hx dX7_leastBy_48 rfl ?_
    refine J_invV (As := [vR (r + 23 + S.1.tn), vI ((((S.1.ch S.1.tn).length : Nat) : Int)), vI (((j : Nat) : Int))]) (st := [vI (force S.1 p)]) hx lk_X7_266 okX7_strengthOf dX7_leastBy_50 hX1.t.o (by decide) rfl rfl rfl (Nat.le_of_ble_eq_true rfl) (Nat.zero_add _).symm (Nat.zero_add _).symm rfl (c_X7_strengthOf hX1.t hX1.n.y hW.y (l := S.1.ch S.1.tn) (q := r + 23 + S.1.tn) (hX1.t.kl (by omega)) (hX1.t.nl (by omega)) (fun k9 h9 => hX1.n.y.ln (by omega) h9) (fun p9 h9 => hW.y.lt (by omega) h9) (by omega) (j := j) (by omega) ?_)
    have rg10 := strl_rg hW.y (l := S.1.ch S.1.tn) (fun p9 h9 => hW.y.lt (by omega) h9) (j := j) (by omega)
    refine J_icmp_le (tgt := 60) hx dX7_leastBy_53 (by decide) (fun c11 => ?_) (fun c11 => ?_)
    · refine J_iconst (v := 0) hx dX7_leastBy_60 (by decide) ?_
      refine J_istore (lsn := [vR (r), vI (((p : Nat) : Int)), vI (2), vI (le), vI (an), vI (((j : Nat) : Int)), vI (0), u7, u8]) hx dX7_leastBy_61 (Nat.le_of_ble_eq_true rfl) rfl rfl ?_
      refine J_iconst (v := 0) hx dX7_leastBy_63 (by decide) ?_
      refine J_istore (lsn := [vR (r), vI (((p : Nat) : Int)), vI (2), vI (le), vI (an), vI (((j : Nat) : Int)), vI (0), vI (0), u8]) hx dX7_leastBy_64 (Nat.le_of_ble_eq_true rfl) rfl rfl ?_
      refine J_iload hx dX7_leastBy_66 rfl ?_
      refine J_iload hx dX7_leastBy_68 rfl ?_
      refine J_if_eq (tgt := 77) hx dX7_leastBy_70 (by decide) (fun _ => ?_) (fun c9 => absurd c9 (by decide))
      refine J_iconst (v := 1) hx dX7_leastBy_77 (by decide) ?_
      refine J_icmp_ge (tgt := 159) hx dX7_leastBy_78 (by decide) (fun c9 => absurd c9 (by decide)) (fun _ => ?_)
      refine J_aload_n hx dX7_leastBy_81 (i := 0) rfl rfl ?_
      refine J_getR (b := b) hx fl_X7_324 cl_X7 dX7_leastBy_82 hX1.t.o (by decide) rfl hX1.b.2.2.2.1 ?_
      refine J_aload_n hx dX7_leastBy_85 (i := 0) rfl rfl ?_
      refine J_invVv (As := [vR (r)]) (st := []) hx lk_X7_257 okX7_takeFrom dX7_leastBy_86 hX1.b.1.o (by decide) rfl rfl rfl (Nat.le_of_ble_eq_true rfl) (Nat.zero_add _).symm (Nat.zero_add _).symm rfl (c_X7_takeFrom hX1.b.1 hX1.t hX1.n.y hW.y (by have := hX1.b; omega) ?_)
      intro M2 hN2 hF2
      have hX2 := hX1.fr (FrD.n hF2)
      have hl2 := hX1.lo (FrD.n hF2)
      refine J_iload hx dX7_leastBy_89 rfl ?_
      refine J_if_eq (tgt := 109) hx dX7_leastBy_91 (by decide) (fun _ => ?_) (fun c9 => absurd c9 (by decide))
      refine J_aload_n hx dX7_leastBy_109 (i := 0) rfl rfl ?_
      refine J_getR (b := b) hx fl_X7_324 cl_X7 dX7_leastBy_110 hX2.t.o (by decide) rfl hX2.b.2.2.2.1 ?_
      refine J_iload_n hx dX7_leastBy_113 (i := 1) rfl rfl ?_
      refine J_iload hx dX7_leastBy_114 rfl ?_
      refine J_invVv (As := [vI (((p : Nat) : Int)), vI (((j : Nat) : Int))]) (st := []) hx lk_X7_219 okX7_runsHeld dX7_leastBy_116 hX2.b.1.o (by decide) rfl rfl rfl (Nat.le_of_ble_eq_true rfl) (Nat.zero_add _).symm (Nat.zero_add _).symm rfl (c_X7_runsHeld hX2.b.1 hN2 hW.y (p := p) (j := j) hp hc (by omega) ho ?_)
      intro M3 hN3 hF3
      have hX3 := hX2.fr (FrD.n hF3)
      have hl3 := hX2.lo (FrD.n hF3)
      have hW3 : WFY (runH S.1 p j) := runH_wf hW.y hp hc (by omega) ho
      have rgg3 := gmV_rg 1 _ hW3
      refine J_aload_n hx dX7_leastBy_119 (i := 0) rfl rfl ?_
      refine J_getR (b := b) hx fl_X7_324 cl_X7 dX7_leastBy_120 hX3.t.o (by decide) rfl hX3.b.2.2.2.1 ?_
      refine J_iload_n hx dX7_leastBy_123 (i := 2) rfl rfl ?_
      refine J_iconst (v := 1) hx dX7_leastBy_124 (by decide) ?_
      refine J_isub (v := 1) hx dX7_leastBy_125 (by decide) ?_
      refine J_go1 (st := []) hx lk_X7_333 dX7_leastBy_126 (Nat.le_of_ble_eq_true rfl) hX3 hN3 hW3 (fun T4 M4 sz4 dd4 hX4 hl4 => ?_)
      refine J_ineg (v := -(gmV 1 (runH S.1 p j))) hx dX7_leastBy_129 (w32_id (by omega) (by omega)) ?_
      refine J_istore (lsn := [vR (r), vI (((p : Nat) : Int)), vI (2), vI (le), vI (an), vI (((j : Nat) : Int)), vI (0), vI (0), vI (-(gmV 1 (runH S.1 p j)))]) hx dX7_leastBy_130 (Nat.le_of_ble_eq_true rfl) rfl rfl ?_
      refine J_iload hx dX7_leastBy_132 rfl ?_
      refine J_if_eq (tgt := 143) hx dX7_leastBy_134 (by decide) (fun c15 => ?_) (fun c15 => ?_)
      · refine J_iload hx dX7_leastBy_143 rfl ?_
        refine J_goto (tgt := 149) hx dX7_leastBy_145 (by decide) ?_
        refine J_istore_n (lsn := [vR (r), vI (((p : Nat) : Int)), vI (2), vI (-(gmV 1 (runH S.1 p j))), vI (an), vI (((j : Nat) : Int)), vI (0), vI (0), vI (-(gmV 1 (runH S.1 p j)))]) hx dX7_leastBy_149 (i := 3) rfl (Nat.le_of_ble_eq_true rfl) rfl rfl ?_
        refine J_iconst (v := 1) hx dX7_leastBy_150 (by decide) ?_
        refine J_istore (lsn := [vR (r), vI (((p : Nat) : Int)), vI (2), vI (-(gmV 1 (runH S.1 p j))), vI (1), vI (((j : Nat) : Int)), vI (0), vI (0), vI (-(gmV 1 (runH S.1 p j)))]) hx dX7_leastBy_151 (Nat.le_of_ble_eq_true rfl) rfl rfl ?_
        refine J_iinc (v := 1) (lsn := [vR (r), vI (((p : Nat) : Int)), vI (2), vI (-(gmV 1 (runH S.1 p j))), vI (1), vI (((j : Nat) : Int)), vI (0), vI (1), vI (-(gmV 1 (runH S.1 p j)))]) hx dX7_leastBy_153 rfl (by decide) rfl rfl ?_
        refine J_goto (tgt := 66) hx dX7_leastBy_156 (by decide) ?_
        refine J_iload hx dX7_leastBy_66 rfl ?_
        refine J_iload hx dX7_leastBy_68 rfl ?_
        refine J_if_eq (tgt := 77) hx dX7_leastBy_70 (by decide) (fun _ => ?_) (fun c9 => absurd c9 (by decide))
        refine J_iconst (v := 1) hx dX7_leastBy_77 (by decide) ?_
        refine J_icmp_ge (tgt := 159) hx dX7_leastBy_78 (by decide) (fun _ => ?_) (fun c9 => absurd c9 (by decide))
        refine J_iinc (v := ((j : Nat) : Int) + 1) (lsn := [vR (r), vI (((p : Nat) : Int)), vI (2), vI (-(gmV 1 (runH S.1 p j))), vI (1), vI (((j : Nat) : Int) + 1), vI (0), vI (1), vI (-(gmV 1 (runH S.1 p j)))]) hx dX7_leastBy_159 rfl (jinc1 (by omega) (by omega)) rfl rfl ?_
        refine J_goto (tgt := 8) hx dX7_leastBy_162 (by decide) ?_
        have e9 : -(gmV 1 (runH S.1 p j)) = lbJ (jtV (gmV 1) S.1 p) (j + 1) := by
          have ej := jtV_h (f := gmV 1) (A := S.1) (p := p) (j := j) (by omega)
          have rgj := lbJ_rg (h := (jtV (gmV 1) S.1 p)) (k := j) (fun j9 h9 => jtV_rg (gmV_rg 1) hW.y ho hp hc (by omega))
          have hz : j = 0 → lbJ (jtV (gmV 1) S.1 p) j = 9 := fun e => by rw [e]; rfl
          rw [lbJ_s]
          (repeat' split at *) <;> omega
        rw [e9]
        exact lp_X7_leastBy_2 hW hx hr hp hc ho hQ (j + 1) _ _ _ _ _ T4 M4 sz4 dd4 hX4 (fun q9 h9 => ⟨by rw [(hl4 q9 h9).1]; exact (hlo q9 h9).1, by rw [(hl4 q9 h9).2, hl3 q9 h9, hl2 q9 h9]; exact (hlo q9 h9).2⟩) (by omega) (Or.inr ⟨by omega, rfl, rfl⟩)
      · refine J_iload hx dX7_leastBy_137 rfl ?_
        refine J_iload_n hx dX7_leastBy_139 (i := 3) rfl rfl ?_
        refine J_icmp_ge (tgt := 148) hx dX7_leastBy_140 (by decide) (fun c18 => ?_) (fun c18 => ?_)
        · refine J_iload_n hx dX7_leastBy_148 (i := 3) rfl rfl ?_
          refine J_istore_n (lsn := [vR (r), vI (((p : Nat) : Int)), vI (2), vI (le), vI (an), vI (((j : Nat) : Int)), vI (0), vI (0), vI (-(gmV 1 (runH S.1 p j)))]) hx dX7_leastBy_149 (i := 3) rfl (Nat.le_of_ble_eq_true rfl) rfl rfl ?_
          refine J_iconst (v := 1) hx dX7_leastBy_150 (by decide) ?_
          refine J_istore (lsn := [vR (r), vI (((p : Nat) : Int)), vI (2), vI (le), vI (1), vI (((j : Nat) : Int)), vI (0), vI (0), vI (-(gmV 1 (runH S.1 p j)))]) hx dX7_leastBy_151 (Nat.le_of_ble_eq_true rfl) rfl rfl ?_
          refine J_iinc (v := 1) (lsn := [vR (r), vI (((p : Nat) : Int)), vI (2), vI (le), vI (1), vI (((j : Nat) : Int)), vI (0), vI (1), vI (-(gmV 1 (runH S.1 p j)))]) hx dX7_leastBy_153 rfl (by decide) rfl rfl ?_
          refine J_goto (tgt := 66) hx dX7_leastBy_156 (by decide) ?_
          refine J_iload hx dX7_leastBy_66 rfl ?_
          refine J_iload hx dX7_leastBy_68 rfl ?_
          refine J_if_eq (tgt := 77) hx dX7_leastBy_70 (by decide) (fun _ => ?_) (fun c9 => absurd c9 (by decide))
          refine J_iconst (v := 1) hx dX7_leastBy_77 (by decide) ?_
          refine J_icmp_ge (tgt := 159) hx dX7_leastBy_78 (by decide) (fun _ => ?_) (fun c9 => absurd c9 (by decide))
          refine J_iinc (v := ((j : Nat) : Int) + 1) (lsn := [vR (r), vI (((p : Nat) : Int)), vI (2), vI (le), vI (1), vI (((j : Nat) : Int) + 1), vI (0), vI (1), vI (-(gmV 1 (runH S.1 p j)))]) hx dX7_leastBy_159 rfl (jinc1 (by omega) (by omega)) rfl rfl ?_
          refine J_goto (tgt := 8) hx dX7_leastBy_162 (by decide) ?_
          have e9 : le = lbJ (jtV (gmV 1) S.1 p) (j + 1) := by
            have ej := jtV_h (f := gmV 1) (A := S.1) (p := p) (j := j) (by omega)
            have rgj := lbJ_rg (h := (jtV (gmV 1) S.1 p)) (k := j) (fun j9 h9 => jtV_rg (gmV_rg 1) hW.y ho hp hc (by omega))
            have hz : j = 0 → lbJ (jtV (gmV 1) S.1 p) j = 9 := fun e => by rw [e]; rfl
            rw [lbJ_s]
            (repeat' split at *) <;> omega
          rw [e9]
          exact lp_X7_leastBy_2 hW hx hr hp hc ho hQ (j + 1) _ _ _ _ _ T4 M4 sz4 dd4 hX4 (fun q9 h9 => ⟨by rw [(hl4 q9 h9).1]; exact (hlo q9 h9).1, by rw [(hl4 q9 h9).2, hl3 q9 h9, hl2 q9 h9]; exact (hlo q9 h9).2⟩) (by omega) (Or.inr ⟨by omega, rfl, rfl⟩)
        · refine J_iload hx dX7_leastBy_143 rfl ?_
          refine J_goto (tgt := 149) hx dX7_leastBy_145 (by decide) ?_
          refine J_istore_n (lsn := [vR (r), vI (((p : Nat) : Int)), vI (2), vI (-(gmV 1 (runH S.1 p j))), vI (an), vI (((j : Nat) : Int)), vI (0), vI (0), vI (-(gmV 1 (runH S.1 p j)))]) hx dX7_leastBy_149 (i := 3) rfl (Nat.le_of_ble_eq_true rfl) rfl rfl ?_
          refine J_iconst (v := 1) hx dX7_leastBy_150 (by decide) ?_
          refine J_istore (lsn := [vR (r), vI (((p : Nat) : Int)), vI (2), vI (-(gmV 1 (runH S.1 p j))), vI (1), vI (((j : Nat) : Int)), vI (0), vI (0), vI (-(gmV 1 (runH S.1 p j)))]) hx dX7_leastBy_151 (Nat.le_of_ble_eq_true rfl) rfl rfl ?_
          refine J_iinc (v := 1) (lsn := [vR (r), vI (((p : Nat) : Int)), vI (2), vI (-(gmV 1 (runH S.1 p j))), vI (1), vI (((j : Nat) : Int)), vI (0), vI (1), vI (-(gmV 1 (runH S.1 p j)))]) hx dX7_leastBy_153 rfl (by decide) rfl rfl ?_
          refine J_goto (tgt := 66) hx dX7_leastBy_156 (by decide) ?_
          refine J_iload hx dX7_leastBy_66 rfl ?_
          refine J_iload hx dX7_leastBy_68 rfl ?_
          refine J_if_eq (tgt := 77) hx dX7_leastBy_70 (by decide) (fun _ => ?_) (fun c9 => absurd c9 (by decide))
          refine J_iconst (v := 1) hx dX7_leastBy_77 (by decide) ?_
          refine J_icmp_ge (tgt := 159) hx dX7_leastBy_78 (by decide) (fun _ => ?_) (fun c9 => absurd c9 (by decide))
          refine J_iinc (v := ((j : Nat) : Int) + 1) (lsn := [vR (r), vI (((p : Nat) : Int)), vI (2), vI (-(gmV 1 (runH S.1 p j))), vI (1), vI (((j : Nat) : Int) + 1), vI (0), vI (1), vI (-(gmV 1 (runH S.1 p j)))]) hx dX7_leastBy_159 rfl (jinc1 (by omega) (by omega)) rfl rfl ?_
          refine J_goto (tgt := 8) hx dX7_leastBy_162 (by decide) ?_
          have e9 : -(gmV 1 (runH S.1 p j)) = lbJ (jtV (gmV 1) S.1 p) (j + 1) := by
            have ej := jtV_h (f := gmV 1) (A := S.1) (p := p) (j := j) (by omega)
            have rgj := lbJ_rg (h := (jtV (gmV 1) S.1 p)) (k := j) (fun j9 h9 => jtV_rg (gmV_rg 1) hW.y ho hp hc (by omega))
            have hz : j = 0 → lbJ (jtV (gmV 1) S.1 p) j = 9 := fun e => by rw [e]; rfl
            rw [lbJ_s]
            (repeat' split at *) <;> omega
          rw [e9]
          exact lp_X7_leastBy_2 hW hx hr hp hc ho hQ (j + 1) _ _ _ _ _ T4 M4 sz4 dd4 hX4 (fun q9 h9 => ⟨by rw [(hl4 q9 h9).1]; exact (hlo q9 h9).1, by rw [(hl4 q9 h9).2, hl3 q9 h9, hl2 q9 h9]; exact (hlo q9 h9).2⟩) (by omega) (Or.inr ⟨by omega, rfl, rfl⟩)
    · refine J_iconst (v := 1) hx dX7_leastBy_56 (by decide) ?_
      refine J_goto (tgt := 61) hx dX7_leastBy_57 (by decide) ?_
      refine J_istore (lsn := [vR (r), vI (((p : Nat) : Int)), vI (2), vI (le), vI (an), vI (((j : Nat) : Int)), vI (1), u7, u8]) hx dX7_leastBy_61 (Nat.le_of_ble_eq_true rfl) rfl rfl ?_
      refine J_iconst (v := 0) hx dX7_leastBy_63 (by decide) ?_
      refine J_istore (lsn := [vR (r), vI (((p : Nat) : Int)), vI (2), vI (le), vI (an), vI (((j : Nat) : Int)), vI (1), vI (0), u8]) hx dX7_leastBy_64 (Nat.le_of_ble_eq_true rfl) rfl rfl ?_
      refine J_iload hx dX7_leastBy_66 rfl ?_
      refine J_iload hx dX7_leastBy_68 rfl ?_
      refine J_if_eq (tgt := 77) hx dX7_leastBy_70 (by decide) (fun c9 => absurd c9 (by decide)) (fun _ => ?_)
      refine J_iconst (v := 2) hx dX7_leastBy_73 (by decide) ?_
      refine J_goto (tgt := 78) hx dX7_leastBy_74 (by decide) ?_
      refine J_icmp_ge (tgt := 159) hx dX7_leastBy_78 (by decide) (fun c9 => absurd c9 (by decide)) (fun _ => ?_)
      refine J_aload_n hx dX7_leastBy_81 (i := 0) rfl rfl ?_
      refine J_getR (b := b) hx fl_X7_324 cl_X7 dX7_leastBy_82 hX1.t.o (by decide) rfl hX1.b.2.2.2.1 ?_
      refine J_aload_n hx dX7_leastBy_85 (i := 0) rfl rfl ?_
      refine J_invVv (As := [vR (r)]) (st := []) hx lk_X7_257 okX7_takeFrom dX7_leastBy_86 hX1.b.1.o (by decide) rfl rfl rfl (Nat.le_of_ble_eq_true rfl) (Nat.zero_add _).symm (Nat.zero_add _).symm rfl (c_X7_takeFrom hX1.b.1 hX1.t hX1.n.y hW.y (by have := hX1.b; omega) ?_)
      intro M2 hN2 hF2
      have hX2 := hX1.fr (FrD.n hF2)
      have hl2 := hX1.lo (FrD.n hF2)
      refine J_iload hx dX7_leastBy_89 rfl ?_
      refine J_if_eq (tgt := 109) hx dX7_leastBy_91 (by decide) (fun c9 => absurd c9 (by decide)) (fun _ => ?_)
      refine J_aload_n hx dX7_leastBy_94 (i := 0) rfl rfl ?_
      refine J_getR (b := b) hx fl_X7_324 cl_X7 dX7_leastBy_95 hX2.t.o (by decide) rfl hX2.b.2.2.2.1 ?_
      refine J_iload_n hx dX7_leastBy_98 (i := 1) rfl rfl ?_
      refine J_iload hx dX7_leastBy_99 rfl ?_
      refine J_iload hx dX7_leastBy_101 rfl ?_
      refine J_invVv (As := [vI (((p : Nat) : Int)), vI (((j : Nat) : Int)), vI (0)]) (st := []) hx lk_X7_214 okX7_runsTorn dX7_leastBy_103 hX2.b.1.o (by decide) rfl rfl rfl (Nat.le_of_ble_eq_true rfl) (Nat.zero_add _).symm (Nat.zero_add _).symm rfl (c_X7_runsTorn hX2.b.1 hN2 hW.y (p := p) (j := j) (sd := 0) hp hc (by omega) ho (by decide) ?_)
      intro M3 hN3 hF3
      have hX3 := hX2.fr (FrD.n hF3)
      have hl3 := hX2.lo (FrD.n hF3)
      have hW3 : WFY (runT S.1 p j (takenY S.1 j 0)) := runT_wf hW.y hp hc (by omega) ho (taken_mem hW.y (by omega) (by decide))
      have rgg3 := gmV_rg 1 _ hW3
      refine J_goto (tgt := 119) hx dX7_leastBy_106 (by decide) ?_
      refine J_aload_n hx dX7_leastBy_119 (i := 0) rfl rfl ?_
      refine J_getR (b := b) hx fl_X7_324 cl_X7 dX7_leastBy_120 hX3.t.o (by decide) rfl hX3.b.2.2.2.1 ?_
      refine J_iload_n hx dX7_leastBy_123 (i := 2) rfl rfl ?_
      refine J_iconst (v := 1) hx dX7_leastBy_124 (by decide) ?_
      refine J_isub (v := 1) hx dX7_leastBy_125 (by decide) ?_
      refine J_go1 (st := []) hx lk_X7_333 dX7_leastBy_126 (Nat.le_of_ble_eq_true rfl) hX3 hN3 hW3 (fun T4 M4 sz4 dd4 hX4 hl4 => ?_)
      refine J_ineg (v := -(gmV 1 (runT S.1 p j (takenY S.1 j 0)))) hx dX7_leastBy_129 (w32_id (by omega) (by omega)) ?_
      refine J_istore (lsn := [vR (r), vI (((p : Nat) : Int)), vI (2), vI (le), vI (an), vI (((j : Nat) : Int)), vI (1), vI (0), vI (-(gmV 1 (runT S.1 p j (takenY S.1 j 0))))]) hx dX7_leastBy_130 (Nat.le_of_ble_eq_true rfl) rfl rfl ?_
      refine J_iload hx dX7_leastBy_132 rfl ?_
      refine J_if_eq (tgt := 143) hx dX7_leastBy_134 (by decide) (fun c26 => ?_) (fun c26 => ?_)
      · refine J_iload hx dX7_leastBy_143 rfl ?_
        refine J_goto (tgt := 149) hx dX7_leastBy_145 (by decide) ?_
        refine J_istore_n (lsn := [vR (r), vI (((p : Nat) : Int)), vI (2), vI (-(gmV 1 (runT S.1 p j (takenY S.1 j 0)))), vI (an), vI (((j : Nat) : Int)), vI (1), vI (0), vI (-(gmV 1 (runT S.1 p j (takenY S.1 j 0))))]) hx dX7_leastBy_149 (i := 3) rfl (Nat.le_of_ble_eq_true rfl) rfl rfl ?_
        refine J_iconst (v := 1) hx dX7_leastBy_150 (by decide) ?_
        refine J_istore (lsn := [vR (r), vI (((p : Nat) : Int)), vI (2), vI (-(gmV 1 (runT S.1 p j (takenY S.1 j 0)))), vI (1), vI (((j : Nat) : Int)), vI (1), vI (0), vI (-(gmV 1 (runT S.1 p j (takenY S.1 j 0))))]) hx dX7_leastBy_151 (Nat.le_of_ble_eq_true rfl) rfl rfl ?_
        refine J_iinc (v := 1) (lsn := [vR (r), vI (((p : Nat) : Int)), vI (2), vI (-(gmV 1 (runT S.1 p j (takenY S.1 j 0)))), vI (1), vI (((j : Nat) : Int)), vI (1), vI (1), vI (-(gmV 1 (runT S.1 p j (takenY S.1 j 0))))]) hx dX7_leastBy_153 rfl (by decide) rfl rfl ?_
        refine J_goto (tgt := 66) hx dX7_leastBy_156 (by decide) ?_
        refine J_iload hx dX7_leastBy_66 rfl ?_
        refine J_iload hx dX7_leastBy_68 rfl ?_
        refine J_if_eq (tgt := 77) hx dX7_leastBy_70 (by decide) (fun c9 => absurd c9 (by decide)) (fun _ => ?_)
        refine J_iconst (v := 2) hx dX7_leastBy_73 (by decide) ?_
        refine J_goto (tgt := 78) hx dX7_leastBy_74 (by decide) ?_
        refine J_icmp_ge (tgt := 159) hx dX7_leastBy_78 (by decide) (fun c9 => absurd c9 (by decide)) (fun _ => ?_)
        refine J_aload_n hx dX7_leastBy_81 (i := 0) rfl rfl ?_
        refine J_getR (b := b) hx fl_X7_324 cl_X7 dX7_leastBy_82 hX4.t.o (by decide) rfl hX4.b.2.2.2.1 ?_
        refine J_aload_n hx dX7_leastBy_85 (i := 0) rfl rfl ?_
        refine J_invVv (As := [vR (r)]) (st := []) hx lk_X7_257 okX7_takeFrom dX7_leastBy_86 hX4.b.1.o (by decide) rfl rfl rfl (Nat.le_of_ble_eq_true rfl) (Nat.zero_add _).symm (Nat.zero_add _).symm rfl (c_X7_takeFrom hX4.b.1 hX4.t hX4.n.y hW.y (by have := hX4.b; omega) ?_)
        intro M5 hN5 hF5
        have hX5 := hX4.fr (FrD.n hF5)
        have hl5 := hX4.lo (FrD.n hF5)
        refine J_iload hx dX7_leastBy_89 rfl ?_
        refine J_if_eq (tgt := 109) hx dX7_leastBy_91 (by decide) (fun c9 => absurd c9 (by decide)) (fun _ => ?_)
        refine J_aload_n hx dX7_leastBy_94 (i := 0) rfl rfl ?_
        refine J_getR (b := b) hx fl_X7_324 cl_X7 dX7_leastBy_95 hX5.t.o (by decide) rfl hX5.b.2.2.2.1 ?_
        refine J_iload_n hx dX7_leastBy_98 (i := 1) rfl rfl ?_
        refine J_iload hx dX7_leastBy_99 rfl ?_
        refine J_iload hx dX7_leastBy_101 rfl ?_
        refine J_invVv (As := [vI (((p : Nat) : Int)), vI (((j : Nat) : Int)), vI (1)]) (st := []) hx lk_X7_214 okX7_runsTorn dX7_leastBy_103 hX5.b.1.o (by decide) rfl rfl rfl (Nat.le_of_ble_eq_true rfl) (Nat.zero_add _).symm (Nat.zero_add _).symm rfl (c_X7_runsTorn hX5.b.1 hN5 hW.y (p := p) (j := j) (sd := 1) hp hc (by omega) ho (by decide) ?_)
        intro M6 hN6 hF6
        have hX6 := hX5.fr (FrD.n hF6)
        have hl6 := hX5.lo (FrD.n hF6)
        have hW6 : WFY (runT S.1 p j (takenY S.1 j 1)) := runT_wf hW.y hp hc (by omega) ho (taken_mem hW.y (by omega) (by decide))
        have rgg6 := gmV_rg 1 _ hW6
        refine J_goto (tgt := 119) hx dX7_leastBy_106 (by decide) ?_
        refine J_aload_n hx dX7_leastBy_119 (i := 0) rfl rfl ?_
        refine J_getR (b := b) hx fl_X7_324 cl_X7 dX7_leastBy_120 hX6.t.o (by decide) rfl hX6.b.2.2.2.1 ?_
        refine J_iload_n hx dX7_leastBy_123 (i := 2) rfl rfl ?_
        refine J_iconst (v := 1) hx dX7_leastBy_124 (by decide) ?_
        refine J_isub (v := 1) hx dX7_leastBy_125 (by decide) ?_
        refine J_go1 (st := []) hx lk_X7_333 dX7_leastBy_126 (Nat.le_of_ble_eq_true rfl) hX6 hN6 hW6 (fun T7 M7 sz7 dd7 hX7 hl7 => ?_)
        refine J_ineg (v := -(gmV 1 (runT S.1 p j (takenY S.1 j 1)))) hx dX7_leastBy_129 (w32_id (by omega) (by omega)) ?_
        refine J_istore (lsn := [vR (r), vI (((p : Nat) : Int)), vI (2), vI (-(gmV 1 (runT S.1 p j (takenY S.1 j 0)))), vI (1), vI (((j : Nat) : Int)), vI (1), vI (1), vI (-(gmV 1 (runT S.1 p j (takenY S.1 j 1))))]) hx dX7_leastBy_130 (Nat.le_of_ble_eq_true rfl) rfl rfl ?_
        refine J_iload hx dX7_leastBy_132 rfl ?_
        refine J_if_eq (tgt := 143) hx dX7_leastBy_134 (by decide) (fun c9 => absurd c9 (by decide)) (fun _ => ?_)
        refine J_iload hx dX7_leastBy_137 rfl ?_
        refine J_iload_n hx dX7_leastBy_139 (i := 3) rfl rfl ?_
        refine J_icmp_ge (tgt := 148) hx dX7_leastBy_140 (by decide) (fun c31 => ?_) (fun c31 => ?_)
        · refine J_iload_n hx dX7_leastBy_148 (i := 3) rfl rfl ?_
          refine J_istore_n (lsn := [vR (r), vI (((p : Nat) : Int)), vI (2), vI (-(gmV 1 (runT S.1 p j (takenY S.1 j 0)))), vI (1), vI (((j : Nat) : Int)), vI (1), vI (1), vI (-(gmV 1 (runT S.1 p j (takenY S.1 j 1))))]) hx dX7_leastBy_149 (i := 3) rfl (Nat.le_of_ble_eq_true rfl) rfl rfl ?_
          refine J_iconst (v := 1) hx dX7_leastBy_150 (by decide) ?_
          refine J_istore (lsn := [vR (r), vI (((p : Nat) : Int)), vI (2), vI (-(gmV 1 (runT S.1 p j (takenY S.1 j 0)))), vI (1), vI (((j : Nat) : Int)), vI (1), vI (1), vI (-(gmV 1 (runT S.1 p j (takenY S.1 j 1))))]) hx dX7_leastBy_151 (Nat.le_of_ble_eq_true rfl) rfl rfl ?_
          refine J_iinc (v := 2) (lsn := [vR (r), vI (((p : Nat) : Int)), vI (2), vI (-(gmV 1 (runT S.1 p j (takenY S.1 j 0)))), vI (1), vI (((j : Nat) : Int)), vI (1), vI (2), vI (-(gmV 1 (runT S.1 p j (takenY S.1 j 1))))]) hx dX7_leastBy_153 rfl (by decide) rfl rfl ?_
          refine J_goto (tgt := 66) hx dX7_leastBy_156 (by decide) ?_
          refine J_iload hx dX7_leastBy_66 rfl ?_
          refine J_iload hx dX7_leastBy_68 rfl ?_
          refine J_if_eq (tgt := 77) hx dX7_leastBy_70 (by decide) (fun c9 => absurd c9 (by decide)) (fun _ => ?_)
          refine J_iconst (v := 2) hx dX7_leastBy_73 (by decide) ?_
          refine J_goto (tgt := 78) hx dX7_leastBy_74 (by decide) ?_
          refine J_icmp_ge (tgt := 159) hx dX7_leastBy_78 (by decide) (fun _ => ?_) (fun c9 => absurd c9 (by decide))
          refine J_iinc (v := ((j : Nat) : Int) + 1) (lsn := [vR (r), vI (((p : Nat) : Int)), vI (2), vI (-(gmV 1 (runT S.1 p j (takenY S.1 j 0)))), vI (1), vI (((j : Nat) : Int) + 1), vI (1), vI (2), vI (-(gmV 1 (runT S.1 p j (takenY S.1 j 1))))]) hx dX7_leastBy_159 rfl (jinc1 (by omega) (by omega)) rfl rfl ?_
          refine J_goto (tgt := 8) hx dX7_leastBy_162 (by decide) ?_
          have e9 : -(gmV 1 (runT S.1 p j (takenY S.1 j 0))) = lbJ (jtV (gmV 1) S.1 p) (j + 1) := by
            have ej := jtV_t (f := gmV 1) (A := S.1) (p := p) (j := j) (by omega)
            have rgj := lbJ_rg (h := (jtV (gmV 1) S.1 p)) (k := j) (fun j9 h9 => jtV_rg (gmV_rg 1) hW.y ho hp hc (by omega))
            have hz : j = 0 → lbJ (jtV (gmV 1) S.1 p) j = 9 := fun e => by rw [e]; rfl
            rw [lbJ_s]
            (repeat' split at *) <;> omega
          rw [e9]
          exact lp_X7_leastBy_2 hW hx hr hp hc ho hQ (j + 1) _ _ _ _ _ T7 M7 sz7 dd7 hX7 (fun q9 h9 => ⟨by rw [(hl7 q9 h9).1, (hl4 q9 h9).1]; exact (hlo q9 h9).1, by rw [(hl7 q9 h9).2, hl6 q9 h9, hl5 q9 h9, (hl4 q9 h9).2, hl3 q9 h9, hl2 q9 h9]; exact (hlo q9 h9).2⟩) (by omega) (Or.inr ⟨by omega, rfl, rfl⟩)
        · refine J_iload hx dX7_leastBy_143 rfl ?_
          refine J_goto (tgt := 149) hx dX7_leastBy_145 (by decide) ?_
          refine J_istore_n (lsn := [vR (r), vI (((p : Nat) : Int)), vI (2), vI (-(gmV 1 (runT S.1 p j (takenY S.1 j 1)))), vI (1), vI (((j : Nat) : Int)), vI (1), vI (1), vI (-(gmV 1 (runT S.1 p j (takenY S.1 j 1))))]) hx dX7_leastBy_149 (i := 3) rfl (Nat.le_of_ble_eq_true rfl) rfl rfl ?_
          refine J_iconst (v := 1) hx dX7_leastBy_150 (by decide) ?_
          refine J_istore (lsn := [vR (r), vI (((p : Nat) : Int)), vI (2), vI (-(gmV 1 (runT S.1 p j (takenY S.1 j 1)))), vI (1), vI (((j : Nat) : Int)), vI (1), vI (1), vI (-(gmV 1 (runT S.1 p j (takenY S.1 j 1))))]) hx dX7_leastBy_151 (Nat.le_of_ble_eq_true rfl) rfl rfl ?_
          refine J_iinc (v := 2) (lsn := [vR (r), vI (((p : Nat) : Int)), vI (2), vI (-(gmV 1 (runT S.1 p j (takenY S.1 j 1)))), vI (1), vI (((j : Nat) : Int)), vI (1), vI (2), vI (-(gmV 1 (runT S.1 p j (takenY S.1 j 1))))]) hx dX7_leastBy_153 rfl (by decide) rfl rfl ?_
          refine J_goto (tgt := 66) hx dX7_leastBy_156 (by decide) ?_
          refine J_iload hx dX7_leastBy_66 rfl ?_
          refine J_iload hx dX7_leastBy_68 rfl ?_
          refine J_if_eq (tgt := 77) hx dX7_leastBy_70 (by decide) (fun c9 => absurd c9 (by decide)) (fun _ => ?_)
          refine J_iconst (v := 2) hx dX7_leastBy_73 (by decide) ?_
          refine J_goto (tgt := 78) hx dX7_leastBy_74 (by decide) ?_
          refine J_icmp_ge (tgt := 159) hx dX7_leastBy_78 (by decide) (fun _ => ?_) (fun c9 => absurd c9 (by decide))
          refine J_iinc (v := ((j : Nat) : Int) + 1) (lsn := [vR (r), vI (((p : Nat) : Int)), vI (2), vI (-(gmV 1 (runT S.1 p j (takenY S.1 j 1)))), vI (1), vI (((j : Nat) : Int) + 1), vI (1), vI (2), vI (-(gmV 1 (runT S.1 p j (takenY S.1 j 1))))]) hx dX7_leastBy_159 rfl (jinc1 (by omega) (by omega)) rfl rfl ?_
          refine J_goto (tgt := 8) hx dX7_leastBy_162 (by decide) ?_
          have e9 : -(gmV 1 (runT S.1 p j (takenY S.1 j 1))) = lbJ (jtV (gmV 1) S.1 p) (j + 1) := by
            have ej := jtV_t (f := gmV 1) (A := S.1) (p := p) (j := j) (by omega)
            have rgj := lbJ_rg (h := (jtV (gmV 1) S.1 p)) (k := j) (fun j9 h9 => jtV_rg (gmV_rg 1) hW.y ho hp hc (by omega))
            have hz : j = 0 → lbJ (jtV (gmV 1) S.1 p) j = 9 := fun e => by rw [e]; rfl
            rw [lbJ_s]
            (repeat' split at *) <;> omega
          rw [e9]
          exact lp_X7_leastBy_2 hW hx hr hp hc ho hQ (j + 1) _ _ _ _ _ T7 M7 sz7 dd7 hX7 (fun q9 h9 => ⟨by rw [(hl7 q9 h9).1, (hl4 q9 h9).1]; exact (hlo q9 h9).1, by rw [(hl7 q9 h9).2, hl6 q9 h9, hl5 q9 h9, (hl4 q9 h9).2, hl3 q9 h9, hl2 q9 h9]; exact (hlo q9 h9).2⟩) (by omega) (Or.inr ⟨by omega, rfl, rfl⟩)
      · refine J_iload hx dX7_leastBy_137 rfl ?_
        refine J_iload_n hx dX7_leastBy_139 (i := 3) rfl rfl ?_
        refine J_icmp_ge (tgt := 148) hx dX7_leastBy_140 (by decide) (fun c36 => ?_) (fun c36 => ?_)
        · refine J_iload_n hx dX7_leastBy_148 (i := 3) rfl rfl ?_
          refine J_istore_n (lsn := [vR (r), vI (((p : Nat) : Int)), vI (2), vI (le), vI (an), vI (((j : Nat) : Int)), vI (1), vI (0), vI (-(gmV 1 (runT S.1 p j (takenY S.1 j 0))))]) hx dX7_leastBy_149 (i := 3) rfl (Nat.le_of_ble_eq_true rfl) rfl rfl ?_
          refine J_iconst (v := 1) hx dX7_leastBy_150 (by decide) ?_
          refine J_istore (lsn := [vR (r), vI (((p : Nat) : Int)), vI (2), vI (le), vI (1), vI (((j : Nat) : Int)), vI (1), vI (0), vI (-(gmV 1 (runT S.1 p j (takenY S.1 j 0))))]) hx dX7_leastBy_151 (Nat.le_of_ble_eq_true rfl) rfl rfl ?_
          refine J_iinc (v := 1) (lsn := [vR (r), vI (((p : Nat) : Int)), vI (2), vI (le), vI (1), vI (((j : Nat) : Int)), vI (1), vI (1), vI (-(gmV 1 (runT S.1 p j (takenY S.1 j 0))))]) hx dX7_leastBy_153 rfl (by decide) rfl rfl ?_
          refine J_goto (tgt := 66) hx dX7_leastBy_156 (by decide) ?_
          refine J_iload hx dX7_leastBy_66 rfl ?_
          refine J_iload hx dX7_leastBy_68 rfl ?_
          refine J_if_eq (tgt := 77) hx dX7_leastBy_70 (by decide) (fun c9 => absurd c9 (by decide)) (fun _ => ?_)
          refine J_iconst (v := 2) hx dX7_leastBy_73 (by decide) ?_
          refine J_goto (tgt := 78) hx dX7_leastBy_74 (by decide) ?_
          refine J_icmp_ge (tgt := 159) hx dX7_leastBy_78 (by decide) (fun c9 => absurd c9 (by decide)) (fun _ => ?_)
          refine J_aload_n hx dX7_leastBy_81 (i := 0) rfl rfl ?_
          refine J_getR (b := b) hx fl_X7_324 cl_X7 dX7_leastBy_82 hX4.t.o (by decide) rfl hX4.b.2.2.2.1 ?_
          refine J_aload_n hx dX7_leastBy_85 (i := 0) rfl rfl ?_
          refine J_invVv (As := [vR (r)]) (st := []) hx lk_X7_257 okX7_takeFrom dX7_leastBy_86 hX4.b.1.o (by decide) rfl rfl rfl (Nat.le_of_ble_eq_true rfl) (Nat.zero_add _).symm (Nat.zero_add _).symm rfl (c_X7_takeFrom hX4.b.1 hX4.t hX4.n.y hW.y (by have := hX4.b; omega) ?_)
          intro M5 hN5 hF5
          have hX5 := hX4.fr (FrD.n hF5)
          have hl5 := hX4.lo (FrD.n hF5)
          refine J_iload hx dX7_leastBy_89 rfl ?_
          refine J_if_eq (tgt := 109) hx dX7_leastBy_91 (by decide) (fun c9 => absurd c9 (by decide)) (fun _ => ?_)
          refine J_aload_n hx dX7_leastBy_94 (i := 0) rfl rfl ?_
          refine J_getR (b := b) hx fl_X7_324 cl_X7 dX7_leastBy_95 hX5.t.o (by decide) rfl hX5.b.2.2.2.1 ?_
          refine J_iload_n hx dX7_leastBy_98 (i := 1) rfl rfl ?_
          refine J_iload hx dX7_leastBy_99 rfl ?_
          refine J_iload hx dX7_leastBy_101 rfl ?_
          refine J_invVv (As := [vI (((p : Nat) : Int)), vI (((j : Nat) : Int)), vI (1)]) (st := []) hx lk_X7_214 okX7_runsTorn dX7_leastBy_103 hX5.b.1.o (by decide) rfl rfl rfl (Nat.le_of_ble_eq_true rfl) (Nat.zero_add _).symm (Nat.zero_add _).symm rfl (c_X7_runsTorn hX5.b.1 hN5 hW.y (p := p) (j := j) (sd := 1) hp hc (by omega) ho (by decide) ?_)
          intro M6 hN6 hF6
          have hX6 := hX5.fr (FrD.n hF6)
          have hl6 := hX5.lo (FrD.n hF6)
          have hW6 : WFY (runT S.1 p j (takenY S.1 j 1)) := runT_wf hW.y hp hc (by omega) ho (taken_mem hW.y (by omega) (by decide))
          have rgg6 := gmV_rg 1 _ hW6
          refine J_goto (tgt := 119) hx dX7_leastBy_106 (by decide) ?_
          refine J_aload_n hx dX7_leastBy_119 (i := 0) rfl rfl ?_
          refine J_getR (b := b) hx fl_X7_324 cl_X7 dX7_leastBy_120 hX6.t.o (by decide) rfl hX6.b.2.2.2.1 ?_
          refine J_iload_n hx dX7_leastBy_123 (i := 2) rfl rfl ?_
          refine J_iconst (v := 1) hx dX7_leastBy_124 (by decide) ?_
          refine J_isub (v := 1) hx dX7_leastBy_125 (by decide) ?_
          refine J_go1 (st := []) hx lk_X7_333 dX7_leastBy_126 (Nat.le_of_ble_eq_true rfl) hX6 hN6 hW6 (fun T7 M7 sz7 dd7 hX7 hl7 => ?_)
          refine J_ineg (v := -(gmV 1 (runT S.1 p j (takenY S.1 j 1)))) hx dX7_leastBy_129 (w32_id (by omega) (by omega)) ?_
          refine J_istore (lsn := [vR (r), vI (((p : Nat) : Int)), vI (2), vI (le), vI (1), vI (((j : Nat) : Int)), vI (1), vI (1), vI (-(gmV 1 (runT S.1 p j (takenY S.1 j 1))))]) hx dX7_leastBy_130 (Nat.le_of_ble_eq_true rfl) rfl rfl ?_
          refine J_iload hx dX7_leastBy_132 rfl ?_
          refine J_if_eq (tgt := 143) hx dX7_leastBy_134 (by decide) (fun c9 => absurd c9 (by decide)) (fun _ => ?_)
          refine J_iload hx dX7_leastBy_137 rfl ?_
          refine J_iload_n hx dX7_leastBy_139 (i := 3) rfl rfl ?_
          refine J_icmp_ge (tgt := 148) hx dX7_leastBy_140 (by decide) (fun c41 => ?_) (fun c41 => ?_)
          · refine J_iload_n hx dX7_leastBy_148 (i := 3) rfl rfl ?_
            refine J_istore_n (lsn := [vR (r), vI (((p : Nat) : Int)), vI (2), vI (le), vI (1), vI (((j : Nat) : Int)), vI (1), vI (1), vI (-(gmV 1 (runT S.1 p j (takenY S.1 j 1))))]) hx dX7_leastBy_149 (i := 3) rfl (Nat.le_of_ble_eq_true rfl) rfl rfl ?_
            refine J_iconst (v := 1) hx dX7_leastBy_150 (by decide) ?_
            refine J_istore (lsn := [vR (r), vI (((p : Nat) : Int)), vI (2), vI (le), vI (1), vI (((j : Nat) : Int)), vI (1), vI (1), vI (-(gmV 1 (runT S.1 p j (takenY S.1 j 1))))]) hx dX7_leastBy_151 (Nat.le_of_ble_eq_true rfl) rfl rfl ?_
            refine J_iinc (v := 2) (lsn := [vR (r), vI (((p : Nat) : Int)), vI (2), vI (le), vI (1), vI (((j : Nat) : Int)), vI (1), vI (2), vI (-(gmV 1 (runT S.1 p j (takenY S.1 j 1))))]) hx dX7_leastBy_153 rfl (by decide) rfl rfl ?_
            refine J_goto (tgt := 66) hx dX7_leastBy_156 (by decide) ?_
            refine J_iload hx dX7_leastBy_66 rfl ?_
            refine J_iload hx dX7_leastBy_68 rfl ?_
            refine J_if_eq (tgt := 77) hx dX7_leastBy_70 (by decide) (fun c9 => absurd c9 (by decide)) (fun _ => ?_)
            refine J_iconst (v := 2) hx dX7_leastBy_73 (by decide) ?_
            refine J_goto (tgt := 78) hx dX7_leastBy_74 (by decide) ?_
            refine J_icmp_ge (tgt := 159) hx dX7_leastBy_78 (by decide) (fun _ => ?_) (fun c9 => absurd c9 (by decide))
            refine J_iinc (v := ((j : Nat) : Int) + 1) (lsn := [vR (r), vI (((p : Nat) : Int)), vI (2), vI (le), vI (1), vI (((j : Nat) : Int) + 1), vI (1), vI (2), vI (-(gmV 1 (runT S.1 p j (takenY S.1 j 1))))]) hx dX7_leastBy_159 rfl (jinc1 (by omega) (by omega)) rfl rfl ?_
            refine J_goto (tgt := 8) hx dX7_leastBy_162 (by decide) ?_
            have e9 : le = lbJ (jtV (gmV 1) S.1 p) (j + 1) := by
              have ej := jtV_t (f := gmV 1) (A := S.1) (p := p) (j := j) (by omega)
              have rgj := lbJ_rg (h := (jtV (gmV 1) S.1 p)) (k := j) (fun j9 h9 => jtV_rg (gmV_rg 1) hW.y ho hp hc (by omega))
              have hz : j = 0 → lbJ (jtV (gmV 1) S.1 p) j = 9 := fun e => by rw [e]; rfl
              rw [lbJ_s]
              (repeat' split at *) <;> omega
            rw [e9]
            exact lp_X7_leastBy_2 hW hx hr hp hc ho hQ (j + 1) _ _ _ _ _ T7 M7 sz7 dd7 hX7 (fun q9 h9 => ⟨by rw [(hl7 q9 h9).1, (hl4 q9 h9).1]; exact (hlo q9 h9).1, by rw [(hl7 q9 h9).2, hl6 q9 h9, hl5 q9 h9, (hl4 q9 h9).2, hl3 q9 h9, hl2 q9 h9]; exact (hlo q9 h9).2⟩) (by omega) (Or.inr ⟨by omega, rfl, rfl⟩)
          · refine J_iload hx dX7_leastBy_143 rfl ?_
            refine J_goto (tgt := 149) hx dX7_leastBy_145 (by decide) ?_
            refine J_istore_n (lsn := [vR (r), vI (((p : Nat) : Int)), vI (2), vI (-(gmV 1 (runT S.1 p j (takenY S.1 j 1)))), vI (1), vI (((j : Nat) : Int)), vI (1), vI (1), vI (-(gmV 1 (runT S.1 p j (takenY S.1 j 1))))]) hx dX7_leastBy_149 (i := 3) rfl (Nat.le_of_ble_eq_true rfl) rfl rfl ?_
            refine J_iconst (v := 1) hx dX7_leastBy_150 (by decide) ?_
            refine J_istore (lsn := [vR (r), vI (((p : Nat) : Int)), vI (2), vI (-(gmV 1 (runT S.1 p j (takenY S.1 j 1)))), vI (1), vI (((j : Nat) : Int)), vI (1), vI (1), vI (-(gmV 1 (runT S.1 p j (takenY S.1 j 1))))]) hx dX7_leastBy_151 (Nat.le_of_ble_eq_true rfl) rfl rfl ?_
            refine J_iinc (v := 2) (lsn := [vR (r), vI (((p : Nat) : Int)), vI (2), vI (-(gmV 1 (runT S.1 p j (takenY S.1 j 1)))), vI (1), vI (((j : Nat) : Int)), vI (1), vI (2), vI (-(gmV 1 (runT S.1 p j (takenY S.1 j 1))))]) hx dX7_leastBy_153 rfl (by decide) rfl rfl ?_
            refine J_goto (tgt := 66) hx dX7_leastBy_156 (by decide) ?_
            refine J_iload hx dX7_leastBy_66 rfl ?_
            refine J_iload hx dX7_leastBy_68 rfl ?_
            refine J_if_eq (tgt := 77) hx dX7_leastBy_70 (by decide) (fun c9 => absurd c9 (by decide)) (fun _ => ?_)
            refine J_iconst (v := 2) hx dX7_leastBy_73 (by decide) ?_
            refine J_goto (tgt := 78) hx dX7_leastBy_74 (by decide) ?_
            refine J_icmp_ge (tgt := 159) hx dX7_leastBy_78 (by decide) (fun _ => ?_) (fun c9 => absurd c9 (by decide))
            refine J_iinc (v := ((j : Nat) : Int) + 1) (lsn := [vR (r), vI (((p : Nat) : Int)), vI (2), vI (-(gmV 1 (runT S.1 p j (takenY S.1 j 1)))), vI (1), vI (((j : Nat) : Int) + 1), vI (1), vI (2), vI (-(gmV 1 (runT S.1 p j (takenY S.1 j 1))))]) hx dX7_leastBy_159 rfl (jinc1 (by omega) (by omega)) rfl rfl ?_
            refine J_goto (tgt := 8) hx dX7_leastBy_162 (by decide) ?_
            have e9 : -(gmV 1 (runT S.1 p j (takenY S.1 j 1))) = lbJ (jtV (gmV 1) S.1 p) (j + 1) := by
              have ej := jtV_t (f := gmV 1) (A := S.1) (p := p) (j := j) (by omega)
              have rgj := lbJ_rg (h := (jtV (gmV 1) S.1 p)) (k := j) (fun j9 h9 => jtV_rg (gmV_rg 1) hW.y ho hp hc (by omega))
              have hz : j = 0 → lbJ (jtV (gmV 1) S.1 p) j = 9 := fun e => by rw [e]; rfl
              rw [lbJ_s]
              (repeat' split at *) <;> omega
            rw [e9]
            exact lp_X7_leastBy_2 hW hx hr hp hc ho hQ (j + 1) _ _ _ _ _ T7 M7 sz7 dd7 hX7 (fun q9 h9 => ⟨by rw [(hl7 q9 h9).1, (hl4 q9 h9).1]; exact (hlo q9 h9).1, by rw [(hl7 q9 h9).2, hl6 q9 h9, hl5 q9 h9, (hl4 q9 h9).2, hl3 q9 h9, hl2 q9 h9]; exact (hlo q9 h9).2⟩) (by omega) (Or.inr ⟨by omega, rfl, rfl⟩)
        · refine J_iload hx dX7_leastBy_143 rfl ?_
          refine J_goto (tgt := 149) hx dX7_leastBy_145 (by decide) ?_
          refine J_istore_n (lsn := [vR (r), vI (((p : Nat) : Int)), vI (2), vI (-(gmV 1 (runT S.1 p j (takenY S.1 j 0)))), vI (an), vI (((j : Nat) : Int)), vI (1), vI (0), vI (-(gmV 1 (runT S.1 p j (takenY S.1 j 0))))]) hx dX7_leastBy_149 (i := 3) rfl (Nat.le_of_ble_eq_true rfl) rfl rfl ?_
          refine J_iconst (v := 1) hx dX7_leastBy_150 (by decide) ?_
          refine J_istore (lsn := [vR (r), vI (((p : Nat) : Int)), vI (2), vI (-(gmV 1 (runT S.1 p j (takenY S.1 j 0)))), vI (1), vI (((j : Nat) : Int)), vI (1), vI (0), vI (-(gmV 1 (runT S.1 p j (takenY S.1 j 0))))]) hx dX7_leastBy_151 (Nat.le_of_ble_eq_true rfl) rfl rfl ?_
          refine J_iinc (v := 1) (lsn := [vR (r), vI (((p : Nat) : Int)), vI (2), vI (-(gmV 1 (runT S.1 p j (takenY S.1 j 0)))), vI (1), vI (((j : Nat) : Int)), vI (1), vI (1), vI (-(gmV 1 (runT S.1 p j (takenY S.1 j 0))))]) hx dX7_leastBy_153 rfl (by decide) rfl rfl ?_
          refine J_goto (tgt := 66) hx dX7_leastBy_156 (by decide) ?_
          refine J_iload hx dX7_leastBy_66 rfl ?_
          refine J_iload hx dX7_leastBy_68 rfl ?_
          refine J_if_eq (tgt := 77) hx dX7_leastBy_70 (by decide) (fun c9 => absurd c9 (by decide)) (fun _ => ?_)
          refine J_iconst (v := 2) hx dX7_leastBy_73 (by decide) ?_
          refine J_goto (tgt := 78) hx dX7_leastBy_74 (by decide) ?_
          refine J_icmp_ge (tgt := 159) hx dX7_leastBy_78 (by decide) (fun c9 => absurd c9 (by decide)) (fun _ => ?_)
          refine J_aload_n hx dX7_leastBy_81 (i := 0) rfl rfl ?_
          refine J_getR (b := b) hx fl_X7_324 cl_X7 dX7_leastBy_82 hX4.t.o (by decide) rfl hX4.b.2.2.2.1 ?_
          refine J_aload_n hx dX7_leastBy_85 (i := 0) rfl rfl ?_
          refine J_invVv (As := [vR (r)]) (st := []) hx lk_X7_257 okX7_takeFrom dX7_leastBy_86 hX4.b.1.o (by decide) rfl rfl rfl (Nat.le_of_ble_eq_true rfl) (Nat.zero_add _).symm (Nat.zero_add _).symm rfl (c_X7_takeFrom hX4.b.1 hX4.t hX4.n.y hW.y (by have := hX4.b; omega) ?_)
          intro M5 hN5 hF5
          have hX5 := hX4.fr (FrD.n hF5)
          have hl5 := hX4.lo (FrD.n hF5)
          refine J_iload hx dX7_leastBy_89 rfl ?_
          refine J_if_eq (tgt := 109) hx dX7_leastBy_91 (by decide) (fun c9 => absurd c9 (by decide)) (fun _ => ?_)
          refine J_aload_n hx dX7_leastBy_94 (i := 0) rfl rfl ?_
          refine J_getR (b := b) hx fl_X7_324 cl_X7 dX7_leastBy_95 hX5.t.o (by decide) rfl hX5.b.2.2.2.1 ?_
          refine J_iload_n hx dX7_leastBy_98 (i := 1) rfl rfl ?_
          refine J_iload hx dX7_leastBy_99 rfl ?_
          refine J_iload hx dX7_leastBy_101 rfl ?_
          refine J_invVv (As := [vI (((p : Nat) : Int)), vI (((j : Nat) : Int)), vI (1)]) (st := []) hx lk_X7_214 okX7_runsTorn dX7_leastBy_103 hX5.b.1.o (by decide) rfl rfl rfl (Nat.le_of_ble_eq_true rfl) (Nat.zero_add _).symm (Nat.zero_add _).symm rfl (c_X7_runsTorn hX5.b.1 hN5 hW.y (p := p) (j := j) (sd := 1) hp hc (by omega) ho (by decide) ?_)
          intro M6 hN6 hF6
          have hX6 := hX5.fr (FrD.n hF6)
          have hl6 := hX5.lo (FrD.n hF6)
          have hW6 : WFY (runT S.1 p j (takenY S.1 j 1)) := runT_wf hW.y hp hc (by omega) ho (taken_mem hW.y (by omega) (by decide))
          have rgg6 := gmV_rg 1 _ hW6
          refine J_goto (tgt := 119) hx dX7_leastBy_106 (by decide) ?_
          refine J_aload_n hx dX7_leastBy_119 (i := 0) rfl rfl ?_
          refine J_getR (b := b) hx fl_X7_324 cl_X7 dX7_leastBy_120 hX6.t.o (by decide) rfl hX6.b.2.2.2.1 ?_
          refine J_iload_n hx dX7_leastBy_123 (i := 2) rfl rfl ?_
          refine J_iconst (v := 1) hx dX7_leastBy_124 (by decide) ?_
          refine J_isub (v := 1) hx dX7_leastBy_125 (by decide) ?_
          refine J_go1 (st := []) hx lk_X7_333 dX7_leastBy_126 (Nat.le_of_ble_eq_true rfl) hX6 hN6 hW6 (fun T7 M7 sz7 dd7 hX7 hl7 => ?_)
          refine J_ineg (v := -(gmV 1 (runT S.1 p j (takenY S.1 j 1)))) hx dX7_leastBy_129 (w32_id (by omega) (by omega)) ?_
          refine J_istore (lsn := [vR (r), vI (((p : Nat) : Int)), vI (2), vI (-(gmV 1 (runT S.1 p j (takenY S.1 j 0)))), vI (1), vI (((j : Nat) : Int)), vI (1), vI (1), vI (-(gmV 1 (runT S.1 p j (takenY S.1 j 1))))]) hx dX7_leastBy_130 (Nat.le_of_ble_eq_true rfl) rfl rfl ?_
          refine J_iload hx dX7_leastBy_132 rfl ?_
          refine J_if_eq (tgt := 143) hx dX7_leastBy_134 (by decide) (fun c9 => absurd c9 (by decide)) (fun _ => ?_)
          refine J_iload hx dX7_leastBy_137 rfl ?_
          refine J_iload_n hx dX7_leastBy_139 (i := 3) rfl rfl ?_
          refine J_icmp_ge (tgt := 148) hx dX7_leastBy_140 (by decide) (fun c50 => ?_) (fun c50 => ?_)
          · refine J_iload_n hx dX7_leastBy_148 (i := 3) rfl rfl ?_
            refine J_istore_n (lsn := [vR (r), vI (((p : Nat) : Int)), vI (2), vI (-(gmV 1 (runT S.1 p j (takenY S.1 j 0)))), vI (1), vI (((j : Nat) : Int)), vI (1), vI (1), vI (-(gmV 1 (runT S.1 p j (takenY S.1 j 1))))]) hx dX7_leastBy_149 (i := 3) rfl (Nat.le_of_ble_eq_true rfl) rfl rfl ?_
            refine J_iconst (v := 1) hx dX7_leastBy_150 (by decide) ?_
            refine J_istore (lsn := [vR (r), vI (((p : Nat) : Int)), vI (2), vI (-(gmV 1 (runT S.1 p j (takenY S.1 j 0)))), vI (1), vI (((j : Nat) : Int)), vI (1), vI (1), vI (-(gmV 1 (runT S.1 p j (takenY S.1 j 1))))]) hx dX7_leastBy_151 (Nat.le_of_ble_eq_true rfl) rfl rfl ?_
            refine J_iinc (v := 2) (lsn := [vR (r), vI (((p : Nat) : Int)), vI (2), vI (-(gmV 1 (runT S.1 p j (takenY S.1 j 0)))), vI (1), vI (((j : Nat) : Int)), vI (1), vI (2), vI (-(gmV 1 (runT S.1 p j (takenY S.1 j 1))))]) hx dX7_leastBy_153 rfl (by decide) rfl rfl ?_
            refine J_goto (tgt := 66) hx dX7_leastBy_156 (by decide) ?_
            refine J_iload hx dX7_leastBy_66 rfl ?_
            refine J_iload hx dX7_leastBy_68 rfl ?_
            refine J_if_eq (tgt := 77) hx dX7_leastBy_70 (by decide) (fun c9 => absurd c9 (by decide)) (fun _ => ?_)
            refine J_iconst (v := 2) hx dX7_leastBy_73 (by decide) ?_
            refine J_goto (tgt := 78) hx dX7_leastBy_74 (by decide) ?_
            refine J_icmp_ge (tgt := 159) hx dX7_leastBy_78 (by decide) (fun _ => ?_) (fun c9 => absurd c9 (by decide))
            refine J_iinc (v := ((j : Nat) : Int) + 1) (lsn := [vR (r), vI (((p : Nat) : Int)), vI (2), vI (-(gmV 1 (runT S.1 p j (takenY S.1 j 0)))), vI (1), vI (((j : Nat) : Int) + 1), vI (1), vI (2), vI (-(gmV 1 (runT S.1 p j (takenY S.1 j 1))))]) hx dX7_leastBy_159 rfl (jinc1 (by omega) (by omega)) rfl rfl ?_
            refine J_goto (tgt := 8) hx dX7_leastBy_162 (by decide) ?_
            have e9 : -(gmV 1 (runT S.1 p j (takenY S.1 j 0))) = lbJ (jtV (gmV 1) S.1 p) (j + 1) := by
              have ej := jtV_t (f := gmV 1) (A := S.1) (p := p) (j := j) (by omega)
              have rgj := lbJ_rg (h := (jtV (gmV 1) S.1 p)) (k := j) (fun j9 h9 => jtV_rg (gmV_rg 1) hW.y ho hp hc (by omega))
              have hz : j = 0 → lbJ (jtV (gmV 1) S.1 p) j = 9 := fun e => by rw [e]; rfl
              rw [lbJ_s]
              (repeat' split at *) <;> omega
            rw [e9]
            exact lp_X7_leastBy_2 hW hx hr hp hc ho hQ (j + 1) _ _ _ _ _ T7 M7 sz7 dd7 hX7 (fun q9 h9 => ⟨by rw [(hl7 q9 h9).1, (hl4 q9 h9).1]; exact (hlo q9 h9).1, by rw [(hl7 q9 h9).2, hl6 q9 h9, hl5 q9 h9, (hl4 q9 h9).2, hl3 q9 h9, hl2 q9 h9]; exact (hlo q9 h9).2⟩) (by omega) (Or.inr ⟨by omega, rfl, rfl⟩)
          · refine J_iload hx dX7_leastBy_143 rfl ?_
            refine J_goto (tgt := 149) hx dX7_leastBy_145 (by decide) ?_
            refine J_istore_n (lsn := [vR (r), vI (((p : Nat) : Int)), vI (2), vI (-(gmV 1 (runT S.1 p j (takenY S.1 j 1)))), vI (1), vI (((j : Nat) : Int)), vI (1), vI (1), vI (-(gmV 1 (runT S.1 p j (takenY S.1 j 1))))]) hx dX7_leastBy_149 (i := 3) rfl (Nat.le_of_ble_eq_true rfl) rfl rfl ?_
            refine J_iconst (v := 1) hx dX7_leastBy_150 (by decide) ?_
            refine J_istore (lsn := [vR (r), vI (((p : Nat) : Int)), vI (2), vI (-(gmV 1 (runT S.1 p j (takenY S.1 j 1)))), vI (1), vI (((j : Nat) : Int)), vI (1), vI (1), vI (-(gmV 1 (runT S.1 p j (takenY S.1 j 1))))]) hx dX7_leastBy_151 (Nat.le_of_ble_eq_true rfl) rfl rfl ?_
            refine J_iinc (v := 2) (lsn := [vR (r), vI (((p : Nat) : Int)), vI (2), vI (-(gmV 1 (runT S.1 p j (takenY S.1 j 1)))), vI (1), vI (((j : Nat) : Int)), vI (1), vI (2), vI (-(gmV 1 (runT S.1 p j (takenY S.1 j 1))))]) hx dX7_leastBy_153 rfl (by decide) rfl rfl ?_
            refine J_goto (tgt := 66) hx dX7_leastBy_156 (by decide) ?_
            refine J_iload hx dX7_leastBy_66 rfl ?_
            refine J_iload hx dX7_leastBy_68 rfl ?_
            refine J_if_eq (tgt := 77) hx dX7_leastBy_70 (by decide) (fun c9 => absurd c9 (by decide)) (fun _ => ?_)
            refine J_iconst (v := 2) hx dX7_leastBy_73 (by decide) ?_
            refine J_goto (tgt := 78) hx dX7_leastBy_74 (by decide) ?_
            refine J_icmp_ge (tgt := 159) hx dX7_leastBy_78 (by decide) (fun _ => ?_) (fun c9 => absurd c9 (by decide))
            refine J_iinc (v := ((j : Nat) : Int) + 1) (lsn := [vR (r), vI (((p : Nat) : Int)), vI (2), vI (-(gmV 1 (runT S.1 p j (takenY S.1 j 1)))), vI (1), vI (((j : Nat) : Int) + 1), vI (1), vI (2), vI (-(gmV 1 (runT S.1 p j (takenY S.1 j 1))))]) hx dX7_leastBy_159 rfl (jinc1 (by omega) (by omega)) rfl rfl ?_
            refine J_goto (tgt := 8) hx dX7_leastBy_162 (by decide) ?_
            have e9 : -(gmV 1 (runT S.1 p j (takenY S.1 j 1))) = lbJ (jtV (gmV 1) S.1 p) (j + 1) := by
              have ej := jtV_t (f := gmV 1) (A := S.1) (p := p) (j := j) (by omega)
              have rgj := lbJ_rg (h := (jtV (gmV 1) S.1 p)) (k := j) (fun j9 h9 => jtV_rg (gmV_rg 1) hW.y ho hp hc (by omega))
              have hz : j = 0 → lbJ (jtV (gmV 1) S.1 p) j = 9 := fun e => by rw [e]; rfl
              rw [lbJ_s]
              (repeat' split at *) <;> omega
            rw [e9]
            exact lp_X7_leastBy_2 hW hx hr hp hc ho hQ (j + 1) _ _ _ _ _ T7 M7 sz7 dd7 hX7 (fun q9 h9 => ⟨by rw [(hl7 q9 h9).1, (hl4 q9 h9).1]; exact (hlo q9 h9).1, by rw [(hl7 q9 h9).2, hl6 q9 h9, hl5 q9 h9, (hl4 q9 h9).2, hl3 q9 h9, hl2 q9 h9]; exact (hlo q9 h9).2⟩) (by omega) (Or.inr ⟨by omega, rfl, rfl⟩)
termination_by (S.1.ch S.1.tn).length - j
decreasing_by all_goals omega

set_option maxHeartbeats 4000000 in
theorem c_X7_leastBy_2 {g : WG} {d r b : Nat} {S : ST} {Q : MVal → TT → MM → Nat → Prop} (hW : WFS S) {T0 : TT} {M0 : MM} {sz : Nat} {dd : Option Nat} (hX : RXg T0 M0 r sz S b dd) {p : Nat} (hp : p < S.1.n) (hc : S.1.co p ≠ S.1.tn) (ho : ¬ overY S.1) (hQ : ∀ T' M' sz' dd', RXg T' M' r sz' S b dd' → (∀ q, q < r → T' q = T0 q ∧ M' q = M0 q) → Q (vI (lbP (gmV 1) S.1 p)) T' M' sz') : Ct g (d + 5) mX7_leastBy [vR (r), vI (((p : Nat) : Int)), vI (2)] T0 M0 sz 29 777 Q := by
  refine Ct_of2 (ls := [vR (r), vI (((p : Nat) : Int)), vI (2), vU, vU, vU, vU, vU, vU]) okX7_leastBy rfl (Nat.le_of_ble_eq_true rfl) rfl ?_
  intro x hx hr hnm
  have hn8 := hW.y.n8
  have ht2 := hW.y.tn2
  have hl8 := hW.y.len8 ht2
  refine J_iconst (v := 0) hx dX7_leastBy_0 (by decide) ?_
  refine J_istore_n (lsn := [vR (r), vI (((p : Nat) : Int)), vI (2), vI (0), vU, vU, vU, vU, vU]) hx dX7_leastBy_1 (i := 3) rfl (Nat.le_of_ble_eq_true rfl) rfl rfl ?_
  refine J_iconst (v := 0) hx dX7_leastBy_2 (by decide) ?_
  refine J_istore (lsn := [vR (r), vI (((p : Nat) : Int)), vI (2), vI (0), vI (0), vU, vU, vU, vU]) hx dX7_leastBy_3 (Nat.le_of_ble_eq_true rfl) rfl rfl ?_
  refine J_iconst (v := 0) hx dX7_leastBy_5 (by decide) ?_
  refine J_istore (lsn := [vR (r), vI (((p : Nat) : Int)), vI (2), vI (0), vI (0), vI (0), vU, vU, vU]) hx dX7_leastBy_6 (Nat.le_of_ble_eq_true rfl) rfl rfl ?_
  exact J_weak (lp_X7_leastBy_2 hW hx hr hp hc ho hQ 0 _ _ _ _ _ T0 M0 sz dd hX (fun _ _ => ⟨rfl, rfl⟩) (by have := not_over2 hW.y ho; omega) (Or.inl ⟨rfl, rfl⟩)) (bc_le dd) (bs_le dd)

set_option maxHeartbeats 4000000 in
theorem lp_X7_gameOf_2 {g : WG} {d r b : Nat} {S : ST} {Q : MVal → TT → MM → Nat → Prop} (hW : WFS S) {T0 : TT} {M0 : MM} {x : CX} (hx : OKx g x RX7 cX7_gameOf (d + 6)) (hr : RTx g x (some .int) Q) (ho : ¬ overY S.1) (hQ : ∀ T' M' sz' dd', RXg T' M' r sz' S b dd' → (∀ q, q < r → T' q = T0 q ∧ M' q = M0 q) → M' r 37 = gmC (gmV 1) S.1 → Q (vI (gmV 2 S.1)) T' M' sz') (i : Nat) (be wh : Int) (u : MVal) (T1 : TT) (M1 : MM) (sz1 : Nat) (dd1 : Option Nat) (hX1 : RXg T1 M1 r sz1 S b dd1) (hlo : ∀ q, q < r → T1 q = T0 q ∧ M1 q = M0 q) (hi : i ≤ S.1.n) (hs : (pick (calY S.1) (gmK (gmV 1) S.1) i = none ∧ wh = -1) ∨ (∃ z : Nat, pick (calY S.1) (gmK (gmV 1) S.1) i = some z ∧ wh = ((z : Nat) : Int) ∧ be = - gmK (gmV 1) S.1 z)) : Jd g x 58 [vR (r), vI (2), vI (be), vI (wh), vI (((i : Nat) : Int)), u] [] T1 M1 sz1 (29 * (S.1.n - i)) (777 * (S.1.n - i)) := by
  have hn8 := hW.y.n8
  have ht2 := hW.y.tn2
  have hl8 := hW.y.len8 ht2
  refine J_iload hx dX7_gameOf_58 rfl ?_
  refine J_aload_n hx dX7_gameOf_60 (i := 0) rfl rfl ?_
  refine J_getI2 (v := ((S.1.n : Nat) : Int)) hx fl_X7_82 cl_X7 dX7_gameOf_61 hX1.t.o (by decide) rfl hX1.n.y.pp ?_
  have rg1 := hW.y.n8
  refine J_icmp_ge (tgt := 112) hx dX7_gameOf_64 (by decide) (fun c2 => ?_) (fun c2 => ?_)
  · refine J_aload_n hx dX7_gameOf_112 (i := 0) rfl rfl ?_
    refine J_iload_n hx dX7_gameOf_113 (i := 3) rfl rfl ?_
    refine J_putI hx fl_X7_330 cl_X7 dX7_gameOf_114 hX1.t.o (by decide) rfl (Or.inl rfl) (by decide) ?_
    generalize eM2 : up2 M1 r 37 wh = M2
    have hM2a : M2 r 37 = wh := by rw [← eM2]; exact up2_at
    have hM2o : ∀ b9 j9, (b9 ≠ r ∨ j9 ≠ 37) → M2 b9 j9 = M1 b9 j9 := fun b9 j9 h9 => by rw [← eM2]; exact up2_ne h9
    have hM2r : ∀ b9, b9 ≠ r → M2 b9 = M1 b9 := fun b9 h9 => by rw [← eM2]; exact up2_row h9
    refine J_iload_n hx dX7_gameOf_117 (i := 2) rfl rfl ?_
    refine J_iret hx hr dX7_gameOf_118 ?_
    have ei : i = S.1.n := by omega
    subst ei
    obtain ⟨z, z1, -, -⟩ := gm_some (f := gmV 1) hW.y ho
    have e8 : be = gmV 2 S.1 ∧ wh = gmC (gmV 1) S.1 := by
      rcases hs with ⟨h1, h2⟩ | ⟨y, h1, h2, h3⟩
      · rw [z1] at h1; cases h1
      · rw [gmV_s ho, pkV_of h1]; unfold gmC; rw [pkI_of h1]; exact ⟨h3, h2⟩
    rw [← e8.1, ← e8.2] at hQ
    have hFd : FrD r b dd1 M1 M2 := fun q9 j9 h7 h8 h9 => hM2o q9 j9 (by omega)
    exact hQ T1 M2 sz1 dd1 (hX1.fr hFd) (fun q9 h9 => ⟨(hlo q9 h9).1, by rw [hX1.lo hFd q9 h9]; exact (hlo q9 h9).2⟩) hM2a
  · refine J_aload_n hx dX7_gameOf_67 (i := 0) rfl rfl ?_
    refine J_iload hx dX7_gameOf_68 rfl ?_
    refine J_invV (As := [vI (((i : Nat) : Int))]) (st := []) hx lk_X7_119 okX7_chainAt dX7_gameOf_70 hX1.t.o (by decide) rfl rfl rfl (Nat.le_of_ble_eq_true rfl) (Nat.zero_add _).symm (Nat.zero_add _).symm rfl (c_X7_chainAt hX1.t hX1.n.y hW.y (p := i) (by omega) ?_)
    have rg3 := S.1.co2 i
    refine J_aload_n hx dX7_gameOf_73 (i := 0) rfl rfl ?_
    refine J_getI2 (v := ((S.1.tn : Nat) : Int)) hx fl_X7_148 cl_X7 dX7_gameOf_74 hX1.t.o (by decide) rfl (hX1.n.y.tn hW.y) ?_
    have rg4 := hW.y.tn2
    refine J_icmp_eq (tgt := 106) hx dX7_gameOf_77 (by decide) (fun c5 => ?_) (fun c5 => ?_)
    · refine J_iinc (v := ((i : Nat) : Int) + 1) (lsn := [vR (r), vI (2), vI (be), vI (wh), vI (((i : Nat) : Int) + 1), u]) hx dX7_gameOf_106 rfl (jinc1 (by omega) (by omega)) rfl rfl ?_
      refine J_goto (tgt := 58) hx dX7_gameOf_109 (by decide) ?_
      have e9 : pick (calY S.1) (gmK (gmV 1) S.1) (i + 1) = pick (calY S.1) (gmK (gmV 1) S.1) i := qk_no (H := 9) (decide_eq_false (by omega))
      exact J_weak (lp_X7_gameOf_2 hW hx hr ho hQ (i + 1) _ _ _ T1 M1 sz1 dd1 hX1 hlo (by omega) (by rw [e9]; exact hs)) (by omega) (by omega)
    · refine J_aload_n hx dX7_gameOf_80 (i := 0) rfl rfl ?_
      refine J_iload hx dX7_gameOf_81 rfl ?_
      refine J_iload_n hx dX7_gameOf_83 (i := 1) rfl rfl ?_
      refine J_invV (As := [vI ((i : Nat) : Int), vI 2]) (st := []) (mc := 29) (ms := 777) (nc' := 29 * (S.1.n - (i + 1))) (ns' := 777 * (S.1.n - (i + 1))) hx lk_X7_327 okX7_leastBy dX7_gameOf_84 hX1.t.o (by decide) rfl rfl rfl (Nat.le_of_ble_eq_true rfl) (by omega) (by omega) rfl (c_X7_leastBy_2 hW hX1 (p := i) (by omega) (by omega) ho ?_)
      intro T2 M2 sz2 dd2 hX2 hl2
      have rgl := lbP_rg (gmV_rg 1) hW.y ho (p := i) (by omega) (by omega)
      refine J_istore (lsn := [vR (r), vI (2), vI (be), vI (wh), vI (((i : Nat) : Int)), vI (lbP (gmV 1) S.1 i)]) hx dX7_gameOf_87 (Nat.le_of_ble_eq_true rfl) rfl rfl ?_
      refine J_iload_n hx dX7_gameOf_89 (i := 3) rfl rfl ?_
      refine J_iconst (v := -1) hx dX7_gameOf_90 (by decide) ?_
      refine J_icmp_eq (tgt := 100) hx dX7_gameOf_91 (by decide) (fun c6 => ?_) (fun c6 => ?_)
      · refine J_iload hx dX7_gameOf_100 rfl ?_
        refine J_istore_n (lsn := [vR (r), vI (2), vI (lbP (gmV 1) S.1 i), vI (wh), vI (((i : Nat) : Int)), vI (lbP (gmV 1) S.1 i)]) hx dX7_gameOf_102 (i := 2) rfl (Nat.le_of_ble_eq_true rfl) rfl rfl ?_
        refine J_iload hx dX7_gameOf_103 rfl ?_
        refine J_istore_n (lsn := [vR (r), vI (2), vI (lbP (gmV 1) S.1 i), vI (((i : Nat) : Int)), vI (((i : Nat) : Int)), vI (lbP (gmV 1) S.1 i)]) hx dX7_gameOf_105 (i := 3) rfl (Nat.le_of_ble_eq_true rfl) rfl rfl ?_
        refine J_iinc (v := ((i : Nat) : Int) + 1) (lsn := [vR (r), vI (2), vI (lbP (gmV 1) S.1 i), vI (((i : Nat) : Int)), vI (((i : Nat) : Int) + 1), vI (lbP (gmV 1) S.1 i)]) hx dX7_gameOf_106 rfl (jinc1 (by omega) (by omega)) rfl rfl ?_
        refine J_goto (tgt := 58) hx dX7_gameOf_109 (by decide) ?_
        have e9 : pick (calY S.1) (gmK (gmV 1) S.1) (i + 1) = some i := by
          rcases hs with ⟨h1, h2⟩ | ⟨z, h1, h2, h3⟩
          · exact qk_lt (H := 9) (decide_eq_true (by omega)) (by unfold pkV; rw [h1]; show gmK _ _ _ < 9; unfold gmK; omega)
          · exact qk_lt (H := 9) (decide_eq_true (by omega)) (by rw [pkV_of h1]; unfold gmK at *; omega)
        exact lp_X7_gameOf_2 hW hx hr ho hQ (i + 1) _ _ _ T2 M2 sz2 dd2 hX2 (fun q9 h9 => ⟨by rw [(hl2 q9 h9).1]; exact (hlo q9 h9).1, by rw [(hl2 q9 h9).2]; exact (hlo q9 h9).2⟩) (by omega) (Or.inr ⟨i, e9, rfl, by unfold gmK; omega⟩)
      · refine J_iload hx dX7_gameOf_94 rfl ?_
        refine J_iload_n hx dX7_gameOf_96 (i := 2) rfl rfl ?_
        refine J_icmp_le (tgt := 106) hx dX7_gameOf_97 (by decide) (fun c7 => ?_) (fun c7 => ?_)
        · refine J_iinc (v := ((i : Nat) : Int) + 1) (lsn := [vR (r), vI (2), vI (be), vI (wh), vI (((i : Nat) : Int) + 1), vI (lbP (gmV 1) S.1 i)]) hx dX7_gameOf_106 rfl (jinc1 (by omega) (by omega)) rfl rfl ?_
          refine J_goto (tgt := 58) hx dX7_gameOf_109 (by decide) ?_
          have e9 : pick (calY S.1) (gmK (gmV 1) S.1) (i + 1) = pick (calY S.1) (gmK (gmV 1) S.1) i := by
            rcases hs with ⟨h1, h2⟩ | ⟨z, h1, h2, h3⟩
            · exfalso; omega
            · exact qk_ge (H := 9) (by unfold gmK; omega) (by rw [pkV_of h1]; unfold gmK at *; omega)
          exact lp_X7_gameOf_2 hW hx hr ho hQ (i + 1) _ _ _ T2 M2 sz2 dd2 hX2 (fun q9 h9 => ⟨by rw [(hl2 q9 h9).1]; exact (hlo q9 h9).1, by rw [(hl2 q9 h9).2]; exact (hlo q9 h9).2⟩) (by omega) (by rw [e9]; exact hs)
        · refine J_iload hx dX7_gameOf_100 rfl ?_
          refine J_istore_n (lsn := [vR (r), vI (2), vI (lbP (gmV 1) S.1 i), vI (wh), vI (((i : Nat) : Int)), vI (lbP (gmV 1) S.1 i)]) hx dX7_gameOf_102 (i := 2) rfl (Nat.le_of_ble_eq_true rfl) rfl rfl ?_
          refine J_iload hx dX7_gameOf_103 rfl ?_
          refine J_istore_n (lsn := [vR (r), vI (2), vI (lbP (gmV 1) S.1 i), vI (((i : Nat) : Int)), vI (((i : Nat) : Int)), vI (lbP (gmV 1) S.1 i)]) hx dX7_gameOf_105 (i := 3) rfl (Nat.le_of_ble_eq_true rfl) rfl rfl ?_
          refine J_iinc (v := ((i : Nat) : Int) + 1) (lsn := [vR (r), vI (2), vI (lbP (gmV 1) S.1 i), vI (((i : Nat) : Int)), vI (((i : Nat) : Int) + 1), vI (lbP (gmV 1) S.1 i)]) hx dX7_gameOf_106 rfl (jinc1 (by omega) (by omega)) rfl rfl ?_
          refine J_goto (tgt := 58) hx dX7_gameOf_109 (by decide) ?_
          have e9 : pick (calY S.1) (gmK (gmV 1) S.1) (i + 1) = some i := by
            rcases hs with ⟨h1, h2⟩ | ⟨z, h1, h2, h3⟩
            · exact qk_lt (H := 9) (decide_eq_true (by omega)) (by unfold pkV; rw [h1]; show gmK _ _ _ < 9; unfold gmK; omega)
            · exact qk_lt (H := 9) (decide_eq_true (by omega)) (by rw [pkV_of h1]; unfold gmK at *; omega)
          exact lp_X7_gameOf_2 hW hx hr ho hQ (i + 1) _ _ _ T2 M2 sz2 dd2 hX2 (fun q9 h9 => ⟨by rw [(hl2 q9 h9).1]; exact (hlo q9 h9).1, by rw [(hl2 q9 h9).2]; exact (hlo q9 h9).2⟩) (by omega) (Or.inr ⟨i, e9, rfl, by unfold gmK; omega⟩)
termination_by S.1.n - i
decreasing_by all_goals omega

set_option maxHeartbeats 4000000 in
theorem c_X7_gameOf_1x {g : WG} {d : Nat} {T : TT} {M : MM} {r sz : Nat} {S : ST} {Q : MVal → TT → MM → Nat → Prop} (hX : RX T M r sz S) (hW : WFS S) (ho : ¬ overY S.1) (hQ : ∀ T' M' sz', RX T' M' r sz' S → (∀ q, q < r → T' q = T q ∧ M' q = M q) → M' r 37 = gmC (gmV 0) S.1 → Q (vI (gmV 1 S.1)) T' M' sz') : Ct g (d + 6) mX7_gameOf [vR (r), vI (1)] T M sz 261 6993 Q := by
  refine Ct_of2 (ls := [vR (r), vI (1), vU, vU, vU, vU]) okX7_gameOf rfl (Nat.le_of_ble_eq_true rfl) rfl ?_
  intro x hx hr hnm
  have hn8 := hW.y.n8
  have ht2 := hW.y.tn2
  have hl8 := hW.y.len8 ht2
  have hsz : r + 29 ≤ sz := by obtain ⟨-, _, _, _, _, h9, -⟩ := hX; exact h9.2.1
  refine J_iload_n hx dX7_gameOf_0 (i := 1) rfl rfl ?_
  refine J_if_eq (tgt := 11) hx dX7_gameOf_1 (by decide) (fun c9 => absurd c9 (by decide)) (fun _ => ?_)
  refine J_aload_n hx dX7_gameOf_4 (i := 0) rfl rfl ?_
  refine J_invV (As := []) (st := []) hx lk_X7_208 okX7_isOver dX7_gameOf_5 hX.t.o (by decide) rfl rfl rfl (Nat.le_of_ble_eq_true rfl) (Nat.zero_add _).symm (Nat.zero_add _).symm rfl (c_X7_isOver hX.t hX.n.y hW.y  ?_)
  intro v2 hv2
  refine J_if_eq (tgt := 33) hx dX7_gameOf_8 (by decide) (fun c3 => ?_) (fun c3 => ?_)
  · refine J_aload_n hx dX7_gameOf_33 (i := 0) rfl rfl ?_
    refine J_getN (r := (T r).2.2 26) hx fl_X7_324 cl_X7 dX7_gameOf_34 hX.t.o (by decide) rfl rfl ?_
    refine J_ifnonnull (tgt := 51) hx dX7_gameOf_37 (by decide) (fun b hb => ?_) (fun hb => ?_)
    · obtain ⟨dd, hG⟩ := hX.g hb
      refine J_iconst (v := 0) hx dX7_gameOf_51 (by decide) ?_
      refine J_istore_n (lsn := [vR (r), vI (1), vI (0), vU, vU, vU]) hx dX7_gameOf_52 (i := 2) rfl (Nat.le_of_ble_eq_true rfl) rfl rfl ?_
      refine J_iconst (v := -1) hx dX7_gameOf_53 (by decide) ?_
      refine J_istore_n (lsn := [vR (r), vI (1), vI (0), vI ((-1)), vU, vU]) hx dX7_gameOf_54 (i := 3) rfl (Nat.le_of_ble_eq_true rfl) rfl rfl ?_
      refine J_iconst (v := 0) hx dX7_gameOf_55 (by decide) ?_
      refine J_istore (lsn := [vR (r), vI (1), vI (0), vI ((-1)), vI (0), vU]) hx dX7_gameOf_56 (Nat.le_of_ble_eq_true rfl) rfl rfl ?_
      have hgb := hG.b
      exact J_weak (lp_X7_gameOf_1 hX.t hX.n.y hW.y hgb.1 hb (Or.inl hgb.2.1) hx hr ho (fun M9 h8 h9 => hQ T M9 sz (hG.fr (fun q9 j9 k1 k2 k3 => h8 q9 j9 k1 k3)).x (fun q9 hq => ⟨rfl, funext fun j9 => h8 q9 j9 (by omega) (by omega)⟩) (h9 ho)) 0 _ _ _ M hX.n.y (fun _ _ => rfl) (by omega) (Or.inl ⟨rfl, rfl⟩)) (by omega) (by omega)
    · refine nb_X7_gameOf (nc := 232) (ns := 6216) hx hX.t.o (by omega) (fun T1 M1 hB => ?_)
      have hG := hB.deeper hX hb
      have hlB := hB.lo (by omega)
      refine J_iconst (v := 0) hx dX7_gameOf_51 (by decide) ?_
      refine J_istore_n (lsn := [vR (r), vI (1), vI (0), vU, vU, vU]) hx dX7_gameOf_52 (i := 2) rfl (Nat.le_of_ble_eq_true rfl) rfl rfl ?_
      refine J_iconst (v := -1) hx dX7_gameOf_53 (by decide) ?_
      refine J_istore_n (lsn := [vR (r), vI (1), vI (0), vI ((-1)), vU, vU]) hx dX7_gameOf_54 (i := 3) rfl (Nat.le_of_ble_eq_true rfl) rfl rfl ?_
      refine J_iconst (v := 0) hx dX7_gameOf_55 (by decide) ?_
      refine J_istore (lsn := [vR (r), vI (1), vI (0), vI ((-1)), vI (0), vU]) hx dX7_gameOf_56 (Nat.le_of_ble_eq_true rfl) rfl rfl ?_
      have hgb := hG.b
      exact J_weak (lp_X7_gameOf_1 hG.t hG.n.y hW.y hgb.1 hgb.2.2.2.1 (Or.inl hgb.2.1) hx hr ho (fun M9 h8 h9 => hQ T1 M9 (sz + 29) (hG.fr (fun q9 j9 k1 k2 k3 => h8 q9 j9 k1 k3)).x (fun q9 hq => ⟨(hlB q9 hq).1, by rw [← (hlB q9 hq).2]; exact funext fun j9 => h8 q9 j9 (by omega) (by omega)⟩) (h9 ho)) 0 _ _ _ M1 hG.n.y (fun _ _ => rfl) (by omega) (Or.inl ⟨rfl, rfl⟩)) (by omega) (by omega)
  · refine J_aload_n hx dX7_gameOf_11 (i := 0) rfl rfl ?_
    refine J_getR (b := r + 25) hx fl_X7_57 cl_X7 dX7_gameOf_12 hX.t.o (by decide) rfl hX.t.r16 ?_
    refine J_aload_n hx dX7_gameOf_15 (i := 0) rfl rfl ?_
    refine J_getI2 (v := ((S.1.tn : Nat) : Int)) hx fl_X7_148 cl_X7 dX7_gameOf_16 hX.t.o (by decide) rfl (hX.n.y.tn hW.y) ?_
    have rg4 := hW.y.tn2
    refine J_iald2 (v := (((S.1.ch S.1.tn).length : Nat) : Int)) hx S.1.tn dX7_gameOf_19 hX.t.k25 (by omega) (hX.t.l25 (by omega)) (hX.n.y.sz (by omega)) ?_
    have rg5 := hW.y.len8 (c := S.1.tn) (by omega)
    have rg6 := hW.y.lenN (c := S.1.tn) (by omega)
    refine J_aload_n hx dX7_gameOf_20 (i := 0) rfl rfl ?_
    refine J_getR (b := r + 25) hx fl_X7_57 cl_X7 dX7_gameOf_21 hX.t.o (by decide) rfl hX.t.r16 ?_
    refine J_iconst (v := 1) hx dX7_gameOf_24 (by decide) ?_
    refine J_aload_n hx dX7_gameOf_25 (i := 0) rfl rfl ?_
    refine J_getI2 (v := ((S.1.tn : Nat) : Int)) hx fl_X7_148 cl_X7 dX7_gameOf_26 hX.t.o (by decide) rfl (hX.n.y.tn hW.y) ?_
    have rg7 := hW.y.tn2
    refine J_isub (v := ((1 - S.1.tn : Nat) : Int)) hx dX7_gameOf_29 (by rw [w32_id (by omega) (by omega)]; omega) ?_
    refine J_iald2 (v := (((S.1.ch (1 - S.1.tn)).length : Nat) : Int)) hx (1 - S.1.tn) dX7_gameOf_30 hX.t.k25 (by omega) (hX.t.l25 (by omega)) (hX.n.y.sz (by omega)) ?_
    have rg8 := hW.y.len8 (c := 1 - S.1.tn) (by omega)
    have rg9 := hW.y.lenN (c := 1 - S.1.tn) (by omega)
    refine J_isub (v := (((S.1.ch S.1.tn).length : Nat) : Int) - (((S.1.ch (1 - S.1.tn)).length : Nat) : Int)) hx dX7_gameOf_31 (w32_id (by omega) (by omega)) ?_
    refine J_iret hx hr dX7_gameOf_32 ?_
    exfalso; unfold overY at *; omega

set_option maxHeartbeats 4000000 in
theorem c_X7_gameOf_2x {g : WG} {d : Nat} {T : TT} {M : MM} {r sz : Nat} {S : ST} {Q : MVal → TT → MM → Nat → Prop} (hX : RX T M r sz S) (hW : WFS S) (ho : ¬ overY S.1) (hQ : ∀ T' M' sz', RX T' M' r sz' S → (∀ q, q < r → T' q = T q ∧ M' q = M q) → M' r 37 = gmC (gmV 1) S.1 → Q (vI (gmV 2 S.1)) T' M' sz') : Ct g (d + 6) mX7_gameOf [vR (r), vI (2)] T M sz 261 6993 Q := by
  refine Ct_of2 (ls := [vR (r), vI (2), vU, vU, vU, vU]) okX7_gameOf rfl (Nat.le_of_ble_eq_true rfl) rfl ?_
  intro x hx hr hnm
  have hn8 := hW.y.n8
  have ht2 := hW.y.tn2
  have hl8 := hW.y.len8 ht2
  have hsz : r + 29 ≤ sz := by obtain ⟨-, _, _, _, _, h9, -⟩ := hX; exact h9.2.1
  refine J_iload_n hx dX7_gameOf_0 (i := 1) rfl rfl ?_
  refine J_if_eq (tgt := 11) hx dX7_gameOf_1 (by decide) (fun c9 => absurd c9 (by decide)) (fun _ => ?_)
  refine J_aload_n hx dX7_gameOf_4 (i := 0) rfl rfl ?_
  refine J_invV (As := []) (st := []) hx lk_X7_208 okX7_isOver dX7_gameOf_5 hX.t.o (by decide) rfl rfl rfl (Nat.le_of_ble_eq_true rfl) (Nat.zero_add _).symm (Nat.zero_add _).symm rfl (c_X7_isOver hX.t hX.n.y hW.y  ?_)
  intro v2 hv2
  refine J_if_eq (tgt := 33) hx dX7_gameOf_8 (by decide) (fun c3 => ?_) (fun c3 => ?_)
  · refine J_aload_n hx dX7_gameOf_33 (i := 0) rfl rfl ?_
    refine J_getN (r := (T r).2.2 26) hx fl_X7_324 cl_X7 dX7_gameOf_34 hX.t.o (by decide) rfl rfl ?_
    refine J_ifnonnull (tgt := 51) hx dX7_gameOf_37 (by decide) (fun b hb => ?_) (fun hb => ?_)
    · obtain ⟨dd, hG⟩ := hX.g hb
      refine J_iconst (v := 0) hx dX7_gameOf_51 (by decide) ?_
      refine J_istore_n (lsn := [vR (r), vI (2), vI (0), vU, vU, vU]) hx dX7_gameOf_52 (i := 2) rfl (Nat.le_of_ble_eq_true rfl) rfl rfl ?_
      refine J_iconst (v := -1) hx dX7_gameOf_53 (by decide) ?_
      refine J_istore_n (lsn := [vR (r), vI (2), vI (0), vI ((-1)), vU, vU]) hx dX7_gameOf_54 (i := 3) rfl (Nat.le_of_ble_eq_true rfl) rfl rfl ?_
      refine J_iconst (v := 0) hx dX7_gameOf_55 (by decide) ?_
      refine J_istore (lsn := [vR (r), vI (2), vI (0), vI ((-1)), vI (0), vU]) hx dX7_gameOf_56 (Nat.le_of_ble_eq_true rfl) rfl rfl ?_
      exact J_weak (lp_X7_gameOf_2 hW hx hr ho (fun T9 M9 z9 d9 h6 h7 h8 => hQ T9 M9 z9 h6.x h7 h8) 0 _ _ _ T M sz dd hG (fun _ _ => ⟨rfl, rfl⟩) (by omega) (Or.inl ⟨rfl, rfl⟩)) (by omega) (by omega)
    · refine nb_X7_gameOf (nc := 232) (ns := 6216) hx hX.t.o (by omega) (fun T1 M1 hB => ?_)
      have hG := hB.deeper hX hb
      have hlB := hB.lo (by omega)
      refine J_iconst (v := 0) hx dX7_gameOf_51 (by decide) ?_
      refine J_istore_n (lsn := [vR (r), vI (2), vI (0), vU, vU, vU]) hx dX7_gameOf_52 (i := 2) rfl (Nat.le_of_ble_eq_true rfl) rfl rfl ?_
      refine J_iconst (v := -1) hx dX7_gameOf_53 (by decide) ?_
      refine J_istore_n (lsn := [vR (r), vI (2), vI (0), vI ((-1)), vU, vU]) hx dX7_gameOf_54 (i := 3) rfl (Nat.le_of_ble_eq_true rfl) rfl rfl ?_
      refine J_iconst (v := 0) hx dX7_gameOf_55 (by decide) ?_
      refine J_istore (lsn := [vR (r), vI (2), vI (0), vI ((-1)), vI (0), vU]) hx dX7_gameOf_56 (Nat.le_of_ble_eq_true rfl) rfl rfl ?_
      exact J_weak (lp_X7_gameOf_2 hW hx hr ho (fun T9 M9 z9 d9 h6 h7 h8 => hQ T9 M9 z9 h6.x (fun q9 h9 => ⟨by rw [(h7 q9 h9).1]; exact (hlB q9 h9).1, by rw [(h7 q9 h9).2]; exact (hlB q9 h9).2⟩) h8) 0 _ _ _ T1 M1 (sz + 29) none hG (fun _ _ => ⟨rfl, rfl⟩) (by omega) (Or.inl ⟨rfl, rfl⟩)) (by omega) (by omega)
  · refine J_aload_n hx dX7_gameOf_11 (i := 0) rfl rfl ?_
    refine J_getR (b := r + 25) hx fl_X7_57 cl_X7 dX7_gameOf_12 hX.t.o (by decide) rfl hX.t.r16 ?_
    refine J_aload_n hx dX7_gameOf_15 (i := 0) rfl rfl ?_
    refine J_getI2 (v := ((S.1.tn : Nat) : Int)) hx fl_X7_148 cl_X7 dX7_gameOf_16 hX.t.o (by decide) rfl (hX.n.y.tn hW.y) ?_
    have rg4 := hW.y.tn2
    refine J_iald2 (v := (((S.1.ch S.1.tn).length : Nat) : Int)) hx S.1.tn dX7_gameOf_19 hX.t.k25 (by omega) (hX.t.l25 (by omega)) (hX.n.y.sz (by omega)) ?_
    have rg5 := hW.y.len8 (c := S.1.tn) (by omega)
    have rg6 := hW.y.lenN (c := S.1.tn) (by omega)
    refine J_aload_n hx dX7_gameOf_20 (i := 0) rfl rfl ?_
    refine J_getR (b := r + 25) hx fl_X7_57 cl_X7 dX7_gameOf_21 hX.t.o (by decide) rfl hX.t.r16 ?_
    refine J_iconst (v := 1) hx dX7_gameOf_24 (by decide) ?_
    refine J_aload_n hx dX7_gameOf_25 (i := 0) rfl rfl ?_
    refine J_getI2 (v := ((S.1.tn : Nat) : Int)) hx fl_X7_148 cl_X7 dX7_gameOf_26 hX.t.o (by decide) rfl (hX.n.y.tn hW.y) ?_
    have rg7 := hW.y.tn2
    refine J_isub (v := ((1 - S.1.tn : Nat) : Int)) hx dX7_gameOf_29 (by rw [w32_id (by omega) (by omega)]; omega) ?_
    refine J_iald2 (v := (((S.1.ch (1 - S.1.tn)).length : Nat) : Int)) hx (1 - S.1.tn) dX7_gameOf_30 hX.t.k25 (by omega) (hX.t.l25 (by omega)) (hX.n.y.sz (by omega)) ?_
    have rg8 := hW.y.len8 (c := 1 - S.1.tn) (by omega)
    have rg9 := hW.y.lenN (c := 1 - S.1.tn) (by omega)
    refine J_isub (v := (((S.1.ch S.1.tn).length : Nat) : Int) - (((S.1.ch (1 - S.1.tn)).length : Nat) : Int)) hx dX7_gameOf_31 (w32_id (by omega) (by omega)) ?_
    refine J_iret hx hr dX7_gameOf_32 ?_
    exfalso; unfold overY at *; omega

set_option maxHeartbeats 4000000 in
theorem c_X7_game {g : WG} {d : Nat} {T : TT} {M : MM} {r sz : Nat} {S : ST} {Q : MVal → TT → MM → Nat → Prop} (hX : RX T M r sz S) (hW : WFS S) {d1 : Int} (h_d : -2147483648 ≤ d1 ∧ d1 ≤ 2147483647) (hQ : RQX r T M sz Q (a_game S d1)) : Ct g (d + 7) mX7_game [vR (r), vI (d1)] T M sz 261 6993 Q := by
  refine Ct_of2 (ls := [vR (r), vI (d1)]) okX7_game rfl (Nat.le_of_ble_eq_true rfl) rfl ?_
  intro x hx hr hnm
  have hT := hX.t
  have hN := hX.n
  have hn8 := hW.y.n8
  have ht2 := hW.y.tn2
  have hl8 := hW.y.len8 ht2
  refine J_iload_n hx dX7_game_0 (i := 1) rfl rfl ?_
  refine J_i2l hx dX7_game_1 ?_
  refine J_lconst (v := 0) hx dX7_game_2 (by decide) ?_
  refine J_ldc2 (v := 2) hx ct_X7_137 dX7_game_3 (by decide) ?_
  refine J_invS (As := [vL (d1), vL (0), vL (2)]) (st := []) hx lk_X7_85 okX7_in dX7_game_6 rfl rfl (Nat.le_of_ble_eq_true rfl) (Nat.zero_add _).symm (Nat.zero_add _).symm rfl (c_X7_in (a := d1) (lo := 0) (hi := 2) ?_)
  intro v1 hv1
  refine J_if_ne (tgt := 23) hx dX7_game_9 (by decide) (fun c2 => ?_) (fun c2 => ?_)
  · refine J_aload_n hx dX7_game_23 (i := 0) rfl rfl ?_
    refine J_invV (As := []) (st := []) hx lk_X7_208 okX7_isOver dX7_game_24 hX.t.o (by decide) rfl rfl rfl (Nat.le_of_ble_eq_true rfl) (Nat.zero_add _).symm (Nat.zero_add _).symm rfl (c_X7_isOver hX.t hX.n.y hW.y  ?_)
    intro v3 hv3
    refine J_if_eq (tgt := 43) hx dX7_game_27 (by decide) (fun c4 => ?_) (fun c4 => ?_)
    · rcases (show d1 = 0 ∨ d1 = 1 ∨ d1 = 2 by omega) with rfl | rfl | rfl
      · refine J_aload_n hx dX7_game_43 (i := 0) rfl rfl ?_
        refine J_iload_n hx dX7_game_44 (i := 1) rfl rfl ?_
        refine J_invV (As := [vI (0)]) (st := []) hx lk_X7_333 okX7_gameOf dX7_game_45 hX.t.o (by decide) rfl rfl rfl (Nat.le_of_ble_eq_true rfl) (Nat.zero_add _).symm (Nat.zero_add _).symm rfl (c_X7_gameOf_0 hT hN.y hW.y ?_)
        refine J_iret hx hr dX7_game_48 ?_
        exact hQ.to (v := gmV 0 S.1) (S := S) (by
          unfold a_game
          all_goals (try unfold overY at *)
          all_goals (try unfold mayQ at *)
          all_goals (try simp only [Int.toNat_natCast] at *)
          all_goals ((repeat' split) <;> first | rfl | (exfalso; omega) | (congr 1; omega) | (rw [show Int.toNat 0 = 0 from rfl]))) hX (fun b hb => ⟨rfl, rfl⟩)
      · refine J_aload_n hx dX7_game_43 (i := 0) rfl rfl ?_
        refine J_iload_n hx dX7_game_44 (i := 1) rfl rfl ?_
        refine J_invV (As := [vI (1)]) (st := []) hx lk_X7_333 okX7_gameOf dX7_game_45 hX.t.o (by decide) rfl rfl rfl (Nat.le_of_ble_eq_true rfl) (Nat.add_zero _).symm (Nat.add_zero _).symm rfl (c_X7_gameOf_1x hX hW (fun q9 => by unfold overY at *; omega) ?_)
        intro T1 M1 sz1 hX1 hlo hch
        refine J_iret hx hr dX7_game_48 ?_
        exact hQ.to (v := gmV 1 S.1) (S := S) (by
          unfold a_game
          all_goals (try unfold overY at *)
          all_goals (try unfold mayQ at *)
          all_goals (try simp only [Int.toNat_natCast] at *)
          all_goals ((repeat' split) <;> first | rfl | (exfalso; omega) | (congr 1; omega) | (rw [show Int.toNat 1 = 1 from rfl]))) hX1 hlo
      · refine J_aload_n hx dX7_game_43 (i := 0) rfl rfl ?_
        refine J_iload_n hx dX7_game_44 (i := 1) rfl rfl ?_
        refine J_invV (As := [vI (2)]) (st := []) hx lk_X7_333 okX7_gameOf dX7_game_45 hX.t.o (by decide) rfl rfl rfl (Nat.le_of_ble_eq_true rfl) (Nat.add_zero _).symm (Nat.add_zero _).symm rfl (c_X7_gameOf_2x hX hW (fun q9 => by unfold overY at *; omega) ?_)
        intro T1 M1 sz1 hX1 hlo hch
        refine J_iret hx hr dX7_game_48 ?_
        exact hQ.to (v := gmV 2 S.1) (S := S) (by
          unfold a_game
          all_goals (try unfold overY at *)
          all_goals (try unfold mayQ at *)
          all_goals (try simp only [Int.toNat_natCast] at *)
          all_goals ((repeat' split) <;> first | rfl | (exfalso; omega) | (congr 1; omega) | (rw [show Int.toNat 2 = 2 from rfl]))) hX1 hlo
    · refine J_sipush (v := -1000) hx dX7_game_30 (by decide) ?_
      refine J_aload_n hx dX7_game_33 (i := 0) rfl rfl ?_
      refine J_bipush (v := -5) hx dX7_game_34 (by decide) ?_
      refine J_invV (As := [vI ((-5))]) (st := [vI ((-1000))]) hx lk_X7_99 okX7_refuse dX7_game_36 hX.t.o (by decide) rfl rfl rfl (Nat.le_of_ble_eq_true rfl) (Nat.zero_add _).symm (Nat.zero_add _).symm rfl (c_X7_refuseS hT hN hW (k := 3) (by decide) ?_)
      intro M1 hN1 hf1
      refine J_iadd (v := (-1005)) hx dX7_game_39 (w32_id (by decide) (by decide)) ?_
      refine J_goto (tgt := 48) hx dX7_game_40 (by decide) ?_
      refine J_iret hx hr dX7_game_48 ?_
      exact hQ.to (v := (-1005)) (S := rfS S 3) (by
        unfold a_game
        all_goals (try unfold overY at *)
        all_goals (try unfold mayQ at *)
        all_goals (try simp only [Int.toNat_natCast] at *)
        all_goals ((repeat' split) <;> first | rfl | (exfalso; omega) | (congr 1; omega))) (hX.rq rfl hN1 hf1) (fun b hb => ⟨rfl, hf1 b (Or.inl hb)⟩)
  · refine J_sipush (v := -1000) hx dX7_game_12 (by decide) ?_
    refine J_aload_n hx dX7_game_15 (i := 0) rfl rfl ?_
    refine J_bipush (v := -2) hx dX7_game_16 (by decide) ?_
    refine J_invV (As := [vI ((-2))]) (st := [vI ((-1000))]) hx lk_X7_99 okX7_refuse dX7_game_18 hX.t.o (by decide) rfl rfl rfl (Nat.le_of_ble_eq_true rfl) (Nat.zero_add _).symm (Nat.zero_add _).symm rfl (c_X7_refuseS hT hN hW (k := 0) (by decide) ?_)
    intro M1 hN1 hf1
    refine J_iadd (v := (-1002)) hx dX7_game_21 (w32_id (by decide) (by decide)) ?_
    refine J_iret hx hr dX7_game_22 ?_
    exact hQ.to (v := (-1002)) (S := rfS S 0) (by
      unfold a_game
      all_goals (try unfold overY at *)
      all_goals (try unfold mayQ at *)
      all_goals (try simp only [Int.toNat_natCast] at *)
      all_goals ((repeat' split) <;> first | rfl | (exfalso; omega) | (congr 1; omega))) (hX.rq rfl hN1 hf1) (fun b hb => ⟨rfl, hf1 b (Or.inl hb)⟩)

set_option maxHeartbeats 4000000 in
theorem c_X7_first {g : WG} {d : Nat} {T : TT} {M : MM} {r sz : Nat} {S : ST} {Q : MVal → TT → MM → Nat → Prop} (hX : RX T M r sz S) (hW : WFS S) {d1 : Int} (h_d : -2147483648 ≤ d1 ∧ d1 ≤ 2147483647) (hQ : RQX r T M sz Q (a_first S d1)) : Ct g (d + 7) mX7_first [vR (r), vI (d1)] T M sz 261 6993 Q := by
  refine Ct_of2 (ls := [vR (r), vI (d1)]) okX7_first rfl (Nat.le_of_ble_eq_true rfl) rfl ?_
  intro x hx hr hnm
  have hT := hX.t
  have hN := hX.n
  have hn8 := hW.y.n8
  have ht2 := hW.y.tn2
  have hl8 := hW.y.len8 ht2
  refine J_iload_n hx dX7_first_0 (i := 1) rfl rfl ?_
  refine J_i2l hx dX7_first_1 ?_
  refine J_lconst (v := 1) hx dX7_first_2 (by decide) ?_
  refine J_ldc2 (v := 2) hx ct_X7_137 dX7_first_3 (by decide) ?_
  refine J_invS (As := [vL (d1), vL (1), vL (2)]) (st := []) hx lk_X7_85 okX7_in dX7_first_6 rfl rfl (Nat.le_of_ble_eq_true rfl) (Nat.zero_add _).symm (Nat.zero_add _).symm rfl (c_X7_in (a := d1) (lo := 1) (hi := 2) ?_)
  intro v1 hv1
  refine J_if_ne (tgt := 19) hx dX7_first_9 (by decide) (fun c2 => ?_) (fun c2 => ?_)
  · refine J_aload_n hx dX7_first_19 (i := 0) rfl rfl ?_
    refine J_invV (As := []) (st := []) hx lk_X7_208 okX7_isOver dX7_first_20 hX.t.o (by decide) rfl rfl rfl (Nat.le_of_ble_eq_true rfl) (Nat.zero_add _).symm (Nat.zero_add _).symm rfl (c_X7_isOver hX.t hX.n.y hW.y  ?_)
    intro v3 hv3
    refine J_if_eq (tgt := 33) hx dX7_first_23 (by decide) (fun c4 => ?_) (fun c4 => ?_)
    · rcases (show d1 = 1 ∨ d1 = 2 by omega) with rfl | rfl
      · refine J_aload_n hx dX7_first_33 (i := 0) rfl rfl ?_
        refine J_iload_n hx dX7_first_34 (i := 1) rfl rfl ?_
        refine J_invV (As := [vI (1)]) (st := []) hx lk_X7_333 okX7_gameOf dX7_first_35 hX.t.o (by decide) rfl rfl rfl (Nat.le_of_ble_eq_true rfl) (Nat.add_zero _).symm (Nat.add_zero _).symm rfl (c_X7_gameOf_1x hX hW (fun q9 => by unfold overY at *; omega) ?_)
        intro T1 M1 sz1 hX1 hlo hch
        refine J_pop hx dX7_first_38 rfl ?_
        refine J_aload_n hx dX7_first_39 (i := 0) rfl rfl ?_
        refine J_getI2 (v := gmC (gmV 0) S.1) hx fl_X7_330 cl_X7 dX7_first_40 hX1.t.o (by decide) rfl hch ?_
        refine J_iret hx hr dX7_first_43 ?_
        exact hQ.to (v := gmC (gmV 0) S.1) (S := S) (by
          unfold a_first
          all_goals (try unfold overY at *)
          all_goals (try unfold mayQ at *)
          all_goals (try simp only [Int.toNat_natCast] at *)
          all_goals ((repeat' split) <;> first | rfl | (exfalso; omega) | (congr 1; omega) | (rw [show Int.toNat 1 = 1 from rfl]))) hX1 hlo
      · refine J_aload_n hx dX7_first_33 (i := 0) rfl rfl ?_
        refine J_iload_n hx dX7_first_34 (i := 1) rfl rfl ?_
        refine J_invV (As := [vI (2)]) (st := []) hx lk_X7_333 okX7_gameOf dX7_first_35 hX.t.o (by decide) rfl rfl rfl (Nat.le_of_ble_eq_true rfl) (Nat.add_zero _).symm (Nat.add_zero _).symm rfl (c_X7_gameOf_2x hX hW (fun q9 => by unfold overY at *; omega) ?_)
        intro T1 M1 sz1 hX1 hlo hch
        refine J_pop hx dX7_first_38 rfl ?_
        refine J_aload_n hx dX7_first_39 (i := 0) rfl rfl ?_
        refine J_getI2 (v := gmC (gmV 1) S.1) hx fl_X7_330 cl_X7 dX7_first_40 hX1.t.o (by decide) rfl hch ?_
        refine J_iret hx hr dX7_first_43 ?_
        exact hQ.to (v := gmC (gmV 1) S.1) (S := S) (by
          unfold a_first
          all_goals (try unfold overY at *)
          all_goals (try unfold mayQ at *)
          all_goals (try simp only [Int.toNat_natCast] at *)
          all_goals ((repeat' split) <;> first | rfl | (exfalso; omega) | (congr 1; omega) | (rw [show Int.toNat 2 = 2 from rfl]))) hX1 hlo
    · refine J_aload_n hx dX7_first_26 (i := 0) rfl rfl ?_
      refine J_bipush (v := -5) hx dX7_first_27 (by decide) ?_
      refine J_invV (As := [vI ((-5))]) (st := []) hx lk_X7_99 okX7_refuse dX7_first_29 hX.t.o (by decide) rfl rfl rfl (Nat.le_of_ble_eq_true rfl) (Nat.zero_add _).symm (Nat.zero_add _).symm rfl (c_X7_refuseS hT hN hW (k := 3) (by decide) ?_)
      intro M1 hN1 hf1
      refine J_iret hx hr dX7_first_32 ?_
      exact hQ.to (v := -((3 + 2 : Nat) : Int)) (S := rfS S 3) (by
        unfold a_first
        all_goals (try unfold overY at *)
        all_goals (try unfold mayQ at *)
        all_goals (try simp only [Int.toNat_natCast] at *)
        all_goals ((repeat' split) <;> first | rfl | (exfalso; omega) | (congr 1; omega))) (hX.rq rfl hN1 hf1) (fun b hb => ⟨rfl, hf1 b (Or.inl hb)⟩)
  · refine J_aload_n hx dX7_first_12 (i := 0) rfl rfl ?_
    refine J_bipush (v := -2) hx dX7_first_13 (by decide) ?_
    refine J_invV (As := [vI ((-2))]) (st := []) hx lk_X7_99 okX7_refuse dX7_first_15 hX.t.o (by decide) rfl rfl rfl (Nat.le_of_ble_eq_true rfl) (Nat.zero_add _).symm (Nat.zero_add _).symm rfl (c_X7_refuseS hT hN hW (k := 0) (by decide) ?_)
    intro M1 hN1 hf1
    refine J_iret hx hr dX7_first_18 ?_
    exact hQ.to (v := -((0 + 2 : Nat) : Int)) (S := rfS S 0) (by
      unfold a_first
      all_goals (try unfold overY at *)
      all_goals (try unfold mayQ at *)
      all_goals (try simp only [Int.toNat_natCast] at *)
      all_goals ((repeat' split) <;> first | rfl | (exfalso; omega) | (congr 1; omega))) (hX.rq rfl hN1 hf1) (fun b hb => ⟨rfl, hf1 b (Or.inl hb)⟩)

